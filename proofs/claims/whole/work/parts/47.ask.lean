def LQ0 (F : Nat → Int32) (A b c d R : Nat) : Nat → Int32 := DS (DS (DS F (A + 16 * b) R 16 1 c) (A + 16 * c) (R + 16) 64 3 d) (A + 16 * d) (R + 80) 1 2 0
theorem lay_C0 (v : Nat → Int32) (f : Nat → Nat → Int32) {A b c d R : Nat} (h1 : A + 16 * b + 16 ≤ 4096) (h2 : A + 16 * c + 16 ≤ 4096) (h3 : A + 16 * d + 16 ≤ 4096) (hR : R + 96 ≤ 4096) : S_X3_layRequest v f (nI A) (nI b) (nI c) (nI d) (nI R) 0 = va_up f 2 (LQ0 (f 2) A b c d R) := by
  unfold S_X3_layRequest LQ0
  rw [if_pos rfl]
  unfold Q_X3_layRequest_5 Q_X3_layRequest_4 Q_X3_layRequest_1
  have e1 : nI A + 16 * nI b = nI (A + 16 * b) := lin A 16 b
  have e2 : nI A + 16 * nI c = nI (A + 16 * c) := lin A 16 c
  have e3 : nI A + 16 * nI d = nI (A + 16 * d) := lin A 16 d
  have e4 : nI R + 16 = nI (R + 16) := nI_add R 16
  have e5 : nI R + 80 = nI (R + 80) := nI_add R 80
  have d1 : S_X5_setDescriptor v f (nI (A + 16 * b)) (nI R) 16 1 (nI c) = _ := ds_C v f (p := A + 16 * b) (b := R) (c := 16) (d := 1) (e := c) (by omega) (by omega) (by decide) (by decide) (by omega)
  have d2 : ∀ F : Nat → Nat → Int32, S_X5_setDescriptor v F (nI (A + 16 * c)) (nI (R + 16)) 64 3 (nI d) = _ := fun F => ds_C v F (p := A + 16 * c) (b := R + 16) (c := 64) (d := 3) (e := d) (by omega) (by omega) (by decide) (by decide) (by omega)
  have d3 : ∀ F : Nat → Nat → Int32, S_X5_setDescriptor v F (nI (A + 16 * d)) (nI (R + 80)) 1 2 0 = _ := fun F => ds_C v F (p := A + 16 * d) (b := R + 80) (c := 1) (d := 2) (e := 0) (by omega) (by omega) (by decide) (by decide) (by decide)
  rw [e1, e2, e3, e4, e5, d1, d2, d3, up_up, up_up, va_up_self, va_up_self]
theorem EQ.lq0 {F G : Nat → Int32} (h : EQ F G) (A b c d R : Nat) : EQ (LQ0 F A b c d R) (LQ0 G A b c d R) := ((h.ds _ _ _ _ _).ds _ _ _ _ _).ds _ _ _ _ _
/-- the head of a table and the table, in either order -/
theorem lq_sw0 {F G : Nat → Int32} (h : EQ F G) {A R d b c e x : Nat} (hA : d + 16 ≤ A) : EQ (LQ0 (DS F d b c e x) A 0 1 2 R) (DS (LQ0 G A 0 1 2 R) d b c e x) := by
  intro k hk
  by_cases c1 : d ≤ k ∧ k < d + 16
  · unfold LQ0
    rw [DS_out (by omega), DS_out (by omega), DS_out (by omega)]
    exact DS_in c1.1 c1.2
  · rw [DS_out (p := d) (by omega)]
    refine DS_cg (DS_cg (DS_cg ?_))
    rw [DS_out (p := d) (by omega)]
    exact h k hk
def LQ1 (F : Nat → Int32) (A b c d R : Nat) : Nat → Int32 := DS (DS (DS F (A + 16 * b) R 16 1 c) (A + 16 * c) (R + 16) 64 1 d) (A + 16 * d) (R + 80) 1 2 0
theorem lay_C1 (v : Nat → Int32) (f : Nat → Nat → Int32) {A b c d R : Nat} (h1 : A + 16 * b + 16 ≤ 4096) (h2 : A + 16 * c + 16 ≤ 4096) (h3 : A + 16 * d + 16 ≤ 4096) (hR : R + 96 ≤ 4096) : S_X3_layRequest v f (nI A) (nI b) (nI c) (nI d) (nI R) 1 = va_up f 2 (LQ1 (f 2) A b c d R) := by
  unfold S_X3_layRequest LQ1
  rw [if_neg (by decide)]
  unfold Q_X3_layRequest_3 Q_X3_layRequest_2 Q_X3_layRequest_1
  have e1 : nI A + 16 * nI b = nI (A + 16 * b) := lin A 16 b
  have e2 : nI A + 16 * nI c = nI (A + 16 * c) := lin A 16 c
  have e3 : nI A + 16 * nI d = nI (A + 16 * d) := lin A 16 d
  have e4 : nI R + 16 = nI (R + 16) := nI_add R 16
  have e5 : nI R + 80 = nI (R + 80) := nI_add R 80
  have d1 : S_X5_setDescriptor v f (nI (A + 16 * b)) (nI R) 16 1 (nI c) = _ := ds_C v f (p := A + 16 * b) (b := R) (c := 16) (d := 1) (e := c) (by omega) (by omega) (by decide) (by decide) (by omega)
  have d2 : ∀ F : Nat → Nat → Int32, S_X5_setDescriptor v F (nI (A + 16 * c)) (nI (R + 16)) 64 1 (nI d) = _ := fun F => ds_C v F (p := A + 16 * c) (b := R + 16) (c := 64) (d := 1) (e := d) (by omega) (by omega) (by decide) (by decide) (by omega)
  have d3 : ∀ F : Nat → Nat → Int32, S_X5_setDescriptor v F (nI (A + 16 * d)) (nI (R + 80)) 1 2 0 = _ := fun F => ds_C v F (p := A + 16 * d) (b := R + 80) (c := 1) (d := 2) (e := 0) (by omega) (by omega) (by decide) (by decide) (by decide)
  rw [e1, e2, e3, e4, e5, d1, d2, d3, up_up, up_up, va_up_self, va_up_self]
theorem EQ.lq1 {F G : Nat → Int32} (h : EQ F G) (A b c d R : Nat) : EQ (LQ1 F A b c d R) (LQ1 G A b c d R) := ((h.ds _ _ _ _ _).ds _ _ _ _ _).ds _ _ _ _ _
/-- the head of a table and the table, in either order -/
theorem lq_sw1 {F G : Nat → Int32} (h : EQ F G) {A R d b c e x : Nat} (hA : d + 16 ≤ A) : EQ (LQ1 (DS F d b c e x) A 0 1 2 R) (DS (LQ1 G A 0 1 2 R) d b c e x) := by
  intro k hk
  by_cases c1 : d ≤ k ∧ k < d + 16
  · unfold LQ1
    rw [DS_out (by omega), DS_out (by omega), DS_out (by omega)]
    exact DS_in c1.1 c1.2
  · rw [DS_out (p := d) (by omega)]
    refine DS_cg (DS_cg (DS_cg ?_))
    rw [DS_out (p := d) (by omega)]
    exact h k hk
theorem fill_C0 (v : Nat → Int32) (f : Nat → Nat → Int32) {R s m : Nat} (hR : R + 96 ≤ 4096) (hs : s < 2 ^ 31) : S_X3_fillRequest v f (nI R) 0 (nI s) (lN m) = va_up f 2 (WR (WR (f 2) R 8 (bx 0)) (R + 8) 8 (bx s)) := by
  unfold S_X3_fillRequest Q_X3_fillRequest_2 Q_X3_fillRequest_1
  have e1 : nI R + 8 = nI (R + 8) := nI_add R 8
  have p1 : S_X5_setNumber v f (nI R) ((0 : Int32).toInt64) 8 = _ := put_C v f R 0 8 (by omega) (by decide) (by decide)
  rw [if_neg (by decide), e1, nI_l hs, p1, put_C _ _ _ _ _ (by omega) (by decide) (by omega), up_up, va_up_self]
theorem fill_C1 (v : Nat → Int32) (f : Nat → Nat → Int32) {R s m : Nat} (hR : R + 96 ≤ 4096) (hs : s < 2 ^ 31) (hm : m < 2 ^ 64) : S_X3_fillRequest v f (nI R) 1 (nI s) (lN m) = va_up f 2 (WR (WR (WR (f 2) R 8 (bx 1)) (R + 8) 8 (bx s)) (R + 16) 64 (fun k => b8 (px m k))) := by
  unfold S_X3_fillRequest Q_X3_fillRequest_3 Q_X3_fillRequest_2 Q_X3_fillRequest_1
  have e1 : nI R + 8 = nI (R + 8) := nI_add R 8
  have e2 : nI R + 16 = nI (R + 16) := nI_add R 16
  have p1 : S_X5_setNumber v f (nI R) ((1 : Int32).toInt64) 8 = _ := put_C v f R 1 8 (by omega) (by decide) (by decide)
  have fC : ∀ F : Nat → Nat → Int32, S_X3_fillPattern v F (nI (R + 16)) 64 (lN m) = va_up F 2 (WR (F 2) (R + 16) 64 (fun k => b8 (px m k))) := fun F => by
    unfold S_X3_fillPattern
    exact fp_C v F (R + 16) m 64 hm 64 (by omega)
  rw [if_pos rfl, e1, e2, nI_l hs, p1, put_C _ _ _ _ _ (by omega) (by decide) (by omega), fC, up_up, up_up, va_up_self, va_up_self]
theorem aX9_ask_M (u : Nat → Int32) (g : Nat → Nat → Int32) (a b : Int32) (R m d : Nat) (hm : m < 2 ^ 64) (hL : (S_X9_lend u g (-1) 0).1 = nI d) (hp : R = 1024 + 96 * d) : ∀ i : Nat, R + 16 + i ≤ 4096 → L_X9_ask u g a b (lN m) i = va_up (Q_X9_ask_8 u g a b (lN m)) 23 (WR (Q_X9_ask_8 u g a b (lN m) 23) (R + 16) i (fun k => b8 (px m k))) := by
  intro i
  induction i with
  | zero => intro _; rw [WR_0, up_id]; rfl
  | succ i ih =>
    intro hi
    have e3 : (((1024 : Int32) + 96 * nI d) + 16) + nI i = nI (R + 16 + i) := by rw [show (1024 : Int32) + 96 * nI d = nI (1024 + 96 * d) from lin 1024 96 d, show (16 : Int32) = nI 16 from rfl, nI_add, nI_add, hp]
    have hs := WR_s (Q_X9_ask_8 u g a b (lN m) 23) (R + 16) i (fun k => b8 (px m k))
    rw [L_X9_ask, ih (by omega), hL, e3, nI_clamp (by omega), pat_M _ _ _ _ hm (by omega), va_up_self, up_up, ← hs]
    rfl
theorem aX9_ask2_M (u : Nat → Int32) (g : Nat → Nat → Int32) (a b : Int32) (R m d : Nat) (hm : m < 2 ^ 64) (hL : (S_X9_lend u g (-1) 0).1 = nI d) (hp : R = 1024 + 96 * d) : ∀ i : Nat, R + 16 + i ≤ 4096 → L_X9_ask2 u g a b (lN m) i = va_up (Q_X9_ask_19 u g a b (lN m)) 23 (WR (Q_X9_ask_19 u g a b (lN m) 23) (R + 16) i (fun k => b8 (px m k))) := by
  intro i
  induction i with
  | zero => intro _; rw [WR_0, up_id]; rfl
  | succ i ih =>
    intro hi
    have e3 : (((1024 : Int32) + 96 * nI d) + 16) + nI i = nI (R + 16 + i) := by rw [show (1024 : Int32) + 96 * nI d = nI (1024 + 96 * d) from lin 1024 96 d, show (16 : Int32) = nI 16 from rfl, nI_add, nI_add, hp]
    have hs := WR_s (Q_X9_ask_19 u g a b (lN m) 23) (R + 16) i (fun k => b8 (px m k))
    rw [L_X9_ask2, ih (by omega), hL, e3, nI_clamp (by omega), pat_M _ _ _ _ hm (by omega), va_up_self, up_up, ← hs]
    rfl
theorem ask_d0 {c9 : Nat} {v : Nat → Int32} {f : Nat → Nat → Int32} {u : Nat → Int32} {g : Nat → Nat → Int32} (h : SIM c9 v f u g) (h2 : u 2 = 1) (hz : 3 ≤ fz (g 38) 0 8) {s m : Nat} (hs : s < 2 ^ 31) (hm : m < 2 ^ 64) : (S_X4_lendFirst_16 v f).1 = (S_X9_lend u g (-1) 0).1 ∧ SIM c9 (Q_X3_ask_10 v f 0 (nI s) (lN m)) (Q_X3_ask_11 v f 0 (nI s) (lN m)) u (Q_X9_ask_21 u g 0 (nI s) (lN m)) := by
  obtain ⟨d, v1, f1, hd, eC1, eM1, -, hS1, hh1, k1, z1, z2⟩ := lF_0 h h2 (fz_ex (n := 8) (by omega))
  obtain ⟨e, v2, f2, he, eC2, eM2, -, hS2, hh2, k2, z3, z4⟩ := lnx_0 hS1 h2 hd hh1 (fz_ex (n := 8) (by omega))
  obtain ⟨k, v3, f3, hk, eC3, eM3, -, hS3, -⟩ := lnx_0 hS2 h2 hd hh2 (fz_ex (n := 8) (by omega))
  refine ⟨by rw [eC1, eM1], ?_⟩
  obtain ⟨R, hR⟩ : ∃ R : Nat, R = 1024 + 96 * d := ⟨_, rfl⟩
  have eR : (1024 : Int32) + 96 * nI d = nI R := by rw [hR]; exact lin 1024 96 d
  obtain ⟨G, hG⟩ : ∃ G : Nat → Nat → Int32, G = LD (LD (LD g 0 d (-1)) 0 e (nI d)) 0 k (nI d) := ⟨_, rfl⟩
  rw [← hG] at eM3 hS3
  have h19 : Q_X9_ask_19 u g 0 (nI s) (lN m) = va_up G 23 (WR (WR (LQ0 (G 23) 0 d e k R) R 8 (bx 0)) (R + 8) 8 (bx s)) := by
    unfold Q_X9_ask_19 Q_X9_ask_18 Q_X9_ask_17 Q_X9_ask_16 Q_X9_ask_15 Q_X9_ask_14 Q_X9_ask_13 Q_X9_ask_12 Q_X9_ask_11 Q_X9_ask_2
    rw [eM1]
    dsimp only
    rw [eM2]
    dsimp only
    rw [eM3]
    dsimp only
    have e1 : (16 : Int32) * nI d = nI (0 + 16 * d) := by rw [Nat.zero_add]; exact pk_mul 16 d
    have e2 : (0 : Int32) + 16 * nI e = nI (0 + 16 * e) := lin 0 16 e
    have e3 : (0 : Int32) + 16 * nI k = nI (0 + 16 * k) := lin 0 16 k
    have e4 : nI R + 16 = nI (R + 16) := nI_add R 16
    have e5 : nI R + 80 = nI (R + 80) := nI_add R 80
    have e6 : nI R + 8 = nI (R + 8) := nI_add R 8
    have d1 : S_X9_describe u G (nI (0 + 16 * d)) (nI R) 16 1 (nI e) = _ := ds_M u G (p := 0 + 16 * d) (b := R) (c := 16) (d := 1) (e := e) (by omega) (by omega) (by decide) (by decide) (by omega)
    have d2 : ∀ F : Nat → Nat → Int32, S_X9_describe u F (nI (0 + 16 * e)) (nI (R + 16)) 64 3 (nI k) = _ := fun F => ds_M u F (p := 0 + 16 * e) (b := R + 16) (c := 64) (d := 3) (e := k) (by omega) (by omega) (by decide) (by decide) (by omega)
    have d3 : ∀ F : Nat → Nat → Int32, S_X9_describe u F (nI (0 + 16 * k)) (nI (R + 80)) 1 2 0 = _ := fun F => ds_M u F (p := 0 + 16 * k) (b := R + 80) (c := 1) (d := 2) (e := 0) (by omega) (by omega) (by decide) (by decide) (by decide)
    have p1 : ∀ F : Nat → Nat → Int32, S_X9_put u F (nI R) ((0 : Int32).toInt64) 8 = _ := fun F => put_M u F R 0 8 (by omega) (by decide) (by decide)
    rw [if_pos rfl]
    rw [eR, e1, e2, e3, e4, e5, e6, d1, d2, d3, p1, nI_l hs, put_M _ _ _ _ _ (by omega) (by decide) (by omega)]
    simp only [up_up, va_up_self]
    rfl
  unfold Q_X9_ask_21
  rw [h19, eM1]
  unfold Q_X3_ask_10 Q_X3_ask_11 Q_X3_ask_9 Q_X3_ask_8 Q_X3_ask_7 Q_X3_ask_6 Q_X3_ask_5 Q_X3_ask_4 Q_X3_ask_3 Q_X3_ask_2 Q_X3_ask_1
  rw [eC1]
  dsimp only
  rw [eC2]
  dsimp only
  rw [eC3]
  dsimp only
  rw [eR, show S_X8_descriptorsOf v3 f3 0 = nI 0 from rfl, lay_C0 v3 f3 (by omega) (by omega) (by omega) (by omega), fill_C0 _ _ (by omega) hs, up_up, va_up_self]
  have hE : EQ (f3 2) (G 23) := hS3.mem
  exact of_0 (hS3.wr (((hE.lq0 _ _ _ _ _).wr _ _ _).wr _ _ _)) hd
theorem ask_t0 {c9 : Nat} {v : Nat → Int32} {f : Nat → Nat → Int32} {u : Nat → Int32} {g : Nat → Nat → Int32} (h : SIM c9 v f u g) (h2 : u 2 = 1) (hz : 1 ≤ fz (g 38) 0 8) {s m : Nat} (hs : s < 2 ^ 31) (hm : m < 2 ^ 64) : (S_X4_lendFirst_16 v f).1 = (S_X9_lend u g (-1) 0).1 ∧ SIM c9 (Q_X3_ask_16 v f 0 (nI s) (lN m)) (Q_X3_ask_17 v f 0 (nI s) (lN m)) u (Q_X9_ask_10 u g 0 (nI s) (lN m)) := by
  obtain ⟨d, v1, f1, hd, eC1, eM1, -, hS1, -⟩ := lF_0 h h2 (fz_ex (n := 8) (by omega))
  refine ⟨by rw [eC1, eM1], ?_⟩
  obtain ⟨R, hR⟩ : ∃ R : Nat, R = 1024 + 96 * d := ⟨_, rfl⟩
  obtain ⟨T, hT⟩ : ∃ T : Nat, T = 1792 + 64 * d := ⟨_, rfl⟩
  have eR : (1024 : Int32) + 96 * nI d = nI R := by rw [hR]; exact lin 1024 96 d
  have eT : (1792 : Int32) + 64 * nI d = nI T := by rw [hT]; exact lin 1792 64 d
  obtain ⟨G, hG⟩ : ∃ G : Nat → Nat → Int32, G = LD g 0 d (-1) := ⟨_, rfl⟩
  rw [← hG] at eM1 hS1
  have h8 : Q_X9_ask_8 u g 0 (nI s) (lN m) = va_up G 23 (WR (WR (DS (LQ0 (G 23) T 0 1 2 R) (16 * d) T 48 4 0) R 8 (bx 0)) (R + 8) 8 (bx s)) := by
    unfold Q_X9_ask_8 Q_X9_ask_7 Q_X9_ask_6 Q_X9_ask_5 Q_X9_ask_4 Q_X9_ask_3 Q_X9_ask_2
    rw [eM1]
    dsimp only
    have e1 : (16 : Int32) * nI d = nI (16 * d) := pk_mul 16 d
    have e2 : nI T + 16 * 1 = nI (T + 16) := nI_add T 16
    have e3 : nI T + 16 * 2 = nI (T + 32) := nI_add T 32
    have e4 : nI R + 16 = nI (R + 16) := nI_add R 16
    have e5 : nI R + 80 = nI (R + 80) := nI_add R 80
    have e6 : nI R + 8 = nI (R + 8) := nI_add R 8
    have d1 : S_X9_describe u G (nI T) (nI R) 16 1 1 = _ := ds_M u G (p := T) (b := R) (c := 16) (d := 1) (e := 1) (by omega) (by omega) (by decide) (by decide) (by decide)
    have d2 : ∀ F : Nat → Nat → Int32, S_X9_describe u F (nI (T + 16)) (nI (R + 16)) 64 3 2 = _ := fun F => ds_M u F (p := T + 16) (b := R + 16) (c := 64) (d := 3) (e := 2) (by omega) (by omega) (by decide) (by decide) (by decide)
    have d3 : ∀ F : Nat → Nat → Int32, S_X9_describe u F (nI (T + 32)) (nI (R + 80)) 1 2 0 = _ := fun F => ds_M u F (p := T + 32) (b := R + 80) (c := 1) (d := 2) (e := 0) (by omega) (by omega) (by decide) (by decide) (by decide)
    have d4 : ∀ F : Nat → Nat → Int32, S_X9_describe u F (nI (16 * d)) (nI T) 48 4 0 = _ := fun F => ds_M u F (p := 16 * d) (b := T) (c := 48) (d := 4) (e := 0) (by omega) (by omega) (by decide) (by decide) (by decide)
    have p1 : ∀ F : Nat → Nat → Int32, S_X9_put u F (nI R) ((0 : Int32).toInt64) 8 = _ := fun F => put_M u F R 0 8 (by omega) (by decide) (by decide)
    rw [if_pos rfl]
    rw [eR, eT, e1, e2, e3, e4, e5, e6, d1, d2, d3, d4, p1, nI_l hs, put_M _ _ _ _ _ (by omega) (by decide) (by omega)]
    simp only [up_up, va_up_self]
    rfl
  unfold Q_X9_ask_10
  rw [h8, eM1]
  unfold Q_X3_ask_16 Q_X3_ask_17 Q_X3_ask_15 Q_X3_ask_14 Q_X3_ask_13 Q_X3_ask_12 S_X3_descriptorAt S_X8_descriptorsOf
  rw [eC1]
  dsimp only
  have e1 : (256 : Int32) * 0 + 16 * nI d = nI (16 * d) := by rw [show (256 : Int32) * 0 = nI 0 from rfl, show (16 : Int32) = nI 16 from rfl, pk_mul, nI_add, Nat.zero_add]
  have d1 : S_X5_setDescriptor v1 f1 (nI (16 * d)) (nI T) 48 4 0 = _ := ds_C v1 f1 (p := 16 * d) (b := T) (c := 48) (d := 4) (e := 0) (by omega) (by omega) (by decide) (by decide) (by decide)
  have d2 : ∀ F : Nat → Nat → Int32, S_X3_layRequest v1 F (nI T) 0 1 2 (nI R) 0 = _ := fun F => lay_C0 v1 F (A := T) (b := 0) (c := 1) (d := 2) (R := R) (by omega) (by omega) (by omega) (by omega)
  rw [eR, eT, e1, d1, d2, fill_C0 _ _ (by omega) hs]
  simp only [up_up, va_up_self]
  have hE : EQ (f1 2) (G 23) := hS1.mem
  have hX := lq_sw0 hE (A := T) (R := R) (d := 16 * d) (b := T) (c := 48) (e := 4) (x := 0) (by omega)
  exact of_0 (hS1.wr ((hX.wr _ _ _).wr _ _ _)) hd
theorem ask_0 {c9 : Nat} {v : Nat → Int32} {f : Nat → Nat → Int32} {u : Nat → Int32} {g : Nat → Nat → Int32} (h : SIM c9 v f u g) {s m : Nat} (hs : s < 32) (hm : m < 2 ^ 64) : (S_X3_ask v f 0 (nI s) (lN m)).1 = (S_X9_ask u g 0 (nI s) (lN m)).1 ∧ SIM c9 (S_X3_ask v f 0 (nI s) (lN m)).2.1 (S_X3_ask v f 0 (nI s) (lN m)).2.2 u (S_X9_ask u g 0 (nI s) (lN m)).2 := by
  have hin : ¬ S_X9_isIn u g (nI s) 0 31 = 0 := by
    unfold S_X9_isIn
    rw [if_neg (nI_pos (by omega)), if_neg (show ¬ (31 : Int32) < nI s from nI_nlt (a := 31) (by omega) (by decide))]
    decide
  unfold S_X3_ask S_X9_ask Q_X9_ask_1
  rw [if_neg hin, rf_0 h 3, rf_0 h 1]
  by_cases h2 : u 2 = 0
  · have n4 : ¬ (-4 : Int32) = 0 := by decide
    rw [if_pos h2, if_pos h2, if_pos h2, if_neg n4]
    by_cases t : v 39 = 0
    · rw [if_pos t]; exact ⟨rfl, h⟩
    · rw [if_neg t]
      first | exact ⟨rfl, h⟩ | (rw [if_neg n4]; exact ⟨rfl, h⟩)
  · have h21 := h.st1 h2
    have e39 : v 39 = u 1 := h.1.2.2.2.2.2.2.2.2.2 h21
    rw [if_neg h2, if_neg h2, if_neg h2, e39]
    by_cases h1 : u 1 = 0
    · rw [if_pos h1, if_pos h1]
      by_cases hk : 3 ≤ S_X9_freeOnes u g 0
      · rw [if_pos hk, if_pos hk, if_pos rfl]
        have hz : 3 ≤ fz (g 38) 0 8 := fr_k (k := 3) (by decide) hk
        obtain ⟨d, v1, f1, hd, eC1, eM1, e391, hS1, -, k1, z1, z2⟩ := lF_0 h h21 (fz_ex (n := 8) (by omega))
        have e3 : (S_X4_lendFirst_16 v f).2.1 39 = 0 := by rw [eC1]; exact e391.trans (e39.trans h1)
        obtain ⟨q1, q2⟩ := ask_d0 h h21 hz (s := s) (m := m) (by omega) hm
        rw [if_pos e3, if_pos h1, if_neg (show ¬ (0 : Int32) = 1 by decide)]
        exact ⟨q1, q2⟩
      · rw [if_neg hk, if_neg hk, if_neg (by decide)]
        exact ⟨rfl, h⟩
    · rw [if_neg h1, if_neg h1]
      by_cases hk : 1 ≤ S_X9_freeOnes u g 0
      · rw [if_pos hk, if_pos hk, if_pos rfl]
        have hz : 1 ≤ fz (g 38) 0 8 := fr_k (k := 1) (by decide) hk
        obtain ⟨d, v1, f1, hd, eC1, eM1, e391, hS1, -, k1, z1, z2⟩ := lF_0 h h21 (fz_ex (n := 8) (by omega))
        have e3 : ¬ (S_X4_lendFirst_16 v f).2.1 39 = 0 := by rw [eC1]; exact fun t => h1 ((e391.trans e39).symm.trans t)
        obtain ⟨q1, q2⟩ := ask_t0 h h21 hz (s := s) (m := m) (by omega) hm
        rw [if_neg e3, if_neg h1, if_neg (show ¬ (0 : Int32) = 1 by decide)]
        exact ⟨q1, q2⟩
      · rw [if_neg hk, if_neg hk, if_neg (by decide)]
        exact ⟨rfl, h⟩
theorem ask_d1 {c9 : Nat} {v : Nat → Int32} {f : Nat → Nat → Int32} {u : Nat → Int32} {g : Nat → Nat → Int32} (h : SIM c9 v f u g) (h2 : u 2 = 1) (hz : 3 ≤ fz (g 38) 0 8) {s m : Nat} (hs : s < 2 ^ 31) (hm : m < 2 ^ 64) : (S_X4_lendFirst_16 v f).1 = (S_X9_lend u g (-1) 0).1 ∧ SIM c9 (Q_X3_ask_10 v f 1 (nI s) (lN m)) (Q_X3_ask_11 v f 1 (nI s) (lN m)) u (Q_X9_ask_20 u g 1 (nI s) (lN m)) := by
  obtain ⟨d, v1, f1, hd, eC1, eM1, -, hS1, hh1, k1, z1, z2⟩ := lF_0 h h2 (fz_ex (n := 8) (by omega))
  obtain ⟨e, v2, f2, he, eC2, eM2, -, hS2, hh2, k2, z3, z4⟩ := lnx_0 hS1 h2 hd hh1 (fz_ex (n := 8) (by omega))
  obtain ⟨k, v3, f3, hk, eC3, eM3, -, hS3, -⟩ := lnx_0 hS2 h2 hd hh2 (fz_ex (n := 8) (by omega))
  refine ⟨by rw [eC1, eM1], ?_⟩
  obtain ⟨R, hR⟩ : ∃ R : Nat, R = 1024 + 96 * d := ⟨_, rfl⟩
  have eR : (1024 : Int32) + 96 * nI d = nI R := by rw [hR]; exact lin 1024 96 d
  obtain ⟨G, hG⟩ : ∃ G : Nat → Nat → Int32, G = LD (LD (LD g 0 d (-1)) 0 e (nI d)) 0 k (nI d) := ⟨_, rfl⟩
  rw [← hG] at eM3 hS3
  have h19 : Q_X9_ask_19 u g 1 (nI s) (lN m) = va_up G 23 (WR (WR (LQ1 (G 23) 0 d e k R) R 8 (bx 1)) (R + 8) 8 (bx s)) := by
    unfold Q_X9_ask_19 Q_X9_ask_18 Q_X9_ask_17 Q_X9_ask_16 Q_X9_ask_15 Q_X9_ask_14 Q_X9_ask_13 Q_X9_ask_12 Q_X9_ask_11 Q_X9_ask_2
    rw [eM1]
    dsimp only
    rw [eM2]
    dsimp only
    rw [eM3]
    dsimp only
    have e1 : (16 : Int32) * nI d = nI (0 + 16 * d) := by rw [Nat.zero_add]; exact pk_mul 16 d
    have e2 : (0 : Int32) + 16 * nI e = nI (0 + 16 * e) := lin 0 16 e
    have e3 : (0 : Int32) + 16 * nI k = nI (0 + 16 * k) := lin 0 16 k
    have e4 : nI R + 16 = nI (R + 16) := nI_add R 16
    have e5 : nI R + 80 = nI (R + 80) := nI_add R 80
    have e6 : nI R + 8 = nI (R + 8) := nI_add R 8
    have d1 : S_X9_describe u G (nI (0 + 16 * d)) (nI R) 16 1 (nI e) = _ := ds_M u G (p := 0 + 16 * d) (b := R) (c := 16) (d := 1) (e := e) (by omega) (by omega) (by decide) (by decide) (by omega)
    have d2 : ∀ F : Nat → Nat → Int32, S_X9_describe u F (nI (0 + 16 * e)) (nI (R + 16)) 64 1 (nI k) = _ := fun F => ds_M u F (p := 0 + 16 * e) (b := R + 16) (c := 64) (d := 1) (e := k) (by omega) (by omega) (by decide) (by decide) (by omega)
    have d3 : ∀ F : Nat → Nat → Int32, S_X9_describe u F (nI (0 + 16 * k)) (nI (R + 80)) 1 2 0 = _ := fun F => ds_M u F (p := 0 + 16 * k) (b := R + 80) (c := 1) (d := 2) (e := 0) (by omega) (by omega) (by decide) (by decide) (by decide)
    have p1 : ∀ F : Nat → Nat → Int32, S_X9_put u F (nI R) ((1 : Int32).toInt64) 8 = _ := fun F => put_M u F R 1 8 (by omega) (by decide) (by decide)
    rw [if_neg (show ¬ (1 : Int32) = 0 by decide)]
    rw [eR, e1, e2, e3, e4, e5, e6, d1, d2, d3, p1, nI_l hs, put_M _ _ _ _ _ (by omega) (by decide) (by omega)]
    simp only [up_up, va_up_self]
    rfl
  unfold Q_X9_ask_20
  rw [aX9_ask2_M u g 1 (nI s) R m d hm (by rw [eM1]) hR 64 (by omega), h19, up_up, va_up_self, eM1]
  unfold Q_X3_ask_10 Q_X3_ask_11 Q_X3_ask_9 Q_X3_ask_8 Q_X3_ask_7 Q_X3_ask_6 Q_X3_ask_5 Q_X3_ask_4 Q_X3_ask_3 Q_X3_ask_2 Q_X3_ask_1
  rw [eC1]
  dsimp only
  rw [eC2]
  dsimp only
  rw [eC3]
  dsimp only
  rw [eR, show S_X8_descriptorsOf v3 f3 0 = nI 0 from rfl, lay_C1 v3 f3 (by omega) (by omega) (by omega) (by omega), fill_C1 _ _ (by omega) hs hm, up_up, va_up_self]
  have hE : EQ (f3 2) (G 23) := hS3.mem
  exact of_0 (hS3.wr ((((hE.lq1 _ _ _ _ _).wr _ _ _).wr _ _ _).wr _ _ _)) hd
theorem ask_t1 {c9 : Nat} {v : Nat → Int32} {f : Nat → Nat → Int32} {u : Nat → Int32} {g : Nat → Nat → Int32} (h : SIM c9 v f u g) (h2 : u 2 = 1) (hz : 1 ≤ fz (g 38) 0 8) {s m : Nat} (hs : s < 2 ^ 31) (hm : m < 2 ^ 64) : (S_X4_lendFirst_16 v f).1 = (S_X9_lend u g (-1) 0).1 ∧ SIM c9 (Q_X3_ask_16 v f 1 (nI s) (lN m)) (Q_X3_ask_17 v f 1 (nI s) (lN m)) u (Q_X9_ask_9 u g 1 (nI s) (lN m)) := by
  obtain ⟨d, v1, f1, hd, eC1, eM1, -, hS1, -⟩ := lF_0 h h2 (fz_ex (n := 8) (by omega))
  refine ⟨by rw [eC1, eM1], ?_⟩
  obtain ⟨R, hR⟩ : ∃ R : Nat, R = 1024 + 96 * d := ⟨_, rfl⟩
  obtain ⟨T, hT⟩ : ∃ T : Nat, T = 1792 + 64 * d := ⟨_, rfl⟩
  have eR : (1024 : Int32) + 96 * nI d = nI R := by rw [hR]; exact lin 1024 96 d
  have eT : (1792 : Int32) + 64 * nI d = nI T := by rw [hT]; exact lin 1792 64 d
  obtain ⟨G, hG⟩ : ∃ G : Nat → Nat → Int32, G = LD g 0 d (-1) := ⟨_, rfl⟩
  rw [← hG] at eM1 hS1
  have h8 : Q_X9_ask_8 u g 1 (nI s) (lN m) = va_up G 23 (WR (WR (DS (LQ1 (G 23) T 0 1 2 R) (16 * d) T 48 4 0) R 8 (bx 1)) (R + 8) 8 (bx s)) := by
    unfold Q_X9_ask_8 Q_X9_ask_7 Q_X9_ask_6 Q_X9_ask_5 Q_X9_ask_4 Q_X9_ask_3 Q_X9_ask_2
    rw [eM1]
    dsimp only
    have e1 : (16 : Int32) * nI d = nI (16 * d) := pk_mul 16 d
    have e2 : nI T + 16 * 1 = nI (T + 16) := nI_add T 16
    have e3 : nI T + 16 * 2 = nI (T + 32) := nI_add T 32
    have e4 : nI R + 16 = nI (R + 16) := nI_add R 16
    have e5 : nI R + 80 = nI (R + 80) := nI_add R 80
    have e6 : nI R + 8 = nI (R + 8) := nI_add R 8
    have d1 : S_X9_describe u G (nI T) (nI R) 16 1 1 = _ := ds_M u G (p := T) (b := R) (c := 16) (d := 1) (e := 1) (by omega) (by omega) (by decide) (by decide) (by decide)
    have d2 : ∀ F : Nat → Nat → Int32, S_X9_describe u F (nI (T + 16)) (nI (R + 16)) 64 1 2 = _ := fun F => ds_M u F (p := T + 16) (b := R + 16) (c := 64) (d := 1) (e := 2) (by omega) (by omega) (by decide) (by decide) (by decide)
    have d3 : ∀ F : Nat → Nat → Int32, S_X9_describe u F (nI (T + 32)) (nI (R + 80)) 1 2 0 = _ := fun F => ds_M u F (p := T + 32) (b := R + 80) (c := 1) (d := 2) (e := 0) (by omega) (by omega) (by decide) (by decide) (by decide)
    have d4 : ∀ F : Nat → Nat → Int32, S_X9_describe u F (nI (16 * d)) (nI T) 48 4 0 = _ := fun F => ds_M u F (p := 16 * d) (b := T) (c := 48) (d := 4) (e := 0) (by omega) (by omega) (by decide) (by decide) (by decide)
    have p1 : ∀ F : Nat → Nat → Int32, S_X9_put u F (nI R) ((1 : Int32).toInt64) 8 = _ := fun F => put_M u F R 1 8 (by omega) (by decide) (by decide)
    rw [if_neg (show ¬ (1 : Int32) = 0 by decide)]
    rw [eR, eT, e1, e2, e3, e4, e5, e6, d1, d2, d3, d4, p1, nI_l hs, put_M _ _ _ _ _ (by omega) (by decide) (by omega)]
    simp only [up_up, va_up_self]
    rfl
  unfold Q_X9_ask_9
  rw [aX9_ask_M u g 1 (nI s) R m d hm (by rw [eM1]) hR 64 (by omega), h8, up_up, va_up_self, eM1]
  unfold Q_X3_ask_16 Q_X3_ask_17 Q_X3_ask_15 Q_X3_ask_14 Q_X3_ask_13 Q_X3_ask_12 S_X3_descriptorAt S_X8_descriptorsOf
  rw [eC1]
  dsimp only
  have e1 : (256 : Int32) * 0 + 16 * nI d = nI (16 * d) := by rw [show (256 : Int32) * 0 = nI 0 from rfl, show (16 : Int32) = nI 16 from rfl, pk_mul, nI_add, Nat.zero_add]
  have d1 : S_X5_setDescriptor v1 f1 (nI (16 * d)) (nI T) 48 4 0 = _ := ds_C v1 f1 (p := 16 * d) (b := T) (c := 48) (d := 4) (e := 0) (by omega) (by omega) (by decide) (by decide) (by decide)
  have d2 : ∀ F : Nat → Nat → Int32, S_X3_layRequest v1 F (nI T) 0 1 2 (nI R) 1 = _ := fun F => lay_C1 v1 F (A := T) (b := 0) (c := 1) (d := 2) (R := R) (by omega) (by omega) (by omega) (by omega)
  rw [eR, eT, e1, d1, d2, fill_C1 _ _ (by omega) hs hm]
  simp only [up_up, va_up_self]
  have hE : EQ (f1 2) (G 23) := hS1.mem
  have hX := lq_sw1 hE (A := T) (R := R) (d := 16 * d) (b := T) (c := 48) (e := 4) (x := 0) (by omega)
  exact of_0 (hS1.wr (((hX.wr _ _ _).wr _ _ _).wr _ _ _)) hd
theorem ask_1 {c9 : Nat} {v : Nat → Int32} {f : Nat → Nat → Int32} {u : Nat → Int32} {g : Nat → Nat → Int32} (h : SIM c9 v f u g) {s m : Nat} (hs : s < 32) (hm : m < 2 ^ 64) : (S_X3_ask v f 1 (nI s) (lN m)).1 = (S_X9_ask u g 1 (nI s) (lN m)).1 ∧ SIM c9 (S_X3_ask v f 1 (nI s) (lN m)).2.1 (S_X3_ask v f 1 (nI s) (lN m)).2.2 u (S_X9_ask u g 1 (nI s) (lN m)).2 := by
  have hin : ¬ S_X9_isIn u g (nI s) 0 31 = 0 := by
    unfold S_X9_isIn
    rw [if_neg (nI_pos (by omega)), if_neg (show ¬ (31 : Int32) < nI s from nI_nlt (a := 31) (by omega) (by decide))]
    decide
  unfold S_X3_ask S_X9_ask Q_X9_ask_1
  rw [if_neg hin, rf_0 h 3, rf_0 h 1]
  by_cases h2 : u 2 = 0
  · have n4 : ¬ (-4 : Int32) = 0 := by decide
    rw [if_pos h2, if_pos h2, if_pos h2, if_neg n4]
    by_cases t : v 39 = 0
    · rw [if_pos t]; exact ⟨rfl, h⟩
    · rw [if_neg t]
      first | exact ⟨rfl, h⟩ | (rw [if_neg n4]; exact ⟨rfl, h⟩)
  · have h21 := h.st1 h2
    have e39 : v 39 = u 1 := h.1.2.2.2.2.2.2.2.2.2 h21
    rw [if_neg h2, if_neg h2, if_neg h2, e39]
    by_cases h1 : u 1 = 0
    · rw [if_pos h1, if_pos h1]
      by_cases hk : 3 ≤ S_X9_freeOnes u g 0
      · rw [if_pos hk, if_pos hk, if_pos rfl]
        have hz : 3 ≤ fz (g 38) 0 8 := fr_k (k := 3) (by decide) hk
        obtain ⟨d, v1, f1, hd, eC1, eM1, e391, hS1, -, k1, z1, z2⟩ := lF_0 h h21 (fz_ex (n := 8) (by omega))
        have e3 : (S_X4_lendFirst_16 v f).2.1 39 = 0 := by rw [eC1]; exact e391.trans (e39.trans h1)
        obtain ⟨q1, q2⟩ := ask_d1 h h21 hz (s := s) (m := m) (by omega) hm
        rw [if_pos e3, if_pos h1, if_pos rfl]
        exact ⟨q1, q2⟩
      · rw [if_neg hk, if_neg hk, if_neg (by decide)]
        exact ⟨rfl, h⟩
    · rw [if_neg h1, if_neg h1]
      by_cases hk : 1 ≤ S_X9_freeOnes u g 0
      · rw [if_pos hk, if_pos hk, if_pos rfl]
        have hz : 1 ≤ fz (g 38) 0 8 := fr_k (k := 1) (by decide) hk
        obtain ⟨d, v1, f1, hd, eC1, eM1, e391, hS1, -, k1, z1, z2⟩ := lF_0 h h21 (fz_ex (n := 8) (by omega))
        have e3 : ¬ (S_X4_lendFirst_16 v f).2.1 39 = 0 := by rw [eC1]; exact fun t => h1 ((e391.trans e39).symm.trans t)
        obtain ⟨q1, q2⟩ := ask_t1 h h21 hz (s := s) (m := m) (by omega) hm
        rw [if_neg e3, if_neg h1, if_pos rfl]
        exact ⟨q1, q2⟩
      · rw [if_neg hk, if_neg hk, if_neg (by decide)]
        exact ⟨rfl, h⟩
theorem no_ask {v : Nat → Int32} {f : Nat → Nat → Int32} {u : Nat → Int32} {g : Nat → Nat → Int32} {w a : Int32} {x : Int64} (h0 : S_X8_isSector v f a = 0) : S_X9_ask u g w a x = ((-2), g) := by
  unfold S_X9_ask
  rw [isin_s v u f g, if_pos h0]
theorem sim_read {c9 : Nat} {v : Nat → Int32} {f : Nat → Nat → Int32} {u : Nat → Int32} {g : Nat → Nat → Int32} (h : SIM c9 v f u g) (hc : c9 + 1 ≤ 512) (a : Int32) : (S_X8_read v f a).1 = (S_X9_read u g a).1 ∧ SIM (c9 + 1) ((S_X8_read v f a).2.1) ((S_X8_read v f a).2.2) (u) ((S_X9_read u g a).2) := by
  have h9 := h.up hc
  unfold S_X8_read S_X9_read
  by_cases h0 : S_X8_isSector v f a = 0
  · rw [if_pos h0, no_ask h0]
    exact ⟨rfl, h9⟩
  · rw [if_neg h0]
    obtain ⟨s, hs, rfl⟩ := iss h0
    exact ask_0 h9 hs (m := 0) (by decide)
theorem sim_write {c9 : Nat} {v : Nat → Int32} {f : Nat → Nat → Int32} {u : Nat → Int32} {g : Nat → Nat → Int32} (h : SIM c9 v f u g) (hc : c9 + 1 ≤ 512) (a : Int32) (b : Int64) : (S_X8_write v f a b).1 = (S_X9_write u g a b).1 ∧ SIM (c9 + 1) ((S_X8_write v f a b).2.1) ((S_X8_write v f a b).2.2) (u) ((S_X9_write u g a b).2) := by
  have h9 := h.up hc
  unfold S_X8_write S_X9_write
  by_cases h0 : S_X8_isSector v f a = 0
  · rw [if_pos h0, no_ask h0]
    exact ⟨rfl, h9⟩
  · rw [if_neg h0]
    obtain ⟨s, hs, rfl⟩ := iss h0
    obtain ⟨m, hm, rfl⟩ := wb_of b
    exact ask_1 h9 hs hm
