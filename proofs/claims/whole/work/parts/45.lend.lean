def DS (F : Nat → Int32) (p b c d e : Nat) : Nat → Int32 := WR (WR (WR (WR F p 8 (bx b)) (p + 8) 4 (bx c)) (p + 12) 2 (bx d)) (p + 14) 2 (bx e)
theorem ds_C (v : Nat → Int32) (f : Nat → Nat → Int32) {p b c d e : Nat} (hp : p + 16 ≤ 4096) (hb : b < 2 ^ 31) (hc : c < 2 ^ 31) (hd : d < 2 ^ 31) (he : e < 2 ^ 31) : S_X5_setDescriptor v f (nI p) (nI b) (nI c) (nI d) (nI e) = va_up f 2 (DS (f 2) p b c d e) := by
  unfold S_X5_setDescriptor Q_X5_setDescriptor_4 Q_X5_setDescriptor_3 Q_X5_setDescriptor_2 Q_X5_setDescriptor_1 DS
  rw [show (8 : Int32) = nI 8 from rfl, show (12 : Int32) = nI 12 from rfl, show (14 : Int32) = nI 14 from rfl, nI_add, nI_add, nI_add, nI_l hb, nI_l hc, nI_l hd, nI_l he, put_C _ _ _ _ _ (by omega) (by decide) (by omega), put_C _ _ _ _ _ (by omega) (by decide) (by omega), put_C _ _ _ _ _ (by omega) (by decide) (by omega), put_C _ _ _ _ _ (by omega) (by decide) (by omega), up_up, up_up, up_up, va_up_self, va_up_self, va_up_self]
theorem ds_M (u : Nat → Int32) (g : Nat → Nat → Int32) {p b c d e : Nat} (hp : p + 16 ≤ 4096) (hb : b < 2 ^ 31) (hc : c < 2 ^ 31) (hd : d < 2 ^ 31) (he : e < 2 ^ 31) : S_X9_describe u g (nI p) (nI b) (nI c) (nI d) (nI e) = va_up g 23 (DS (g 23) p b c d e) := by
  unfold S_X9_describe Q_X9_describe_3 Q_X9_describe_2 Q_X9_describe_1 DS
  rw [show (8 : Int32) = nI 8 from rfl, show (12 : Int32) = nI 12 from rfl, show (14 : Int32) = nI 14 from rfl, nI_add, nI_add, nI_add, nI_l hb, nI_l hc, nI_l hd, nI_l he, put_M _ _ _ _ _ (by omega) (by decide) (by omega), put_M _ _ _ _ _ (by omega) (by decide) (by omega), put_M _ _ _ _ _ (by omega) (by decide) (by omega), put_M _ _ _ _ _ (by omega) (by decide) (by omega), up_up, up_up, up_up, va_up_self, va_up_self, va_up_self]
/-- equal below 4096 -/
def EQ (F G : Nat → Int32) : Prop := ∀ p : Nat, p < 4096 → F p = G p
theorem EQ.wr {F G : Nat → Int32} (h : EQ F G) (p N : Nat) (B : Nat → Int32) : EQ (WR F p N B) (WR G p N B) := by
  intro k hk
  unfold WR
  split
  · rfl
  · exact h k hk
theorem EQ.ds {F G : Nat → Int32} (h : EQ F G) (p b c d e : Nat) : EQ (DS F p b c d e) (DS G p b c d e) := (((h.wr _ _ _).wr _ _ _).wr _ _ _).wr _ _ _
theorem DS_out {F : Nat → Int32} {p b c d e k : Nat} (h : k < p ∨ p + 16 ≤ k) : DS F p b c d e k = F k := by
  unfold DS
  rw [WR_out (by omega), WR_out (by omega), WR_out (by omega), WR_out (by omega)]
theorem DS_in {F G : Nat → Int32} {p b c d e k : Nat} (h : p ≤ k) (h2 : k < p + 16) : DS F p b c d e k = DS G p b c d e k := by
  unfold DS
  by_cases c4 : p + 14 ≤ k
  · rw [WR_in (p := p + 14) c4 (by omega), WR_in (p := p + 14) c4 (by omega)]
  · rw [WR_out (p := p + 14) (by omega), WR_out (p := p + 14) (by omega)]
    by_cases c3 : p + 12 ≤ k
    · rw [WR_in (p := p + 12) c3 (by omega), WR_in (p := p + 12) c3 (by omega)]
    · rw [WR_out (p := p + 12) (by omega), WR_out (p := p + 12) (by omega)]
      by_cases c2 : p + 8 ≤ k
      · rw [WR_in (p := p + 8) c2 (by omega), WR_in (p := p + 8) c2 (by omega)]
      · rw [WR_out (p := p + 8) (by omega), WR_out (p := p + 8) (by omega), WR_in (p := p) (by omega) (by omega), WR_in (p := p) (by omega) (by omega)]
theorem DS_cg {F G : Nat → Int32} {p b c d e k : Nat} (h : F k = G k) : DS F p b c d e k = DS G p b c d e k := by
  by_cases c : p ≤ k ∧ k < p + 16
  · exact DS_in c.1 c.2
  · rw [DS_out (by omega), DS_out (by omega), h]
theorem SIM.wr {c : Nat} {v : Nat → Int32} {f : Nat → Nat → Int32} {u : Nat → Int32} {g : Nat → Nat → Int32} (h : SIM c v f u g) {F G : Nat → Int32} (hm : EQ F G) : SIM c v (va_up f 2 F) u (va_up g 23 G) := h.memf hm
/-! lending -/
theorem bt_t : ∀ m : Nat, m < 256 → ∀ i : Nat, i < 8 → ((nI m &&& (1 <<< (nI i &&& 31))) = 0 ↔ m / 2 ^ i % 2 = 0) := by decide +kernel
theorem bt_c : ∀ m : Nat, m < 256 → ∀ i : Nat, i < 8 → m / 2 ^ i % 2 = 1 → (nI m &&& ((1 <<< (nI i &&& 31)) ^^^ (-1))) = nI (m - 2 ^ i) := by decide +kernel
theorem bt_o : ∀ m : Nat, m < 256 → ∀ i : Nat, i < 8 → m / 2 ^ i % 2 = 0 → (nI m ||| (1 <<< (nI i &&& 31))) = nI (m + 2 ^ i) := by decide +kernel
theorem fm_cg {G G' : Nat → Int32} {q : Nat} : ∀ {n : Nat}, (∀ e : Nat, e < n → G' (8 * q + e) = G (8 * q + e)) → fm G' q n = fm G q n
  | 0, _ => rfl
  | n + 1, h => by
    show fm G' q n + _ = fm G q n + _
    rw [fm_cg (fun e he => h e (by omega)), h n (by omega)]
theorem cm_cg {G G' K K' : Nat → Int32} {q d : Nat} : ∀ {n : Nat}, (∀ e : Nat, e < n → G' (8 * q + e) = G (8 * q + e) ∧ K' (8 * q + e) = K (8 * q + e)) → cm G' K' q d n = cm G K q d n
  | 0, _ => rfl
  | n + 1, h => by
    show cm G' K' q d n + _ = cm G K q d n + _
    rw [cm_cg (fun e he => h e (by omega)), (h n (by omega)).1, (h n (by omega)).2]
theorem fm_up {G : Nat → Int32} {q d : Nat} (hd : G (8 * q + d) = 0) : ∀ n : Nat, fm (upd G (8 * q + d) 1) q n + (if d < n then 2 ^ d else 0) = fm G q n
  | 0 => by rw [if_neg (by omega)]; rfl
  | n + 1 => by
    have ih := fm_up hd n
    show fm (upd G (8 * q + d) 1) q n + (if upd G (8 * q + d) 1 (8 * q + n) = 0 then 2 ^ n else 0) + _ = fm G q n + (if G (8 * q + n) = 0 then 2 ^ n else 0)
    by_cases e : n = d
    · subst e
      rw [pk_us, if_neg (by decide), if_pos hd, if_pos (by omega)]
      rw [if_neg (by omega)] at ih
      omega
    · rw [pk_un (by omega)]
      by_cases h : d < n
      · rw [if_pos h] at ih
        rw [if_pos (show d < n + 1 by omega)]
        omega
      · rw [if_neg h] at ih
        rw [if_neg (show ¬ d < n + 1 by omega)]
        omega
theorem cm_up {G K : Nat → Int32} {q d h r : Nat} (hd : G (8 * q + d) = 0) (hh : h < 8) (hr : r < 8) : ∀ n : Nat, cm (upd G (8 * q + d) 1) (upd K (8 * q + d) (nI h)) q r n = cm G K q r n + (if d < n ∧ r = h then 2 ^ d else 0)
  | 0 => by rw [if_neg (by omega)]; rfl
  | n + 1 => by
    have ih := cm_up (K := K) hd hh hr n
    show cm (upd G (8 * q + d) 1) (upd K (8 * q + d) (nI h)) q r n + (if upd G (8 * q + d) 1 (8 * q + n) = 0 then 0 else if upd K (8 * q + d) (nI h) (8 * q + n) = nI r then 2 ^ n else 0) = cm G K q r n + (if G (8 * q + n) = 0 then 0 else if K (8 * q + n) = nI r then 2 ^ n else 0) + _
    rw [ih]
    by_cases e : n = d
    · subst e
      rw [pk_us, pk_us, if_neg (show ¬ (1 : Int32) = 0 by decide), if_pos hd, if_neg (show ¬ (n < n ∧ r = h) by omega)]
      by_cases hr2 : r = h
      · rw [if_pos (by rw [hr2]), if_pos (by omega)]
      · rw [if_neg (fun t => hr2 ((nI_eq (by omega) (by omega)).mp t).symm), if_neg (by omega)]
    · rw [pk_un (by omega), pk_un (by omega)]
      by_cases h9 : d < n ∧ r = h
      · rw [if_pos h9, if_pos (show d < n + 1 ∧ r = h by omega)]
        omega
      · rw [if_neg h9, if_neg (show ¬ (d < n + 1 ∧ r = h) by omega)]
        omega
theorem cm_lt (G K : Nat → Int32) (q r : Nat) : ∀ n : Nat, cm G K q r n < 2 ^ n
  | 0 => by show 0 < 1; omega
  | n + 1 => by
    have h := cm_lt G K q r n
    show cm G K q r n + (if G (8 * q + n) = 0 then 0 else if K (8 * q + n) = nI r then 2 ^ n else 0) < 2 ^ (n + 1)
    rw [Nat.pow_succ]
    split
    · omega
    · split <;> omega
theorem cm_bit (G K : Nat → Int32) (q r : Nat) : ∀ n d : Nat, d < n → cm G K q r n / 2 ^ d % 2 = if G (8 * q + d) = 0 then 0 else if K (8 * q + d) = nI r then 1 else 0
  | 0, d, h => by omega
  | n + 1, d, h => by
    have e : cm G K q r (n + 1) = cm G K q r n + (if G (8 * q + n) = 0 then 0 else if K (8 * q + n) = nI r then 1 else 0) * 2 ^ n := by
      show cm G K q r n + (if G (8 * q + n) = 0 then 0 else if K (8 * q + n) = nI r then 2 ^ n else 0) = _
      split
      · omega
      · split <;> omega
    rw [e]
    by_cases hd : d = n
    · subst hd
      rw [bit_top (cm_lt G K q r d)]
      split
      · rfl
      · split <;> rfl
    · rw [bit_hi (cm_lt G K q r n) d (by omega)]
      exact cm_bit G K q r n d (by omega)
/-- the class lends d under h -/
def lc (v : Nat → Int32) (f : Nat → Nat → Int32) (q h d : Nat) : (Nat → Int32) × (Nat → Nat → Int32) := (upd v (41 + 4 * q) ((v (41 + 4 * q)) &&& ((1 <<< (nI d &&& 31)) ^^^ (-1))), va_up f (17 + 2 * q) (upd (f (17 + 2 * q)) h (((f (17 + 2 * q)) h) ||| (1 <<< (nI d &&& 31)))))
theorem SIM.lend {c : Nat} {v : Nat → Int32} {f : Nat → Nat → Int32} {u : Nat → Int32} {g : Nat → Nat → Int32} (h : SIM c v f u g) (h2 : u 2 = 1) {q d r : Nat} (hq : q < 3) (hd : d < 8) (hr : r < 8) (hz : g 38 (8 * q + d) = 0) (hh : r = d ∨ (g 38 (8 * q + r) = 1 ∧ g 39 (8 * q + r) = nI r)) {b : Int32} (hb : (if 0 ≤ b then b else nI d) = nI r) : SIM c (lc v f q r d).1 (lc v f q r d).2 u (LD g q d b) := by
  obtain ⟨⟨a1, a2, a3, a4, a5, a6, a7, a8, a9, a10⟩, b1, b2, h4, h5, h6, h7, h8⟩ := h
  obtain ⟨l1, l2, l3⟩ := (h6 q hq).2
  obtain ⟨m1, m2⟩ := l1 h2
  have e1 : v (41 + 4 * q) &&& ((1 <<< (nI d &&& 31)) ^^^ (-1)) = nI (fm (upd (g 38) (8 * q + d) 1) q 8) := by
    rw [m1, bt_c _ (fm_lt (g 38) q 8) d hd (by rw [fm_bit _ _ _ _ hd, if_pos hz])]
    have := fm_up hz 8
    rw [if_pos hd] at this
    congr 1
    omega
  have e2 : f (17 + 2 * q) r ||| (1 <<< (nI d &&& 31)) = nI (cm (g 38) (g 39) q r 8 + 2 ^ d) := by
    rw [m2 r hr, bt_o _ (cm_lt (g 38) (g 39) q r 8) d hd (by rw [cm_bit _ _ _ _ _ _ hd, if_pos hz])]
  unfold lc LD
  rw [hb, e1, e2]
  refine ⟨?_, ?_, ?_, fun t ht => ?_, ?_, fun t ht => ?_, ?_, h8⟩
  · unfold NUMS
    simp (disch := omega) only [pk_un]
    exact ⟨a1, a2, a3, a4, a5, a6, a7, a8, a9, a10⟩
  · simp (disch := omega) only [va_up_ne]
    exact b1
  · simp (disch := omega) only [va_up_ne]
    exact b2
  · have h9 := h4 t ht
    unfold RING at h9 ⊢
    simp (disch := omega) only [pk_un, va_up_ne]
    exact h9
  · unfold WIRE at h5 ⊢
    simp (disch := omega) only [pk_un, va_up_ne]
    exact h5
  · obtain ⟨h9, h10⟩ := h6 t ht
    refine ⟨?_, ?_⟩
    · unfold DRIV at h9 ⊢
      simp (disch := omega) only [pk_un, va_up_ne]
      exact h9
    · refine ⟨fun _ => ?_, fun h0 => absurd (h2.symm.trans h0) (by decide), fun e he => ?_⟩
      · simp (disch := omega) only [va_up_ne, va_up_self]
        by_cases e : t = q
        · subst e
          simp (disch := omega) only [pk_us, va_up_self]
          refine ⟨trivial, fun d9 hd9 => ?_⟩
          rw [cm_up hz hr hd9 8]
          by_cases e9 : d9 = r
          · rw [e9, pk_us, if_pos ⟨hd, rfl⟩]
          · rw [pk_un e9, if_neg (fun t => e9 t.2)]
            exact m2 d9 hd9
        · simp (disch := omega) only [pk_un, va_up_ne]
          obtain ⟨n1, n2⟩ := h10.1 h2
          refine ⟨?_, fun d9 hd9 => ?_⟩
          · rw [n1, fm_cg (G := g 38) (fun e9 he9 => pk_un (by omega))]
          · rw [n2 d9 hd9, cm_cg (G := g 38) (K := g 39) (fun e9 he9 => ⟨pk_un (by omega), pk_un (by omega)⟩)]
      · simp (disch := omega) only [va_up_ne, va_up_self]
        by_cases e9 : 8 * t + e = 8 * q + d
        · rw [e9, pk_us, pk_us]
          have ht9 : t = q := by omega
          subst ht9
          refine Or.inr ⟨rfl, r, hr, rfl, ?_⟩
          rcases hh with q1 | ⟨q1, q2⟩
          · rw [q1, pk_us, pk_us]; exact ⟨rfl, rfl⟩
          · have hne : 8 * t + r ≠ 8 * t + d := fun t9 => by rw [t9, hz] at q1; exact absurd q1 (by decide)
            rw [pk_un hne, pk_un hne]; exact ⟨q1, q2⟩
        · rw [pk_un e9, pk_un e9]
          rcases h10.2.2 e he with q1 | ⟨q1, d9, q2, q3, q4, q5⟩
          · exact Or.inl q1
          · have hne : 8 * t + d9 ≠ 8 * q + d := fun t9 => by rw [t9, hz] at q4; exact absurd q4 (by decide)
            refine Or.inr ⟨q1, d9, q2, q3, ?_⟩
            rw [pk_un hne, pk_un hne]; exact ⟨q4, q5⟩
  · unfold MInv QU at h7 ⊢
    simp (disch := omega) only [va_up_ne]
    exact h7
theorem lf_0 (v : Nat → Int32) (f : Nat → Nat → Int32) {m d : Nat} (hm : v 41 = nI m) (h8 : m < 256) (hd : d < 8) (h1 : m / 2 ^ d % 2 = 1) (h0 : ∀ j : Nat, j < d → m / 2 ^ j % 2 = 0) : S_X4_leastFree_16 v f = nI d := by
  have h : ∀ n i : Nat, i ≤ d → d - i < n → L_X4_leastFree_16 v f n i = nI d := by
    intro n
    induction n with
    | zero => intro i _ h; omega
    | succ n ih =>
      intro i hi hn
      rw [L_X4_leastFree_16, if_neg (show ¬ (8 : Int32) ≤ nI i from nI_ge (b := 8) (by omega) (by decide)), hm]
      by_cases e : i = d
      · subst e
        rw [if_neg (fun t => by rw [bt_t m h8 i hd, h1] at t; exact absurd t (by decide))]
      · rw [if_pos ((bt_t m h8 i (by omega)).mpr (h0 i (by omega)))]
        exact ih (i + 1) (by omega) (by omega)
  exact h 9 0 (by omega) (by omega)
theorem ln_0 (v : Nat → Int32) (f : Nat → Nat → Int32) (r d : Nat) (hr : r < 8) (hd : d < 8) : S_X4_lend_16 v f (nI r) (nI d) = lc v f 0 r d := by
  unfold S_X4_lend_16 lc
  rw [if_neg (nI_pos (by omega)), if_neg (show ¬ (8 : Int32) ≤ nI r from nI_ge (b := 8) hr (by decide)), if_neg (nI_pos (by omega)), nI_clamp (by omega)]
theorem lF_0 {c : Nat} {v : Nat → Int32} {f : Nat → Nat → Int32} {u : Nat → Int32} {g : Nat → Nat → Int32} (h : SIM c v f u g) (h2 : u 2 = 1) (hf : ∃ d : Nat, d < 8 ∧ g 38 (8 * 0 + d) = 0) : ∃ (d : Nat) (v' : Nat → Int32) (f' : Nat → Nat → Int32), d < 8 ∧ S_X4_lendFirst_16 v f = (nI d, v', f') ∧ S_X9_lend u g (-1) 0 = (nI d, LD g 0 d (-1)) ∧ v' 39 = v 39 ∧ SIM c v' f' u (LD g 0 d (-1)) ∧ (LD g 0 d (-1) 38 (8 * 0 + d) = 1 ∧ LD g 0 d (-1) 39 (8 * 0 + d) = nI d) ∧ (∃ k : Nat, fz (LD g 0 d (-1) 38) 0 8 = k ∧ fz (g 38) 0 8 = k + 1) := by
  have hfz := ld_fz (u := u) (q := 0) (b := -1) hf
  obtain ⟨d, hd, h0, hz, e⟩ := ld_spec (u := u) (-1) hf
  obtain ⟨m1, -⟩ := (h.2.2.2.2.2.1 0 (by decide)).2.1 h2
  have e9 : S_X4_leastFree_16 v f = nI d := lf_0 v f m1 (fm_lt (g 38) 0 8) hd (by rw [fm_bit _ _ _ _ hd, if_pos hz]) (fun j hj => by rw [fm_bit _ _ _ _ (by omega), if_neg (h0 j hj)])
  rw [e] at hfz
  refine ⟨d, (lc v f 0 d d).1, (lc v f 0 d d).2, hd, ?_, e, ?_, h.lend h2 (by decide) hd hd hz (Or.inl rfl) rfl, ⟨pk_us, pk_us⟩, ⟨_, rfl, hfz.symm⟩⟩
  · unfold S_X4_lendFirst_16 Q_X4_lendFirst_16_1 Q_X4_lendFirst_16_2
    rw [e9, ln_0 v f d d hd hd]
  · unfold lc
    dsimp only
    rw [pk_un (by decide)]
theorem lnx_0 {c : Nat} {v : Nat → Int32} {f : Nat → Nat → Int32} {u : Nat → Int32} {g : Nat → Nat → Int32} (h : SIM c v f u g) (h2 : u 2 = 1) {r : Nat} (hr : r < 8) (hh : g 38 (8 * 0 + r) = 1 ∧ g 39 (8 * 0 + r) = nI r) (hf : ∃ d : Nat, d < 8 ∧ g 38 (8 * 0 + d) = 0) : ∃ (d : Nat) (v' : Nat → Int32) (f' : Nat → Nat → Int32), d < 8 ∧ S_X4_lendNext_16 v f (nI r) = (nI d, v', f') ∧ S_X9_lend u g (nI r) 0 = (nI d, LD g 0 d (nI r)) ∧ v' 39 = v 39 ∧ SIM c v' f' u (LD g 0 d (nI r)) ∧ (LD g 0 d (nI r) 38 (8 * 0 + r) = 1 ∧ LD g 0 d (nI r) 39 (8 * 0 + r) = nI r) ∧ (∃ k : Nat, fz (LD g 0 d (nI r) 38) 0 8 = k ∧ fz (g 38) 0 8 = k + 1) := by
  have hfz := ld_fz (u := u) (q := 0) (b := nI r) hf
  obtain ⟨d, hd, h0, hz, e⟩ := ld_spec (u := u) (nI r) hf
  obtain ⟨m1, -⟩ := (h.2.2.2.2.2.1 0 (by decide)).2.1 h2
  have e9 : S_X4_leastFree_16 v f = nI d := lf_0 v f m1 (fm_lt (g 38) 0 8) hd (by rw [fm_bit _ _ _ _ hd, if_pos hz]) (fun j hj => by rw [fm_bit _ _ _ _ (by omega), if_neg (h0 j hj)])
  rw [e] at hfz
  refine ⟨d, (lc v f 0 r d).1, (lc v f 0 r d).2, hd, ?_, e, ?_, h.lend h2 (by decide) hd hr hz (Or.inr hh) (if_pos (nI_pos' (by omega))), ?_, ⟨_, rfl, hfz.symm⟩⟩
  · unfold S_X4_lendNext_16 Q_X4_lendNext_16_1 Q_X4_lendNext_16_2
    rw [e9, ln_0 v f r d hr hd]
  · unfold lc
    dsimp only
    rw [pk_un (by decide)]
  · have hne : 8 * 0 + r ≠ 8 * 0 + d := fun t9 => by rw [← t9, hh.1] at hz; exact absurd hz (by decide)
    exact ⟨(pk_un hne).trans hh.1, (pk_un hne).trans hh.2⟩
theorem of_0 {c : Nat} {v : Nat → Int32} {f : Nat → Nat → Int32} {u : Nat → Int32} {g : Nat → Nat → Int32} (h : SIM c v f u g) {b : Nat} (hb : b < 8) : SIM c (S_X3_offer_0 v f (nI b)).1 (S_X3_offer_0 v f (nI b)).2 u (S_X9_offer u g (nI b) 0) := by
  obtain ⟨t, et, ht⟩ := (h.minv.1 0 (by decide)).2.2.2.1
  have ev : v 42 = g 40 0 := (h.2.2.2.2.2.1 0 (by decide)).1.1
  have x1 : (g 40 0 + 1) &&& 65535 = nI ((t + 1) % 65536) := by
    rw [et, nI_1, pk_andN (by omega) (m := 65535) 16 rfl]
  have e8 : g 40 0 - g 40 0 / 8 * 8 = nI (t % 8) := by
    rw [et]; exact pk_rem (d := 8) (by omega) (by decide) (by decide)
  have hA : (nI (256 * 0 + 132) + 2 * nI (t % 8) : Int32) = nI (256 * 0 + 132 + 2 * (t % 8)) := by
    rw [show (2 : Int32) = nI 2 from rfl, pk_mul, nI_add]
  have hC : S_X3_offer_0 v f (nI b) = (upd v 42 (nI ((t + 1) % 65536)), va_up f 2 (WR (WR (f 2) (256 * 0 + 132 + 2 * (t % 8)) 2 (bx b)) (256 * 0 + 130) 2 (bx ((t + 1) % 65536)))) := by
    unfold S_X3_offer_0 Q_X3_offer_0_3 Q_X3_offer_0_2 Q_X3_offer_0_1 S_X8_oneMore
    rw [ev, x1, e8, show S_X8_availableOf v f 0 + 4 = nI (256 * 0 + 132) from rfl, show S_X8_availableOf v f 0 + 2 = nI (256 * 0 + 130) from rfl, hA, nI_l (by omega), nI_l (by omega), put_C _ _ _ _ _ (by omega) (by decide) (by omega), put_C _ _ _ _ _ (by omega) (by decide) (by omega), up_up, va_up_self]
  have hR : S_X9_offer u g (nI b) 0 = va_up (va_up g 40 (upd (g 40) 0 (nI ((t + 1) % 65536)))) 23 (WR (WR (g 23) (256 * 0 + 132 + 2 * (t % 8)) 2 (bx b)) (256 * 0 + 130) 2 (bx ((t + 1) % 65536))) := by
    unfold S_X9_offer Q_X9_offer_2 Q_X9_offer_1
    rw [e8, hA, nI_l (show b < 2 ^ 31 by omega), put_M _ _ _ _ _ (by omega) (by decide) (by omega), va_up_ne _ _ (show 40 ≠ 23 by decide), pk_us, x1, nI_l (by omega), put_M _ _ _ _ _ (by omega) (by decide) (by omega), va_up_ne _ _ (show 23 ≠ 40 by decide), va_up_self]
    funext j
    unfold va_up
    by_cases e1 : j = 23
    · rw [if_pos e1, if_pos e1]
    · rw [if_neg e1, if_neg e1, if_neg e1]
  rw [hC, hR]
  have h9 := h.asked 0 (x := nI ((t + 1) % 65536)) (y := nI ((t + 1) % 65536)) rfl (by decide) ⟨_, rfl, Nat.mod_lt _ (by decide)⟩
  refine h9.wr ?_
  have h10 : EQ (f 2) (g 23) := h.mem
  exact (h10.wr _ _ _).wr _ _ _
theorem lf_1 (v : Nat → Int32) (f : Nat → Nat → Int32) {m d : Nat} (hm : v 45 = nI m) (h8 : m < 256) (hd : d < 8) (h1 : m / 2 ^ d % 2 = 1) (h0 : ∀ j : Nat, j < d → m / 2 ^ j % 2 = 0) : S_X4_leastFree_18 v f = nI d := by
  have h : ∀ n i : Nat, i ≤ d → d - i < n → L_X4_leastFree_18 v f n i = nI d := by
    intro n
    induction n with
    | zero => intro i _ h; omega
    | succ n ih =>
      intro i hi hn
      rw [L_X4_leastFree_18, if_neg (show ¬ (8 : Int32) ≤ nI i from nI_ge (b := 8) (by omega) (by decide)), hm]
      by_cases e : i = d
      · subst e
        rw [if_neg (fun t => by rw [bt_t m h8 i hd, h1] at t; exact absurd t (by decide))]
      · rw [if_pos ((bt_t m h8 i (by omega)).mpr (h0 i (by omega)))]
        exact ih (i + 1) (by omega) (by omega)
  exact h 9 0 (by omega) (by omega)
theorem ln_1 (v : Nat → Int32) (f : Nat → Nat → Int32) (r d : Nat) (hr : r < 8) (hd : d < 8) : S_X4_lend_18 v f (nI r) (nI d) = lc v f 1 r d := by
  unfold S_X4_lend_18 lc
  rw [if_neg (nI_pos (by omega)), if_neg (show ¬ (8 : Int32) ≤ nI r from nI_ge (b := 8) hr (by decide)), if_neg (nI_pos (by omega)), nI_clamp (by omega)]
theorem lF_1 {c : Nat} {v : Nat → Int32} {f : Nat → Nat → Int32} {u : Nat → Int32} {g : Nat → Nat → Int32} (h : SIM c v f u g) (h2 : u 2 = 1) (hf : ∃ d : Nat, d < 8 ∧ g 38 (8 * 1 + d) = 0) : ∃ (d : Nat) (v' : Nat → Int32) (f' : Nat → Nat → Int32), d < 8 ∧ S_X4_lendFirst_18 v f = (nI d, v', f') ∧ S_X9_lend u g (-1) 1 = (nI d, LD g 1 d (-1)) ∧ v' 39 = v 39 ∧ SIM c v' f' u (LD g 1 d (-1)) ∧ (LD g 1 d (-1) 38 (8 * 1 + d) = 1 ∧ LD g 1 d (-1) 39 (8 * 1 + d) = nI d) ∧ (∃ k : Nat, fz (LD g 1 d (-1) 38) 1 8 = k ∧ fz (g 38) 1 8 = k + 1) := by
  have hfz := ld_fz (u := u) (q := 1) (b := -1) hf
  obtain ⟨d, hd, h0, hz, e⟩ := ld_spec (u := u) (-1) hf
  obtain ⟨m1, -⟩ := (h.2.2.2.2.2.1 1 (by decide)).2.1 h2
  have e9 : S_X4_leastFree_18 v f = nI d := lf_1 v f m1 (fm_lt (g 38) 1 8) hd (by rw [fm_bit _ _ _ _ hd, if_pos hz]) (fun j hj => by rw [fm_bit _ _ _ _ (by omega), if_neg (h0 j hj)])
  rw [e] at hfz
  refine ⟨d, (lc v f 1 d d).1, (lc v f 1 d d).2, hd, ?_, e, ?_, h.lend h2 (by decide) hd hd hz (Or.inl rfl) rfl, ⟨pk_us, pk_us⟩, ⟨_, rfl, hfz.symm⟩⟩
  · unfold S_X4_lendFirst_18 Q_X4_lendFirst_18_1 Q_X4_lendFirst_18_2
    rw [e9, ln_1 v f d d hd hd]
  · unfold lc
    dsimp only
    rw [pk_un (by decide)]
theorem lnx_1 {c : Nat} {v : Nat → Int32} {f : Nat → Nat → Int32} {u : Nat → Int32} {g : Nat → Nat → Int32} (h : SIM c v f u g) (h2 : u 2 = 1) {r : Nat} (hr : r < 8) (hh : g 38 (8 * 1 + r) = 1 ∧ g 39 (8 * 1 + r) = nI r) (hf : ∃ d : Nat, d < 8 ∧ g 38 (8 * 1 + d) = 0) : ∃ (d : Nat) (v' : Nat → Int32) (f' : Nat → Nat → Int32), d < 8 ∧ S_X4_lendNext_18 v f (nI r) = (nI d, v', f') ∧ S_X9_lend u g (nI r) 1 = (nI d, LD g 1 d (nI r)) ∧ v' 39 = v 39 ∧ SIM c v' f' u (LD g 1 d (nI r)) ∧ (LD g 1 d (nI r) 38 (8 * 1 + r) = 1 ∧ LD g 1 d (nI r) 39 (8 * 1 + r) = nI r) ∧ (∃ k : Nat, fz (LD g 1 d (nI r) 38) 1 8 = k ∧ fz (g 38) 1 8 = k + 1) := by
  have hfz := ld_fz (u := u) (q := 1) (b := nI r) hf
  obtain ⟨d, hd, h0, hz, e⟩ := ld_spec (u := u) (nI r) hf
  obtain ⟨m1, -⟩ := (h.2.2.2.2.2.1 1 (by decide)).2.1 h2
  have e9 : S_X4_leastFree_18 v f = nI d := lf_1 v f m1 (fm_lt (g 38) 1 8) hd (by rw [fm_bit _ _ _ _ hd, if_pos hz]) (fun j hj => by rw [fm_bit _ _ _ _ (by omega), if_neg (h0 j hj)])
  rw [e] at hfz
  refine ⟨d, (lc v f 1 r d).1, (lc v f 1 r d).2, hd, ?_, e, ?_, h.lend h2 (by decide) hd hr hz (Or.inr hh) (if_pos (nI_pos' (by omega))), ?_, ⟨_, rfl, hfz.symm⟩⟩
  · unfold S_X4_lendNext_18 Q_X4_lendNext_18_1 Q_X4_lendNext_18_2
    rw [e9, ln_1 v f r d hr hd]
  · unfold lc
    dsimp only
    rw [pk_un (by decide)]
  · have hne : 8 * 1 + r ≠ 8 * 1 + d := fun t9 => by rw [← t9, hh.1] at hz; exact absurd hz (by decide)
    exact ⟨(pk_un hne).trans hh.1, (pk_un hne).trans hh.2⟩
theorem of_1 {c : Nat} {v : Nat → Int32} {f : Nat → Nat → Int32} {u : Nat → Int32} {g : Nat → Nat → Int32} (h : SIM c v f u g) {b : Nat} (hb : b < 8) : SIM c (S_X3_offer_1 v f (nI b)).1 (S_X3_offer_1 v f (nI b)).2 u (S_X9_offer u g (nI b) 1) := by
  obtain ⟨t, et, ht⟩ := (h.minv.1 1 (by decide)).2.2.2.1
  have ev : v 46 = g 40 1 := (h.2.2.2.2.2.1 1 (by decide)).1.1
  have x1 : (g 40 1 + 1) &&& 65535 = nI ((t + 1) % 65536) := by
    rw [et, nI_1, pk_andN (by omega) (m := 65535) 16 rfl]
  have e8 : g 40 1 - g 40 1 / 8 * 8 = nI (t % 8) := by
    rw [et]; exact pk_rem (d := 8) (by omega) (by decide) (by decide)
  have hA : (nI (256 * 1 + 132) + 2 * nI (t % 8) : Int32) = nI (256 * 1 + 132 + 2 * (t % 8)) := by
    rw [show (2 : Int32) = nI 2 from rfl, pk_mul, nI_add]
  have hC : S_X3_offer_1 v f (nI b) = (upd v 46 (nI ((t + 1) % 65536)), va_up f 2 (WR (WR (f 2) (256 * 1 + 132 + 2 * (t % 8)) 2 (bx b)) (256 * 1 + 130) 2 (bx ((t + 1) % 65536)))) := by
    unfold S_X3_offer_1 Q_X3_offer_1_3 Q_X3_offer_1_2 Q_X3_offer_1_1 S_X8_oneMore
    rw [ev, x1, e8, show S_X8_availableOf v f 1 + 4 = nI (256 * 1 + 132) from rfl, show S_X8_availableOf v f 1 + 2 = nI (256 * 1 + 130) from rfl, hA, nI_l (by omega), nI_l (by omega), put_C _ _ _ _ _ (by omega) (by decide) (by omega), put_C _ _ _ _ _ (by omega) (by decide) (by omega), up_up, va_up_self]
  have hR : S_X9_offer u g (nI b) 1 = va_up (va_up g 40 (upd (g 40) 1 (nI ((t + 1) % 65536)))) 23 (WR (WR (g 23) (256 * 1 + 132 + 2 * (t % 8)) 2 (bx b)) (256 * 1 + 130) 2 (bx ((t + 1) % 65536))) := by
    unfold S_X9_offer Q_X9_offer_2 Q_X9_offer_1
    rw [e8, hA, nI_l (show b < 2 ^ 31 by omega), put_M _ _ _ _ _ (by omega) (by decide) (by omega), va_up_ne _ _ (show 40 ≠ 23 by decide), pk_us, x1, nI_l (by omega), put_M _ _ _ _ _ (by omega) (by decide) (by omega), va_up_ne _ _ (show 23 ≠ 40 by decide), va_up_self]
    funext j
    unfold va_up
    by_cases e1 : j = 23
    · rw [if_pos e1, if_pos e1]
    · rw [if_neg e1, if_neg e1, if_neg e1]
  rw [hC, hR]
  have h9 := h.asked 1 (x := nI ((t + 1) % 65536)) (y := nI ((t + 1) % 65536)) rfl (by decide) ⟨_, rfl, Nat.mod_lt _ (by decide)⟩
  refine h9.wr ?_
  have h10 : EQ (f 2) (g 23) := h.mem
  exact (h10.wr _ _ _).wr _ _ _
theorem lf_2 (v : Nat → Int32) (f : Nat → Nat → Int32) {m d : Nat} (hm : v 49 = nI m) (h8 : m < 256) (hd : d < 8) (h1 : m / 2 ^ d % 2 = 1) (h0 : ∀ j : Nat, j < d → m / 2 ^ j % 2 = 0) : S_X4_leastFree_20 v f = nI d := by
  have h : ∀ n i : Nat, i ≤ d → d - i < n → L_X4_leastFree_20 v f n i = nI d := by
    intro n
    induction n with
    | zero => intro i _ h; omega
    | succ n ih =>
      intro i hi hn
      rw [L_X4_leastFree_20, if_neg (show ¬ (8 : Int32) ≤ nI i from nI_ge (b := 8) (by omega) (by decide)), hm]
      by_cases e : i = d
      · subst e
        rw [if_neg (fun t => by rw [bt_t m h8 i hd, h1] at t; exact absurd t (by decide))]
      · rw [if_pos ((bt_t m h8 i (by omega)).mpr (h0 i (by omega)))]
        exact ih (i + 1) (by omega) (by omega)
  exact h 9 0 (by omega) (by omega)
theorem ln_2 (v : Nat → Int32) (f : Nat → Nat → Int32) (r d : Nat) (hr : r < 8) (hd : d < 8) : S_X4_lend_20 v f (nI r) (nI d) = lc v f 2 r d := by
  unfold S_X4_lend_20 lc
  rw [if_neg (nI_pos (by omega)), if_neg (show ¬ (8 : Int32) ≤ nI r from nI_ge (b := 8) hr (by decide)), if_neg (nI_pos (by omega)), nI_clamp (by omega)]
theorem lF_2 {c : Nat} {v : Nat → Int32} {f : Nat → Nat → Int32} {u : Nat → Int32} {g : Nat → Nat → Int32} (h : SIM c v f u g) (h2 : u 2 = 1) (hf : ∃ d : Nat, d < 8 ∧ g 38 (8 * 2 + d) = 0) : ∃ (d : Nat) (v' : Nat → Int32) (f' : Nat → Nat → Int32), d < 8 ∧ S_X4_lendFirst_20 v f = (nI d, v', f') ∧ S_X9_lend u g (-1) 2 = (nI d, LD g 2 d (-1)) ∧ v' 39 = v 39 ∧ SIM c v' f' u (LD g 2 d (-1)) ∧ (LD g 2 d (-1) 38 (8 * 2 + d) = 1 ∧ LD g 2 d (-1) 39 (8 * 2 + d) = nI d) ∧ (∃ k : Nat, fz (LD g 2 d (-1) 38) 2 8 = k ∧ fz (g 38) 2 8 = k + 1) := by
  have hfz := ld_fz (u := u) (q := 2) (b := -1) hf
  obtain ⟨d, hd, h0, hz, e⟩ := ld_spec (u := u) (-1) hf
  obtain ⟨m1, -⟩ := (h.2.2.2.2.2.1 2 (by decide)).2.1 h2
  have e9 : S_X4_leastFree_20 v f = nI d := lf_2 v f m1 (fm_lt (g 38) 2 8) hd (by rw [fm_bit _ _ _ _ hd, if_pos hz]) (fun j hj => by rw [fm_bit _ _ _ _ (by omega), if_neg (h0 j hj)])
  rw [e] at hfz
  refine ⟨d, (lc v f 2 d d).1, (lc v f 2 d d).2, hd, ?_, e, ?_, h.lend h2 (by decide) hd hd hz (Or.inl rfl) rfl, ⟨pk_us, pk_us⟩, ⟨_, rfl, hfz.symm⟩⟩
  · unfold S_X4_lendFirst_20 Q_X4_lendFirst_20_1 Q_X4_lendFirst_20_2
    rw [e9, ln_2 v f d d hd hd]
  · unfold lc
    dsimp only
    rw [pk_un (by decide)]
theorem lnx_2 {c : Nat} {v : Nat → Int32} {f : Nat → Nat → Int32} {u : Nat → Int32} {g : Nat → Nat → Int32} (h : SIM c v f u g) (h2 : u 2 = 1) {r : Nat} (hr : r < 8) (hh : g 38 (8 * 2 + r) = 1 ∧ g 39 (8 * 2 + r) = nI r) (hf : ∃ d : Nat, d < 8 ∧ g 38 (8 * 2 + d) = 0) : ∃ (d : Nat) (v' : Nat → Int32) (f' : Nat → Nat → Int32), d < 8 ∧ S_X4_lendNext_20 v f (nI r) = (nI d, v', f') ∧ S_X9_lend u g (nI r) 2 = (nI d, LD g 2 d (nI r)) ∧ v' 39 = v 39 ∧ SIM c v' f' u (LD g 2 d (nI r)) ∧ (LD g 2 d (nI r) 38 (8 * 2 + r) = 1 ∧ LD g 2 d (nI r) 39 (8 * 2 + r) = nI r) ∧ (∃ k : Nat, fz (LD g 2 d (nI r) 38) 2 8 = k ∧ fz (g 38) 2 8 = k + 1) := by
  have hfz := ld_fz (u := u) (q := 2) (b := nI r) hf
  obtain ⟨d, hd, h0, hz, e⟩ := ld_spec (u := u) (nI r) hf
  obtain ⟨m1, -⟩ := (h.2.2.2.2.2.1 2 (by decide)).2.1 h2
  have e9 : S_X4_leastFree_20 v f = nI d := lf_2 v f m1 (fm_lt (g 38) 2 8) hd (by rw [fm_bit _ _ _ _ hd, if_pos hz]) (fun j hj => by rw [fm_bit _ _ _ _ (by omega), if_neg (h0 j hj)])
  rw [e] at hfz
  refine ⟨d, (lc v f 2 r d).1, (lc v f 2 r d).2, hd, ?_, e, ?_, h.lend h2 (by decide) hd hr hz (Or.inr hh) (if_pos (nI_pos' (by omega))), ?_, ⟨_, rfl, hfz.symm⟩⟩
  · unfold S_X4_lendNext_20 Q_X4_lendNext_20_1 Q_X4_lendNext_20_2
    rw [e9, ln_2 v f r d hr hd]
  · unfold lc
    dsimp only
    rw [pk_un (by decide)]
  · have hne : 8 * 2 + r ≠ 8 * 2 + d := fun t9 => by rw [← t9, hh.1] at hz; exact absurd hz (by decide)
    exact ⟨(pk_un hne).trans hh.1, (pk_un hne).trans hh.2⟩
theorem of_2 {c : Nat} {v : Nat → Int32} {f : Nat → Nat → Int32} {u : Nat → Int32} {g : Nat → Nat → Int32} (h : SIM c v f u g) {b : Nat} (hb : b < 8) : SIM c (S_X3_offer_2 v f (nI b)).1 (S_X3_offer_2 v f (nI b)).2 u (S_X9_offer u g (nI b) 2) := by
  obtain ⟨t, et, ht⟩ := (h.minv.1 2 (by decide)).2.2.2.1
  have ev : v 50 = g 40 2 := (h.2.2.2.2.2.1 2 (by decide)).1.1
  have x1 : (g 40 2 + 1) &&& 65535 = nI ((t + 1) % 65536) := by
    rw [et, nI_1, pk_andN (by omega) (m := 65535) 16 rfl]
  have e8 : g 40 2 - g 40 2 / 8 * 8 = nI (t % 8) := by
    rw [et]; exact pk_rem (d := 8) (by omega) (by decide) (by decide)
  have hA : (nI (256 * 2 + 132) + 2 * nI (t % 8) : Int32) = nI (256 * 2 + 132 + 2 * (t % 8)) := by
    rw [show (2 : Int32) = nI 2 from rfl, pk_mul, nI_add]
  have hC : S_X3_offer_2 v f (nI b) = (upd v 50 (nI ((t + 1) % 65536)), va_up f 2 (WR (WR (f 2) (256 * 2 + 132 + 2 * (t % 8)) 2 (bx b)) (256 * 2 + 130) 2 (bx ((t + 1) % 65536)))) := by
    unfold S_X3_offer_2 Q_X3_offer_2_3 Q_X3_offer_2_2 Q_X3_offer_2_1 S_X8_oneMore
    rw [ev, x1, e8, show S_X8_availableOf v f 2 + 4 = nI (256 * 2 + 132) from rfl, show S_X8_availableOf v f 2 + 2 = nI (256 * 2 + 130) from rfl, hA, nI_l (by omega), nI_l (by omega), put_C _ _ _ _ _ (by omega) (by decide) (by omega), put_C _ _ _ _ _ (by omega) (by decide) (by omega), up_up, va_up_self]
  have hR : S_X9_offer u g (nI b) 2 = va_up (va_up g 40 (upd (g 40) 2 (nI ((t + 1) % 65536)))) 23 (WR (WR (g 23) (256 * 2 + 132 + 2 * (t % 8)) 2 (bx b)) (256 * 2 + 130) 2 (bx ((t + 1) % 65536))) := by
    unfold S_X9_offer Q_X9_offer_2 Q_X9_offer_1
    rw [e8, hA, nI_l (show b < 2 ^ 31 by omega), put_M _ _ _ _ _ (by omega) (by decide) (by omega), va_up_ne _ _ (show 40 ≠ 23 by decide), pk_us, x1, nI_l (by omega), put_M _ _ _ _ _ (by omega) (by decide) (by omega), va_up_ne _ _ (show 23 ≠ 40 by decide), va_up_self]
    funext j
    unfold va_up
    by_cases e1 : j = 23
    · rw [if_pos e1, if_pos e1]
    · rw [if_neg e1, if_neg e1, if_neg e1]
  rw [hC, hR]
  have h9 := h.asked 2 (x := nI ((t + 1) % 65536)) (y := nI ((t + 1) % 65536)) rfl (by decide) ⟨_, rfl, Nat.mod_lt _ (by decide)⟩
  refine h9.wr ?_
  have h10 : EQ (f 2) (g 23) := h.mem
  exact (h10.wr _ _ _).wr _ _ _
