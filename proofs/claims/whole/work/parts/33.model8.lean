theorem fo_ge {u : Nat → Int32} {g : Nat → Nat → Int32} {q k : Nat} (hk : k ≤ 8) (h : nI k ≤ (S_X9_freeOnes u g q)) : k ≤ fz (g 38) q 8 := by
  have := fz_le (g 38) q 8
  rw [fo_fz, nI_leI (by omega) (by omega)] at h
  exact h
theorem fo_ex {u : Nat → Int32} {g : Nat → Nat → Int32} {q k : Nat} (hk : 1 ≤ k ∧ k ≤ 8) (h : nI k ≤ (S_X9_freeOnes u g q)) : ∃ d : Nat, d < 8 ∧ (g 38) (8 * q + d) = 0 := fz_ex (by have := fo_ge hk.2 h; omega)
theorem fo_ex2 {u : Nat → Int32} {g : Nat → Nat → Int32} {q k : Nat} {b : Int32} (hk : 2 ≤ k ∧ k ≤ 8) (h : nI k ≤ (S_X9_freeOnes u g q)) : ∃ d : Nat, d < 8 ∧ ((S_X9_lend u g b q).2 38) (8 * q + d) = 0 := fz_ex (by have h1 := fo_ge hk.2 h; have h2 := ld_fz (u := u) (b := b) (fo_ex ⟨by omega, hk.2⟩ h); omega)
theorem fo_ex3 {u : Nat → Int32} {g : Nat → Nat → Int32} {q k : Nat} {b b2 : Int32} (hk : 3 ≤ k ∧ k ≤ 8) (h : nI k ≤ (S_X9_freeOnes u g q)) : ∃ d : Nat, d < 8 ∧ ((S_X9_lend u (S_X9_lend u g b q).2 b2 q).2 38) (8 * q + d) = 0 := fz_ex (by have h1 := fo_ge hk.2 h; have h2 := ld_fz (u := u) (b := b) (fo_ex ⟨by omega, hk.2⟩ h); have h3 := ld_fz (u := u) (b := b2) (fo_ex2 (b := b) ⟨by omega, hk.2⟩ h); omega)
def Q_X9_post_1 (u : Nat → Int32) (g : Nat → Nat → Int32) : (Nat → Nat → Int32) := (S_X9_describe u ((S_X9_lend u g (-1) 1).2) (256 + (16 * ((S_X9_lend u g (-1) 1).1))) (3072 + (96 * ((S_X9_lend u g (-1) 1).1))) 92 2 0)
def Q_X9_post_2 (u : Nat → Int32) (g : Nat → Nat → Int32) : (Nat → Nat → Int32) := (S_X9_offer u (Q_X9_post_1 u g) ((S_X9_lend u g (-1) 1).1) 1)
def S_X9_post (u : Nat → Int32) (g : Nat → Nat → Int32)  : Int32 × (Nat → Nat → Int32) :=
  if (u 2) = 0 then ((-4), g)
  else if 1 ≤ (S_X9_freeOnes u g 1) then (((S_X9_lend u g (-1) 1).1), (Q_X9_post_2 u g))
    else ((-1), g)
set_option maxHeartbeats 1000000 in
set_option maxRecDepth 100000 in
theorem c_X9_post (ε : ET) (ad : Nat → Nat) (v : Nat → Int32) (f : Nat → Nat → Int32) (u : Nat → Int32) (g : Nat → Nat → Int32)  (hM : MInv u g) : CT ε yX9_post cX9_post 2 (some .int) 2 50 0 0 [.ref (ad 22)] (WD ε ad v f u g) (DT (some (.int ((S_X9_post u g).1))) (WD ε ad v f u ((S_X9_post u g).2))) := by
  refine CT.of (own := RX9) (by decide) rfl (Nat.le_of_ble_eq_true rfl) (fun κ C hQ => ?_)
  refine j_aload_n (i := 0) C dX9_post_0 rfl 0 rfl ?_
  refine g_22_started (x := (u 2)) C dX9_post_1 lf_X9_83 rfl ?_
  refine j_if_ne (tgt := 10) C dX9_post_4 (by decide) (fun c_1 => ?_) (fun c_1 => ?_)
  · refine j_aload_n (i := 0) C dX9_post_10 rfl 0 rfl ?_
    refine j_iconst (x := 1) C dX9_post_11 (by decide) ?_
    refine c_V (As := [.int 1]) (rest := []) (st1 := [.int (S_X9_freeOnes u g 1)]) C (c_X9_freeOnes ε ad v f u g 1  (by first | assumption | omega | decide)) mv_X9_freeOnes lm_X9_180 dX9_post_12 22 wl_22 rfl rfl rfl (by decide) (Nat.le_of_ble_eq_true rfl) rfl ?_
    refine j_iconst (x := 1) C dX9_post_15 (by decide) ?_
    refine j_icmp_ge (tgt := 21) C dX9_post_16 (by decide) (fun c_2 => ?_) (fun c_2 => ?_)
    · refine j_aload_n (i := 0) C dX9_post_21 rfl 0 rfl ?_
      refine j_iconst (x := 1) C dX9_post_22 (by decide) ?_
      refine j_iconst (x := (-1)) C dX9_post_23 (by decide) ?_
      refine c_V (As := [.int 1, .int (-1)]) (rest := []) (st1 := [.int ((S_X9_lend u g (-1) 1).1)]) C (c_X9_lend ε ad v f u g (-1) 1  (by first | assumption | omega | decide) (fo_ex (k := 1) (by decide) c_2)) mv_X9_lend lm_X9_183 dX9_post_24 22 wl_22 rfl rfl rfl (by decide) (Nat.le_of_ble_eq_true rfl) rfl ?_
      refine j_istore_n (i := 1) (lv' := [(1, .int ((S_X9_lend u g (-1) 1).1)), (0, .ref (ad 22))]) C dX9_post_27 rfl (by decide) rfl ?_
      refine j_aload_n (i := 0) C dX9_post_28 rfl 1 rfl ?_
      refine j_sipush (x := 256) C dX9_post_29 (by decide) ?_
      refine j_bipush (x := 16) C dX9_post_32 (by decide) ?_
      refine j_iload_n (i := 1) C dX9_post_34 rfl 0 rfl ?_
      refine j_imul C dX9_post_35 ?_
      refine j_iadd C dX9_post_36 ?_
      refine j_sipush (x := 3072) C dX9_post_37 (by decide) ?_
      refine j_bipush (x := 96) C dX9_post_40 (by decide) ?_
      refine j_iload_n (i := 1) C dX9_post_42 rfl 0 rfl ?_
      refine j_imul C dX9_post_43 ?_
      refine j_iadd C dX9_post_44 ?_
      refine j_bipush (x := 92) C dX9_post_45 (by decide) ?_
      refine j_iconst (x := 2) C dX9_post_47 (by decide) ?_
      refine j_iconst (x := 0) C dX9_post_48 (by decide) ?_
      refine c_V (As := [.int (256 + (16 * ((S_X9_lend u g (-1) 1).1))), .int (3072 + (96 * ((S_X9_lend u g (-1) 1).1))), .int 92, .int 2, .int 0]) (rest := []) (st1 := []) (ω1 := (WD ε ad v f u (Q_X9_post_1 u g))) C (c_X9_describe ε ad v f u ((S_X9_lend u g (-1) 1).2) (256 + (16 * ((S_X9_lend u g (-1) 1).1))) (3072 + (96 * ((S_X9_lend u g (-1) 1).1))) 92 2 0  (by obtain ⟨d9, h91, h92⟩ := ld_J (u := u) (b := -1) (fo_ex (k := 1) (by decide) c_2); exact ma_l 256 16 h92 (by omega))) mv_X9_describe lm_X9_186 dX9_post_49 22 wl_22 rfl rfl rfl (by decide) (Nat.le_of_ble_eq_true rfl) rfl ?_
      refine j_aload_n (i := 0) C dX9_post_52 rfl 1 rfl ?_
      refine j_iconst (x := 1) C dX9_post_53 (by decide) ?_
      refine j_iload_n (i := 1) C dX9_post_54 rfl 0 rfl ?_
      refine c_V (As := [.int 1, .int ((S_X9_lend u g (-1) 1).1)]) (rest := []) (st1 := []) (ω1 := (WD ε ad v f u (Q_X9_post_2 u g))) C (c_X9_offer ε ad v f u (Q_X9_post_1 u g) ((S_X9_lend u g (-1) 1).1) 1  (by first | assumption | omega | decide) (by unfold Q_X9_post_1; rw [de_same _ _ _ _ _ _ _ 40 (by decide), ld_same (fo_ex (k := 1) (by decide) c_2) (by decide) (by decide)]; exact (hM.1 1 (by decide)).2.2.2.1)) mv_X9_offer lm_X9_190 dX9_post_55 22 wl_22 rfl rfl rfl (by decide) (Nat.le_of_ble_eq_true rfl) rfl ?_
      refine j_iload_n (i := 1) C dX9_post_58 rfl 0 rfl ?_
      have hs : S_X9_post u g = (((S_X9_lend u g (-1) 1).1), (Q_X9_post_2 u g)) := by unfold S_X9_post; rw [if_neg c_1, if_pos c_2]
      exact j_iret C hQ rfl dX9_post_59 (dt_ifM hs)
    · refine j_iconst (x := (-1)) C dX9_post_19 (by decide) ?_
      have hs : S_X9_post u g = ((-1), g) := by unfold S_X9_post; rw [if_neg c_1, if_neg c_2]
      exact j_iret C hQ rfl dX9_post_20 (dt_ifM hs)
  · refine j_bipush (x := (-4)) C dX9_post_7 (by decide) ?_
    have hs : S_X9_post u g = ((-4), g) := by unfold S_X9_post; rw [if_pos c_1]
    exact j_iret C hQ rfl dX9_post_9 (dt_ifM hs)

def Q_X9_ask_1 (u : Nat → Int32) (g : Nat → Nat → Int32) (a : Int32) (b : Int32) (c : Int64) : Int32 := if (u 1) = 0 then 3
    else 1
def Q_X9_ask_2 (u : Nat → Int32) (g : Nat → Nat → Int32) (a : Int32) (b : Int32) (c : Int64) : Int32 := if a = 0 then 3
    else 1
def Q_X9_ask_3 (u : Nat → Int32) (g : Nat → Nat → Int32) (a : Int32) (b : Int32) (c : Int64) : (Nat → Nat → Int32) := (S_X9_describe u ((S_X9_lend u g (-1) 0).2) (1792 + (64 * ((S_X9_lend u g (-1) 0).1))) (1024 + (96 * ((S_X9_lend u g (-1) 0).1))) 16 1 1)
def Q_X9_ask_4 (u : Nat → Int32) (g : Nat → Nat → Int32) (a : Int32) (b : Int32) (c : Int64) : (Nat → Nat → Int32) := (S_X9_describe u (Q_X9_ask_3 u g a b c) ((1792 + (64 * ((S_X9_lend u g (-1) 0).1))) + (16 * 1)) ((1024 + (96 * ((S_X9_lend u g (-1) 0).1))) + 16) 64 (Q_X9_ask_2 u g a b c) 2)
def Q_X9_ask_5 (u : Nat → Int32) (g : Nat → Nat → Int32) (a : Int32) (b : Int32) (c : Int64) : (Nat → Nat → Int32) := (S_X9_describe u (Q_X9_ask_4 u g a b c) ((1792 + (64 * ((S_X9_lend u g (-1) 0).1))) + (16 * 2)) ((1024 + (96 * ((S_X9_lend u g (-1) 0).1))) + 80) 1 2 0)
def Q_X9_ask_6 (u : Nat → Int32) (g : Nat → Nat → Int32) (a : Int32) (b : Int32) (c : Int64) : (Nat → Nat → Int32) := (S_X9_describe u (Q_X9_ask_5 u g a b c) (16 * ((S_X9_lend u g (-1) 0).1)) (1792 + (64 * ((S_X9_lend u g (-1) 0).1))) 48 4 0)
def Q_X9_ask_7 (u : Nat → Int32) (g : Nat → Nat → Int32) (a : Int32) (b : Int32) (c : Int64) : (Nat → Nat → Int32) := (S_X9_put u (Q_X9_ask_6 u g a b c) (1024 + (96 * ((S_X9_lend u g (-1) 0).1))) ((a : Int32).toInt64) 8)
def Q_X9_ask_8 (u : Nat → Int32) (g : Nat → Nat → Int32) (a : Int32) (b : Int32) (c : Int64) : (Nat → Nat → Int32) := (S_X9_put u (Q_X9_ask_7 u g a b c) ((1024 + (96 * ((S_X9_lend u g (-1) 0).1))) + 8) ((b : Int32).toInt64) 8)
def L_X9_ask (u : Nat → Int32) (g : Nat → Nat → Int32) (a : Int32) (b : Int32) (c : Int64) : Nat → (Nat → Nat → Int32)
  | 0 => (Q_X9_ask_8 u g a b c)
  | i1 + 1 =>
    (va_up (L_X9_ask u g a b c i1) 23 (upd ((L_X9_ask u g a b c i1) 23) ((((1024 + (96 * ((S_X9_lend u g (-1) 0).1))) + 16) + (nI i1))).toNatClampNeg (vp_nar .byte (((S_X9_frameByte u (L_X9_ask u g a b c i1) c (nI i1)) : Int32).toInt8.toInt32))))
def Q_X9_ask_9 (u : Nat → Int32) (g : Nat → Nat → Int32) (a : Int32) (b : Int32) (c : Int64) : (Nat → Nat → Int32) := (S_X9_offer u (L_X9_ask u g a b c 64) ((S_X9_lend u g (-1) 0).1) 0)
def Q_X9_ask_10 (u : Nat → Int32) (g : Nat → Nat → Int32) (a : Int32) (b : Int32) (c : Int64) : (Nat → Nat → Int32) := (S_X9_offer u (Q_X9_ask_8 u g a b c) ((S_X9_lend u g (-1) 0).1) 0)
def Q_X9_ask_11 (u : Nat → Int32) (g : Nat → Nat → Int32) (a : Int32) (b : Int32) (c : Int64) : Int32 := ((S_X9_lend u ((S_X9_lend u g (-1) 0).2) ((S_X9_lend u g (-1) 0).1) 0).1)
def Q_X9_ask_12 (u : Nat → Int32) (g : Nat → Nat → Int32) (a : Int32) (b : Int32) (c : Int64) : (Nat → Nat → Int32) := ((S_X9_lend u ((S_X9_lend u g (-1) 0).2) ((S_X9_lend u g (-1) 0).1) 0).2)
def Q_X9_ask_13 (u : Nat → Int32) (g : Nat → Nat → Int32) (a : Int32) (b : Int32) (c : Int64) : Int32 := ((S_X9_lend u (Q_X9_ask_12 u g a b c) ((S_X9_lend u g (-1) 0).1) 0).1)
def Q_X9_ask_14 (u : Nat → Int32) (g : Nat → Nat → Int32) (a : Int32) (b : Int32) (c : Int64) : (Nat → Nat → Int32) := ((S_X9_lend u (Q_X9_ask_12 u g a b c) ((S_X9_lend u g (-1) 0).1) 0).2)
def Q_X9_ask_15 (u : Nat → Int32) (g : Nat → Nat → Int32) (a : Int32) (b : Int32) (c : Int64) : (Nat → Nat → Int32) := (S_X9_describe u (Q_X9_ask_14 u g a b c) (16 * ((S_X9_lend u g (-1) 0).1)) (1024 + (96 * ((S_X9_lend u g (-1) 0).1))) 16 1 (Q_X9_ask_11 u g a b c))
def Q_X9_ask_16 (u : Nat → Int32) (g : Nat → Nat → Int32) (a : Int32) (b : Int32) (c : Int64) : (Nat → Nat → Int32) := (S_X9_describe u (Q_X9_ask_15 u g a b c) (0 + (16 * (Q_X9_ask_11 u g a b c))) ((1024 + (96 * ((S_X9_lend u g (-1) 0).1))) + 16) 64 (Q_X9_ask_2 u g a b c) (Q_X9_ask_13 u g a b c))
def Q_X9_ask_17 (u : Nat → Int32) (g : Nat → Nat → Int32) (a : Int32) (b : Int32) (c : Int64) : (Nat → Nat → Int32) := (S_X9_describe u (Q_X9_ask_16 u g a b c) (0 + (16 * (Q_X9_ask_13 u g a b c))) ((1024 + (96 * ((S_X9_lend u g (-1) 0).1))) + 80) 1 2 0)
def Q_X9_ask_18 (u : Nat → Int32) (g : Nat → Nat → Int32) (a : Int32) (b : Int32) (c : Int64) : (Nat → Nat → Int32) := (S_X9_put u (Q_X9_ask_17 u g a b c) (1024 + (96 * ((S_X9_lend u g (-1) 0).1))) ((a : Int32).toInt64) 8)
def Q_X9_ask_19 (u : Nat → Int32) (g : Nat → Nat → Int32) (a : Int32) (b : Int32) (c : Int64) : (Nat → Nat → Int32) := (S_X9_put u (Q_X9_ask_18 u g a b c) ((1024 + (96 * ((S_X9_lend u g (-1) 0).1))) + 8) ((b : Int32).toInt64) 8)
def L_X9_ask2 (u : Nat → Int32) (g : Nat → Nat → Int32) (a : Int32) (b : Int32) (c : Int64) : Nat → (Nat → Nat → Int32)
  | 0 => (Q_X9_ask_19 u g a b c)
  | i2 + 1 =>
    (va_up (L_X9_ask2 u g a b c i2) 23 (upd ((L_X9_ask2 u g a b c i2) 23) ((((1024 + (96 * ((S_X9_lend u g (-1) 0).1))) + 16) + (nI i2))).toNatClampNeg (vp_nar .byte (((S_X9_frameByte u (L_X9_ask2 u g a b c i2) c (nI i2)) : Int32).toInt8.toInt32))))
def Q_X9_ask_20 (u : Nat → Int32) (g : Nat → Nat → Int32) (a : Int32) (b : Int32) (c : Int64) : (Nat → Nat → Int32) := (S_X9_offer u (L_X9_ask2 u g a b c 64) ((S_X9_lend u g (-1) 0).1) 0)
def Q_X9_ask_21 (u : Nat → Int32) (g : Nat → Nat → Int32) (a : Int32) (b : Int32) (c : Int64) : (Nat → Nat → Int32) := (S_X9_offer u (Q_X9_ask_19 u g a b c) ((S_X9_lend u g (-1) 0).1) 0)
def S_X9_ask (u : Nat → Int32) (g : Nat → Nat → Int32) (a : Int32) (b : Int32) (c : Int64) : Int32 × (Nat → Nat → Int32) :=
  if (S_X9_isIn u g b 0 31) = 0 then ((-2), g)
  else if (u 2) = 0 then ((-4), g)
    else if (Q_X9_ask_1 u g a b c) ≤ (S_X9_freeOnes u g 0) then if (u 1) = 0 then if a = 1 then (((S_X9_lend u g (-1) 0).1), (Q_X9_ask_20 u g a b c))
          else (((S_X9_lend u g (-1) 0).1), (Q_X9_ask_21 u g a b c))
        else if a = 1 then (((S_X9_lend u g (-1) 0).1), (Q_X9_ask_9 u g a b c))
          else (((S_X9_lend u g (-1) 0).1), (Q_X9_ask_10 u g a b c))
      else ((-1), g)
theorem lk1_same (u : Nat → Int32) (g : Nat → Nat → Int32) (a b : Int32) (c : Int64) (i j : Nat) (h : j ≠ 23) : (L_X9_ask u g a b c i) j = (Q_X9_ask_8 u g a b c) j := by
  induction i with
  | zero => rw [L_X9_ask]
  | succ i ih =>
    rw [L_X9_ask]
    show (if j = 23 then _ else _) = _
    rw [if_neg h]
    exact ih
theorem lk2_same (u : Nat → Int32) (g : Nat → Nat → Int32) (a b : Int32) (c : Int64) (i j : Nat) (h : j ≠ 23) : (L_X9_ask2 u g a b c i) j = (Q_X9_ask_19 u g a b c) j := by
  induction i with
  | zero => rw [L_X9_ask2]
  | succ i ih =>
    rw [L_X9_ask2]
    show (if j = 23 then _ else _) = _
    rw [if_neg h]
    exact ih
set_option maxHeartbeats 1000000 in
set_option maxRecDepth 100000 in
theorem c_X9_ask (ε : ET) (ad : Nat → Nat) (v : Nat → Int32) (f : Nat → Nat → Int32) (u : Nat → Int32) (g : Nat → Nat → Int32) (a : Int32) (b : Int32) (c : Int64) (hM : MInv u g) : CT ε yX9_ask cX9_ask 12 (some .int) 2 50 0 0 [.ref (ad 22), .int a, .int b, .long c] (WD ε ad v f u g) (DT (some (.int ((S_X9_ask u g a b c).1))) (WD ε ad v f u ((S_X9_ask u g a b c).2))) := by
  refine CT.of (own := RX9) (by decide) rfl (Nat.le_of_ble_eq_true rfl) (fun κ C hQ => ?_)
  refine j_iload_n (i := 2) C dX9_ask_0 rfl 2 rfl ?_
  refine j_iconst (x := 0) C dX9_ask_1 (by decide) ?_
  refine j_bipush (x := 31) C dX9_ask_2 (by decide) ?_
  refine c_S (As := [.int b, .int 0, .int 31]) (rest := []) (st1 := [.int (S_X9_isIn u g b 0 31)]) C (c_X9_isIn ε ad v f u g b 0 31  ) mt_X9_isIn lm_X9_7 dX9_ask_4 rfl rfl (by decide) (Nat.le_of_ble_eq_true rfl) rfl ?_
  refine j_if_ne (tgt := 13) C dX9_ask_7 (by decide) (fun c_1 => ?_) (fun c_1 => ?_)
  · refine j_aload_n (i := 0) C dX9_ask_13 rfl 0 rfl ?_
    refine g_22_started (x := (u 2)) C dX9_ask_14 lf_X9_83 rfl ?_
    refine j_if_ne (tgt := 23) C dX9_ask_17 (by decide) (fun c_2 => ?_) (fun c_2 => ?_)
    · refine j_aload_n (i := 0) C dX9_ask_23 rfl 0 rfl ?_
      refine j_iconst (x := 0) C dX9_ask_24 (by decide) ?_
      refine c_V (As := [.int 0]) (rest := []) (st1 := [.int (S_X9_freeOnes u g 0)]) C (c_X9_freeOnes ε ad v f u g 0  (by first | assumption | omega | decide)) mv_X9_freeOnes lm_X9_180 dX9_ask_25 22 wl_22 rfl rfl rfl (by decide) (Nat.le_of_ble_eq_true rfl) rfl ?_
      have jn1 : JW κ 0 0 (WD ε ad v f u g) 40 [(0, .ref (ad 22)), (1, .int a), (2, .int b), (3, .long c)] [.int (Q_X9_ask_1 u g a b c), .int (S_X9_freeOnes u g 0)] := by
        refine j_icmp_ge (tgt := 45) C dX9_ask_40 (by decide) (fun c_3 => ?_) (fun c_3 => ?_)
        · refine j_aload_n (i := 0) C dX9_ask_45 rfl 0 rfl ?_
          refine j_iconst (x := 0) C dX9_ask_46 (by decide) ?_
          refine j_iconst (x := (-1)) C dX9_ask_47 (by decide) ?_
          refine c_V (As := [.int 0, .int (-1)]) (rest := []) (st1 := [.int ((S_X9_lend u g (-1) 0).1)]) C (c_X9_lend ε ad v f u g (-1) 0  (by first | assumption | omega | decide) (by have h9 := c_3; unfold Q_X9_ask_1 at h9; split at h9; exact fo_ex (k := 3) (by decide) h9; exact fo_ex (k := 1) (by decide) h9)) mv_X9_lend lm_X9_183 dX9_ask_48 22 wl_22 rfl rfl rfl (by decide) (Nat.le_of_ble_eq_true rfl) rfl ?_
          refine j_istore (i := 5) (lv' := [(5, .int ((S_X9_lend u g (-1) 0).1)), (0, .ref (ad 22)), (1, .int a), (2, .int b), (3, .long c)]) C dX9_ask_51 (by decide) rfl ?_
          refine j_sipush (x := 1024) C dX9_ask_53 (by decide) ?_
          refine j_bipush (x := 96) C dX9_ask_56 (by decide) ?_
          refine j_iload (i := 5) C dX9_ask_58 0 rfl ?_
          refine j_imul C dX9_ask_60 ?_
          refine j_iadd C dX9_ask_61 ?_
          refine j_istore (i := 6) (lv' := [(6, .int (1024 + (96 * ((S_X9_lend u g (-1) 0).1)))), (5, .int ((S_X9_lend u g (-1) 0).1)), (0, .ref (ad 22)), (1, .int a), (2, .int b), (3, .long c)]) C dX9_ask_62 (by decide) rfl ?_
          refine j_iconst (x := 1) C dX9_ask_64 (by decide) ?_
          refine j_istore (i := 7) (lv' := [(7, .int 1), (6, .int (1024 + (96 * ((S_X9_lend u g (-1) 0).1)))), (5, .int ((S_X9_lend u g (-1) 0).1)), (0, .ref (ad 22)), (1, .int a), (2, .int b), (3, .long c)]) C dX9_ask_65 (by decide) rfl ?_
          refine j_iconst (x := 2) C dX9_ask_67 (by decide) ?_
          refine j_istore (i := 8) (lv' := [(8, .int 2), (7, .int 1), (6, .int (1024 + (96 * ((S_X9_lend u g (-1) 0).1)))), (5, .int ((S_X9_lend u g (-1) 0).1)), (0, .ref (ad 22)), (1, .int a), (2, .int b), (3, .long c)]) C dX9_ask_68 (by decide) rfl ?_
          refine j_sipush (x := 1792) C dX9_ask_70 (by decide) ?_
          refine j_bipush (x := 64) C dX9_ask_73 (by decide) ?_
          refine j_iload (i := 5) C dX9_ask_75 3 rfl ?_
          refine j_imul C dX9_ask_77 ?_
          refine j_iadd C dX9_ask_78 ?_
          refine j_istore (i := 9) (lv' := [(9, .int (1792 + (64 * ((S_X9_lend u g (-1) 0).1)))), (8, .int 2), (7, .int 1), (6, .int (1024 + (96 * ((S_X9_lend u g (-1) 0).1)))), (5, .int ((S_X9_lend u g (-1) 0).1)), (0, .ref (ad 22)), (1, .int a), (2, .int b), (3, .long c)]) C dX9_ask_79 (by decide) rfl ?_
          refine j_aload_n (i := 0) C dX9_ask_81 rfl 5 rfl ?_
          refine g_22_tables (x := (u 1)) C dX9_ask_82 lf_X9_79 rfl ?_
          refine j_if_ne (tgt := 109) C dX9_ask_85 (by decide) (fun c_4 => ?_) (fun c_4 => ?_)
          · have jn2 : JW κ 0 0 (WD ε ad v f u ((S_X9_lend u g (-1) 0).2)) 118 [(9, .int (1792 + (64 * ((S_X9_lend u g (-1) 0).1)))), (8, .int 2), (7, .int 1), (6, .int (1024 + (96 * ((S_X9_lend u g (-1) 0).1)))), (5, .int ((S_X9_lend u g (-1) 0).1)), (0, .ref (ad 22)), (1, .int a), (2, .int b), (3, .long c)] [.int (Q_X9_ask_2 u g a b c)] := by
              refine j_istore (i := 10) (lv' := [(10, .int (Q_X9_ask_2 u g a b c)), (9, .int (1792 + (64 * ((S_X9_lend u g (-1) 0).1)))), (8, .int 2), (7, .int 1), (6, .int (1024 + (96 * ((S_X9_lend u g (-1) 0).1)))), (5, .int ((S_X9_lend u g (-1) 0).1)), (0, .ref (ad 22)), (1, .int a), (2, .int b), (3, .long c)]) C dX9_ask_118 (by decide) rfl ?_
              refine j_aload_n (i := 0) C dX9_ask_120 rfl 6 rfl ?_
              refine j_aload_n (i := 0) C dX9_ask_121 rfl 6 rfl ?_
              refine g_22_tables (x := (u 1)) C dX9_ask_122 lf_X9_79 rfl ?_
              refine j_if_eq (tgt := 133) C dX9_ask_125 (by decide) (fun c9 => absurd c9 c_4) (fun _ => ?_)
              refine j_iload (i := 9) C dX9_ask_128 1 rfl ?_
              refine j_goto (tgt := 138) C dX9_ask_130 (by decide) ?_
              refine j_iload (i := 6) C dX9_ask_138 4 rfl ?_
              refine j_bipush (x := 16) C dX9_ask_140 (by decide) ?_
              refine j_iconst (x := 1) C dX9_ask_142 (by decide) ?_
              refine j_iload (i := 7) C dX9_ask_143 3 rfl ?_
              refine c_V (As := [.int (1792 + (64 * ((S_X9_lend u g (-1) 0).1))), .int (1024 + (96 * ((S_X9_lend u g (-1) 0).1))), .int 16, .int 1, .int 1]) (rest := []) (st1 := []) (ω1 := (WD ε ad v f u (Q_X9_ask_3 u g a b c))) C (c_X9_describe ε ad v f u ((S_X9_lend u g (-1) 0).2) (1792 + (64 * ((S_X9_lend u g (-1) 0).1))) (1024 + (96 * ((S_X9_lend u g (-1) 0).1))) 16 1 1  (by obtain ⟨d9, h91, h92⟩ := ld_J (u := u) (b := -1) (fo_ex (k := 1) (by decide) (by have h9 := c_3; unfold Q_X9_ask_1 at h9; rw [if_neg c_4] at h9; exact h9)); exact ma_l 1792 64 h92 (by omega))) mv_X9_describe lm_X9_186 dX9_ask_145 22 wl_22 rfl rfl rfl (by decide) (Nat.le_of_ble_eq_true rfl) rfl ?_
              refine j_aload_n (i := 0) C dX9_ask_148 rfl 6 rfl ?_
              refine j_iload (i := 9) C dX9_ask_149 1 rfl ?_
              refine j_bipush (x := 16) C dX9_ask_151 (by decide) ?_
              refine j_iload (i := 7) C dX9_ask_153 3 rfl ?_
              refine j_imul C dX9_ask_155 ?_
              refine j_iadd C dX9_ask_156 ?_
              refine j_iload (i := 6) C dX9_ask_157 4 rfl ?_
              refine j_bipush (x := 16) C dX9_ask_159 (by decide) ?_
              refine j_iadd C dX9_ask_161 ?_
              refine j_bipush (x := 64) C dX9_ask_162 (by decide) ?_
              refine j_iload (i := 10) C dX9_ask_164 0 rfl ?_
              refine j_iload (i := 8) C dX9_ask_166 2 rfl ?_
              refine c_V (As := [.int ((1792 + (64 * ((S_X9_lend u g (-1) 0).1))) + (16 * 1)), .int ((1024 + (96 * ((S_X9_lend u g (-1) 0).1))) + 16), .int 64, .int (Q_X9_ask_2 u g a b c), .int 2]) (rest := []) (st1 := []) (ω1 := (WD ε ad v f u (Q_X9_ask_4 u g a b c))) C (c_X9_describe ε ad v f u (Q_X9_ask_3 u g a b c) ((1792 + (64 * ((S_X9_lend u g (-1) 0).1))) + (16 * 1)) ((1024 + (96 * ((S_X9_lend u g (-1) 0).1))) + 16) 64 (Q_X9_ask_2 u g a b c) 2  (by obtain ⟨d9, h91, h92⟩ := ld_J (u := u) (b := -1) (fo_ex (k := 1) (by decide) (by have h9 := c_3; unfold Q_X9_ask_1 at h9; rw [if_neg c_4] at h9; exact h9)); exact (ma_l (n := 48) 1792 64 h92 (by omega)).sub 16 (by omega))) mv_X9_describe lm_X9_186 dX9_ask_168 22 wl_22 rfl rfl rfl (by decide) (Nat.le_of_ble_eq_true rfl) rfl ?_
              refine j_aload_n (i := 0) C dX9_ask_171 rfl 6 rfl ?_
              refine j_iload (i := 9) C dX9_ask_172 1 rfl ?_
              refine j_bipush (x := 16) C dX9_ask_174 (by decide) ?_
              refine j_iload (i := 8) C dX9_ask_176 2 rfl ?_
              refine j_imul C dX9_ask_178 ?_
              refine j_iadd C dX9_ask_179 ?_
              refine j_iload (i := 6) C dX9_ask_180 4 rfl ?_
              refine j_bipush (x := 80) C dX9_ask_182 (by decide) ?_
              refine j_iadd C dX9_ask_184 ?_
              refine j_iconst (x := 1) C dX9_ask_185 (by decide) ?_
              refine j_iconst (x := 2) C dX9_ask_186 (by decide) ?_
              refine j_iconst (x := 0) C dX9_ask_187 (by decide) ?_
              refine c_V (As := [.int ((1792 + (64 * ((S_X9_lend u g (-1) 0).1))) + (16 * 2)), .int ((1024 + (96 * ((S_X9_lend u g (-1) 0).1))) + 80), .int 1, .int 2, .int 0]) (rest := []) (st1 := []) (ω1 := (WD ε ad v f u (Q_X9_ask_5 u g a b c))) C (c_X9_describe ε ad v f u (Q_X9_ask_4 u g a b c) ((1792 + (64 * ((S_X9_lend u g (-1) 0).1))) + (16 * 2)) ((1024 + (96 * ((S_X9_lend u g (-1) 0).1))) + 80) 1 2 0  (by obtain ⟨d9, h91, h92⟩ := ld_J (u := u) (b := -1) (fo_ex (k := 1) (by decide) (by have h9 := c_3; unfold Q_X9_ask_1 at h9; rw [if_neg c_4] at h9; exact h9)); exact (ma_l (n := 48) 1792 64 h92 (by omega)).sub 32 (by omega))) mv_X9_describe lm_X9_186 dX9_ask_188 22 wl_22 rfl rfl rfl (by decide) (Nat.le_of_ble_eq_true rfl) rfl ?_
              refine j_aload_n (i := 0) C dX9_ask_191 rfl 6 rfl ?_
              refine g_22_tables (x := (u 1)) C dX9_ask_192 lf_X9_79 rfl ?_
              refine j_if_eq (tgt := 213) C dX9_ask_195 (by decide) (fun c9 => absurd c9 c_4) (fun _ => ?_)
              refine j_aload_n (i := 0) C dX9_ask_198 rfl 6 rfl ?_
              refine j_bipush (x := 16) C dX9_ask_199 (by decide) ?_
              refine j_iload (i := 5) C dX9_ask_201 5 rfl ?_
              refine j_imul C dX9_ask_203 ?_
              refine j_iload (i := 9) C dX9_ask_204 1 rfl ?_
              refine j_bipush (x := 48) C dX9_ask_206 (by decide) ?_
              refine j_iconst (x := 4) C dX9_ask_208 (by decide) ?_
              refine j_iconst (x := 0) C dX9_ask_209 (by decide) ?_
              refine c_V (As := [.int (16 * ((S_X9_lend u g (-1) 0).1)), .int (1792 + (64 * ((S_X9_lend u g (-1) 0).1))), .int 48, .int 4, .int 0]) (rest := []) (st1 := []) (ω1 := (WD ε ad v f u (Q_X9_ask_6 u g a b c))) C (c_X9_describe ε ad v f u (Q_X9_ask_5 u g a b c) (16 * ((S_X9_lend u g (-1) 0).1)) (1792 + (64 * ((S_X9_lend u g (-1) 0).1))) 48 4 0  (by obtain ⟨d9, h91, h92⟩ := ld_J (u := u) (b := -1) (fo_ex (k := 1) (by decide) (by have h9 := c_3; unfold Q_X9_ask_1 at h9; rw [if_neg c_4] at h9; exact h9)); exact ma_m 16 h92 (by omega))) mv_X9_describe lm_X9_186 dX9_ask_210 22 wl_22 rfl rfl rfl (by decide) (Nat.le_of_ble_eq_true rfl) rfl ?_
              refine j_aload_n (i := 0) C dX9_ask_213 rfl 6 rfl ?_
              refine j_iload (i := 6) C dX9_ask_214 4 rfl ?_
              refine j_bipush (x := 8) C dX9_ask_216 (by decide) ?_
              refine j_iload_n (i := 1) C dX9_ask_218 rfl 7 rfl ?_
              refine j_i2l C dX9_ask_219 ?_
              refine c_V (As := [.int (1024 + (96 * ((S_X9_lend u g (-1) 0).1))), .int 8, .long ((a : Int32).toInt64)]) (rest := []) (st1 := []) (ω1 := (WD ε ad v f u (Q_X9_ask_7 u g a b c))) C (c_X9_put ε ad v f u (Q_X9_ask_6 u g a b c) (1024 + (96 * ((S_X9_lend u g (-1) 0).1))) ((a : Int32).toInt64) 8  (by first | assumption | omega | decide) (by obtain ⟨d9, h91, h92⟩ := ld_J (u := u) (b := -1) (fo_ex (k := 1) (by decide) (by have h9 := c_3; unfold Q_X9_ask_1 at h9; rw [if_neg c_4] at h9; exact h9)); exact ma_l 1024 96 h92 (by omega))) mv_X9_put lm_X9_127 dX9_ask_220 22 wl_22 rfl rfl rfl (by decide) (Nat.le_of_ble_eq_true rfl) rfl ?_
              refine j_aload_n (i := 0) C dX9_ask_223 rfl 6 rfl ?_
              refine j_iload (i := 6) C dX9_ask_224 4 rfl ?_
              refine j_bipush (x := 8) C dX9_ask_226 (by decide) ?_
              refine j_iadd C dX9_ask_228 ?_
              refine j_bipush (x := 8) C dX9_ask_229 (by decide) ?_
              refine j_iload_n (i := 2) C dX9_ask_231 rfl 8 rfl ?_
              refine j_i2l C dX9_ask_232 ?_
              refine c_V (As := [.int ((1024 + (96 * ((S_X9_lend u g (-1) 0).1))) + 8), .int 8, .long ((b : Int32).toInt64)]) (rest := []) (st1 := []) (ω1 := (WD ε ad v f u (Q_X9_ask_8 u g a b c))) C (c_X9_put ε ad v f u (Q_X9_ask_7 u g a b c) ((1024 + (96 * ((S_X9_lend u g (-1) 0).1))) + 8) ((b : Int32).toInt64) 8  (by first | assumption | omega | decide) (by obtain ⟨d9, h91, h92⟩ := ld_J (u := u) (b := -1) (fo_ex (k := 1) (by decide) (by have h9 := c_3; unfold Q_X9_ask_1 at h9; rw [if_neg c_4] at h9; exact h9)); exact (ma_l (n := 96) 1024 96 h92 (by omega)).sub 8 (by omega))) mv_X9_put lm_X9_127 dX9_ask_233 22 wl_22 rfl rfl rfl (by decide) (Nat.le_of_ble_eq_true rfl) rfl ?_
              by_cases c_5 : a = 1
              · refine j_iconst (x := 0) C dX9_ask_236 (by decide) ?_
                refine j_istore (i := 11) (lv' := [(11, .int 0), (10, .int (Q_X9_ask_2 u g a b c)), (9, .int (1792 + (64 * ((S_X9_lend u g (-1) 0).1)))), (8, .int 2), (7, .int 1), (6, .int (1024 + (96 * ((S_X9_lend u g (-1) 0).1)))), (5, .int ((S_X9_lend u g (-1) 0).1)), (0, .ref (ad 22)), (1, .int a), (2, .int b), (3, .long c)]) C dX9_ask_237 (by decide) rfl ?_
                have hx1 : JW κ 0 0 (WD ε ad v f u (L_X9_ask u g a b c 64)) 277 [(11, .int (nI 64)), (10, .int (Q_X9_ask_2 u g a b c)), (9, .int (1792 + (64 * ((S_X9_lend u g (-1) 0).1)))), (8, .int 2), (7, .int 1), (6, .int (1024 + (96 * ((S_X9_lend u g (-1) 0).1)))), (5, .int ((S_X9_lend u g (-1) 0).1)), (0, .ref (ad 22)), (1, .int a), (2, .int b), (3, .long c)] [] := by
                  refine j_aload_n (i := 0) C dX9_ask_277 rfl 7 rfl ?_
                  refine j_iconst (x := 0) C dX9_ask_278 (by decide) ?_
                  refine j_iload (i := 5) C dX9_ask_279 6 rfl ?_
                  refine c_V (As := [.int 0, .int ((S_X9_lend u g (-1) 0).1)]) (rest := []) (st1 := []) (ω1 := (WD ε ad v f u (Q_X9_ask_9 u g a b c))) C (c_X9_offer ε ad v f u (L_X9_ask u g a b c 64) ((S_X9_lend u g (-1) 0).1) 0  (by first | assumption | omega | decide) (by rw [lk1_same _ _ _ _ _ _ 40 (by decide)]; unfold Q_X9_ask_8 Q_X9_ask_7 Q_X9_ask_6 Q_X9_ask_5 Q_X9_ask_4 Q_X9_ask_3; rw [put_same _ _ _ _ _ 40 (by decide), put_same _ _ _ _ _ 40 (by decide), de_same _ _ _ _ _ _ _ 40 (by decide), de_same _ _ _ _ _ _ _ 40 (by decide), de_same _ _ _ _ _ _ _ 40 (by decide), de_same _ _ _ _ _ _ _ 40 (by decide), ld_same (fo_ex (k := 1) (by decide) (by have h9 := c_3; unfold Q_X9_ask_1 at h9; rw [if_neg c_4] at h9; exact h9)) (by decide) (by decide)]; exact (hM.1 0 (by decide)).2.2.2.1)) mv_X9_offer lm_X9_190 dX9_ask_281 22 wl_22 rfl rfl rfl (by decide) (Nat.le_of_ble_eq_true rfl) rfl ?_
                  refine j_iload (i := 5) C dX9_ask_284 6 rfl ?_
                  have hs : S_X9_ask u g a b c = (((S_X9_lend u g (-1) 0).1), (Q_X9_ask_9 u g a b c)) := by unfold S_X9_ask; rw [if_neg c_1, if_neg c_2, if_pos c_3, if_neg c_4, if_pos c_5]
                  exact j_iret C hQ rfl dX9_ask_286 (dt_ifM hs)
                have lp1 : ∀ d1 i1 : Nat, i1 + d1 = 64 → JW κ 0 0 (WD ε ad v f u (L_X9_ask u g a b c i1)) 239 [(11, .int (nI i1)), (10, .int (Q_X9_ask_2 u g a b c)), (9, .int (1792 + (64 * ((S_X9_lend u g (-1) 0).1)))), (8, .int 2), (7, .int 1), (6, .int (1024 + (96 * ((S_X9_lend u g (-1) 0).1)))), (5, .int ((S_X9_lend u g (-1) 0).1)), (0, .ref (ad 22)), (1, .int a), (2, .int b), (3, .long c)] [] := by
                  intro d1
                  induction d1 with
                  | zero =>
                    intro i1 hi
                    have e9 : i1 = 64 := by omega
                    rw [e9]
                    have lf1 : 64 ≤ (nI 64) := Int32.le_refl _
                    refine j_iload (i := 11) C dX9_ask_239 0 rfl ?_
                    refine j_bipush (x := 64) C dX9_ask_241 (by decide) ?_
                    refine j_icmp_ge (tgt := 277) C dX9_ask_243 (by decide) (fun _ => ?_) (fun c9 => absurd lf1 c9)
                    exact hx1
                  | succ d1 ih1 =>
                    intro i1 hi
                    have hlt1 : i1 < 64 := by omega
                    have lf1 : ¬ 64 ≤ (nI i1) := nI_ge (b := 64) hlt1 (by decide)
                    refine j_iload (i := 11) C dX9_ask_239 0 rfl ?_
                    refine j_bipush (x := 64) C dX9_ask_241 (by decide) ?_
                    refine j_icmp_ge (tgt := 277) C dX9_ask_243 (by decide) (fun c9 => absurd c9 lf1) (fun _ => ?_)
                    refine j_iload_n (i := 1) C dX9_ask_246 rfl 8 rfl ?_
                    refine j_iconst (x := 1) C dX9_ask_247 (by decide) ?_
                    refine j_icmp_ne (tgt := 277) C dX9_ask_248 (by decide) (fun c9 => absurd c_5 c9) (fun _ => ?_)
                    refine j_aload_n (i := 0) C dX9_ask_251 rfl 7 rfl ?_
                    refine g_22_memory C dX9_ask_252 lf_X9_1 ?_
                    refine j_iload (i := 6) C dX9_ask_255 5 rfl ?_
                    refine j_bipush (x := 16) C dX9_ask_257 (by decide) ?_
                    refine j_iadd C dX9_ask_259 ?_
                    refine j_iload (i := 11) C dX9_ask_260 0 rfl ?_
                    refine j_iadd C dX9_ask_262 ?_
                    refine j_lload_n (i := 3) C dX9_ask_263 rfl 10 rfl ?_
                    refine j_iload (i := 11) C dX9_ask_264 0 rfl ?_
                    refine c_S (As := [.long c, .int (nI i1)]) (rest := [.int (((1024 + (96 * ((S_X9_lend u g (-1) 0).1))) + 16) + (nI i1)), .ref (ad 23)]) (st1 := [.int (S_X9_frameByte u (L_X9_ask u g a b c i1) c (nI i1)), .int (((1024 + (96 * ((S_X9_lend u g (-1) 0).1))) + 16) + (nI i1)), .ref (ad 23)]) C (c_X9_frameByte ε ad v f u (L_X9_ask u g a b c i1) c (nI i1)  ) mt_X9_frameByte lm_X9_173 dX9_ask_266 rfl rfl (by decide) (Nat.le_of_ble_eq_true rfl) rfl ?_
                    refine j_i2b C dX9_ask_269 ?_
                    refine as_23 (F2 := ((L_X9_ask u g a b c i1) 23)) (F := (upd ((L_X9_ask u g a b c i1) 23) ((((1024 + (96 * ((S_X9_lend u g (-1) 0).1))) + 16) + (nI i1))).toNatClampNeg (vp_nar .byte (((S_X9_frameByte u (L_X9_ask u g a b c i1) c (nI i1)) : Int32).toInt8.toInt32)))) C dX9_ask_270 (by obtain ⟨d9, h91, h92⟩ := ld_J (u := u) (b := -1) (fo_ex (k := 1) (by decide) (by have h9 := c_3; unfold Q_X9_ask_1 at h9; rw [if_neg c_4] at h9; exact h9)); exact ((ma_l (n := 96) 1024 96 h92 (by omega)).sub (M := 64) 16 (by omega)).at hlt1) rfl rfl ?_
                    refine j_iinc (y := (nI (i1 + 1))) (lv' := [(11, .int (nI (i1 + 1))), (10, .int (Q_X9_ask_2 u g a b c)), (9, .int (1792 + (64 * ((S_X9_lend u g (-1) 0).1)))), (8, .int 2), (7, .int 1), (6, .int (1024 + (96 * ((S_X9_lend u g (-1) 0).1)))), (5, .int ((S_X9_lend u g (-1) 0).1)), (0, .ref (ad 22)), (1, .int a), (2, .int b), (3, .long c)]) C dX9_ask_271 0 rfl (nI_1 _) (by decide) rfl ?_
                    refine j_goto (tgt := 239) C dX9_ask_274 (by decide) ?_
                    refine j_lv (lv' := [(11, .int (nI (i1 + 1))), (10, .int (Q_X9_ask_2 u g a b c)), (9, .int (1792 + (64 * ((S_X9_lend u g (-1) 0).1)))), (8, .int 2), (7, .int 1), (6, .int (1024 + (96 * ((S_X9_lend u g (-1) 0).1)))), (5, .int ((S_X9_lend u g (-1) 0).1)), (0, .ref (ad 22)), (1, .int a), (2, .int b), (3, .long c)]) [0, 1, 2, 3, 4, 5, 6, 7, 8, 9, 10] rfl ?_
                    have e8 := ih1 (i1 + 1) (by omega)
                    rw [L_X9_ask] at e8
                    try dsimp only at e8
                    exact e8
                have e7 := lp1 64 0 (by omega)
                rw [L_X9_ask] at e7
                try dsimp only at e7
                exact e7
              · refine j_iconst (x := 0) C dX9_ask_236 (by decide) ?_
                refine j_istore (i := 11) (lv' := [(11, .int 0), (10, .int (Q_X9_ask_2 u g a b c)), (9, .int (1792 + (64 * ((S_X9_lend u g (-1) 0).1)))), (8, .int 2), (7, .int 1), (6, .int (1024 + (96 * ((S_X9_lend u g (-1) 0).1)))), (5, .int ((S_X9_lend u g (-1) 0).1)), (0, .ref (ad 22)), (1, .int a), (2, .int b), (3, .long c)]) C dX9_ask_237 (by decide) rfl ?_
                refine j_iload (i := 11) C dX9_ask_239 0 rfl ?_
                refine j_bipush (x := 64) C dX9_ask_241 (by decide) ?_
                refine j_icmp_ge (tgt := 277) C dX9_ask_243 (by decide) (fun c9 => absurd c9 (by decide)) (fun _ => ?_)
                refine j_iload_n (i := 1) C dX9_ask_246 rfl 8 rfl ?_
                refine j_iconst (x := 1) C dX9_ask_247 (by decide) ?_
                refine j_icmp_ne (tgt := 277) C dX9_ask_248 (by decide) (fun _ => ?_) (fun c9 => absurd c9 c_5)
                refine j_aload_n (i := 0) C dX9_ask_277 rfl 7 rfl ?_
                refine j_iconst (x := 0) C dX9_ask_278 (by decide) ?_
                refine j_iload (i := 5) C dX9_ask_279 6 rfl ?_
                refine c_V (As := [.int 0, .int ((S_X9_lend u g (-1) 0).1)]) (rest := []) (st1 := []) (ω1 := (WD ε ad v f u (Q_X9_ask_10 u g a b c))) C (c_X9_offer ε ad v f u (Q_X9_ask_8 u g a b c) ((S_X9_lend u g (-1) 0).1) 0  (by first | assumption | omega | decide) (by unfold Q_X9_ask_8 Q_X9_ask_7 Q_X9_ask_6 Q_X9_ask_5 Q_X9_ask_4 Q_X9_ask_3; rw [put_same _ _ _ _ _ 40 (by decide), put_same _ _ _ _ _ 40 (by decide), de_same _ _ _ _ _ _ _ 40 (by decide), de_same _ _ _ _ _ _ _ 40 (by decide), de_same _ _ _ _ _ _ _ 40 (by decide), de_same _ _ _ _ _ _ _ 40 (by decide), ld_same (fo_ex (k := 1) (by decide) (by have h9 := c_3; unfold Q_X9_ask_1 at h9; rw [if_neg c_4] at h9; exact h9)) (by decide) (by decide)]; exact (hM.1 0 (by decide)).2.2.2.1)) mv_X9_offer lm_X9_190 dX9_ask_281 22 wl_22 rfl rfl rfl (by decide) (Nat.le_of_ble_eq_true rfl) rfl ?_
                refine j_iload (i := 5) C dX9_ask_284 6 rfl ?_
                have hs : S_X9_ask u g a b c = (((S_X9_lend u g (-1) 0).1), (Q_X9_ask_10 u g a b c)) := by unfold S_X9_ask; rw [if_neg c_1, if_neg c_2, if_pos c_3, if_neg c_4, if_neg c_5]
                exact j_iret C hQ rfl dX9_ask_286 (dt_ifM hs)
            refine j_iload_n (i := 1) C dX9_ask_109 rfl 6 rfl ?_
            refine j_if_ne (tgt := 117) C dX9_ask_110 (by decide) (fun c_6 => ?_) (fun c_6 => ?_)
            · refine j_iconst (x := 1) C dX9_ask_117 (by decide) ?_
              have e6 : (Q_X9_ask_2 u g a b c) = 1 := by unfold Q_X9_ask_2; rw [if_neg c_6]
              rw [e6] at jn2
              exact jn2
            · refine j_iconst (x := 3) C dX9_ask_113 (by decide) ?_
              refine j_goto (tgt := 118) C dX9_ask_114 (by decide) ?_
              have e6 : (Q_X9_ask_2 u g a b c) = 3 := by unfold Q_X9_ask_2; rw [if_pos c_6]
              rw [e6] at jn2
              exact jn2
          · refine j_aload_n (i := 0) C dX9_ask_88 rfl 5 rfl ?_
            refine j_iconst (x := 0) C dX9_ask_89 (by decide) ?_
            refine j_iload (i := 5) C dX9_ask_90 4 rfl ?_
            refine c_V (As := [.int 0, .int ((S_X9_lend u g (-1) 0).1)]) (rest := []) (st1 := [.int (Q_X9_ask_11 u g a b c)]) (ω1 := (WD ε ad v f u (Q_X9_ask_12 u g a b c))) C (c_X9_lend ε ad v f u ((S_X9_lend u g (-1) 0).2) ((S_X9_lend u g (-1) 0).1) 0  (by first | assumption | omega | decide) (fo_ex2 (k := 3) (by decide) (by have h9 := c_3; unfold Q_X9_ask_1 at h9; rw [if_pos c_4] at h9; exact h9))) mv_X9_lend lm_X9_183 dX9_ask_92 22 wl_22 rfl rfl rfl (by decide) (Nat.le_of_ble_eq_true rfl) rfl ?_
            refine j_istore (i := 7) (lv' := [(7, .int (Q_X9_ask_11 u g a b c)), (9, .int (1792 + (64 * ((S_X9_lend u g (-1) 0).1)))), (8, .int 2), (6, .int (1024 + (96 * ((S_X9_lend u g (-1) 0).1)))), (5, .int ((S_X9_lend u g (-1) 0).1)), (0, .ref (ad 22)), (1, .int a), (2, .int b), (3, .long c)]) C dX9_ask_95 (by decide) rfl ?_
            refine j_aload_n (i := 0) C dX9_ask_97 rfl 5 rfl ?_
            refine j_iconst (x := 0) C dX9_ask_98 (by decide) ?_
            refine j_iload (i := 5) C dX9_ask_99 4 rfl ?_
            refine c_V (As := [.int 0, .int ((S_X9_lend u g (-1) 0).1)]) (rest := []) (st1 := [.int (Q_X9_ask_13 u g a b c)]) (ω1 := (WD ε ad v f u (Q_X9_ask_14 u g a b c))) C (c_X9_lend ε ad v f u (Q_X9_ask_12 u g a b c) ((S_X9_lend u g (-1) 0).1) 0  (by first | assumption | omega | decide) (by unfold Q_X9_ask_12; exact (fo_ex3 (k := 3) (by decide) (by have h9 := c_3; unfold Q_X9_ask_1 at h9; rw [if_pos c_4] at h9; exact h9)))) mv_X9_lend lm_X9_183 dX9_ask_101 22 wl_22 rfl rfl rfl (by decide) (Nat.le_of_ble_eq_true rfl) rfl ?_
            refine j_istore (i := 8) (lv' := [(8, .int (Q_X9_ask_13 u g a b c)), (7, .int (Q_X9_ask_11 u g a b c)), (9, .int (1792 + (64 * ((S_X9_lend u g (-1) 0).1)))), (6, .int (1024 + (96 * ((S_X9_lend u g (-1) 0).1)))), (5, .int ((S_X9_lend u g (-1) 0).1)), (0, .ref (ad 22)), (1, .int a), (2, .int b), (3, .long c)]) C dX9_ask_104 (by decide) rfl ?_
            refine j_iconst (x := 0) C dX9_ask_106 (by decide) ?_
            refine j_istore (i := 9) (lv' := [(9, .int 0), (8, .int (Q_X9_ask_13 u g a b c)), (7, .int (Q_X9_ask_11 u g a b c)), (6, .int (1024 + (96 * ((S_X9_lend u g (-1) 0).1)))), (5, .int ((S_X9_lend u g (-1) 0).1)), (0, .ref (ad 22)), (1, .int a), (2, .int b), (3, .long c)]) C dX9_ask_107 (by decide) rfl ?_
            have jn3 : JW κ 0 0 (WD ε ad v f u (Q_X9_ask_14 u g a b c)) 118 [(9, .int 0), (8, .int (Q_X9_ask_13 u g a b c)), (7, .int (Q_X9_ask_11 u g a b c)), (6, .int (1024 + (96 * ((S_X9_lend u g (-1) 0).1)))), (5, .int ((S_X9_lend u g (-1) 0).1)), (0, .ref (ad 22)), (1, .int a), (2, .int b), (3, .long c)] [.int (Q_X9_ask_2 u g a b c)] := by
              refine j_istore (i := 10) (lv' := [(10, .int (Q_X9_ask_2 u g a b c)), (9, .int 0), (8, .int (Q_X9_ask_13 u g a b c)), (7, .int (Q_X9_ask_11 u g a b c)), (6, .int (1024 + (96 * ((S_X9_lend u g (-1) 0).1)))), (5, .int ((S_X9_lend u g (-1) 0).1)), (0, .ref (ad 22)), (1, .int a), (2, .int b), (3, .long c)]) C dX9_ask_118 (by decide) rfl ?_
              refine j_aload_n (i := 0) C dX9_ask_120 rfl 6 rfl ?_
              refine j_aload_n (i := 0) C dX9_ask_121 rfl 6 rfl ?_
              refine g_22_tables (x := (u 1)) C dX9_ask_122 lf_X9_79 rfl ?_
              refine j_if_eq (tgt := 133) C dX9_ask_125 (by decide) (fun _ => ?_) (fun c9 => absurd c_4 c9)
              refine j_bipush (x := 16) C dX9_ask_133 (by decide) ?_
              refine j_iload (i := 5) C dX9_ask_135 5 rfl ?_
              refine j_imul C dX9_ask_137 ?_
              refine j_iload (i := 6) C dX9_ask_138 4 rfl ?_
              refine j_bipush (x := 16) C dX9_ask_140 (by decide) ?_
              refine j_iconst (x := 1) C dX9_ask_142 (by decide) ?_
              refine j_iload (i := 7) C dX9_ask_143 3 rfl ?_
              refine c_V (As := [.int (16 * ((S_X9_lend u g (-1) 0).1)), .int (1024 + (96 * ((S_X9_lend u g (-1) 0).1))), .int 16, .int 1, .int (Q_X9_ask_11 u g a b c)]) (rest := []) (st1 := []) (ω1 := (WD ε ad v f u (Q_X9_ask_15 u g a b c))) C (c_X9_describe ε ad v f u (Q_X9_ask_14 u g a b c) (16 * ((S_X9_lend u g (-1) 0).1)) (1024 + (96 * ((S_X9_lend u g (-1) 0).1))) 16 1 (Q_X9_ask_11 u g a b c)  (by obtain ⟨d9, h91, h92⟩ := ld_J (u := u) (b := -1) (fo_ex (k := 3) (by decide) (by have h9 := c_3; unfold Q_X9_ask_1 at h9; rw [if_pos c_4] at h9; exact h9)); exact ma_m 16 h92 (by omega))) mv_X9_describe lm_X9_186 dX9_ask_145 22 wl_22 rfl rfl rfl (by decide) (Nat.le_of_ble_eq_true rfl) rfl ?_
              refine j_aload_n (i := 0) C dX9_ask_148 rfl 6 rfl ?_
              refine j_iload (i := 9) C dX9_ask_149 1 rfl ?_
              refine j_bipush (x := 16) C dX9_ask_151 (by decide) ?_
              refine j_iload (i := 7) C dX9_ask_153 3 rfl ?_
              refine j_imul C dX9_ask_155 ?_
              refine j_iadd C dX9_ask_156 ?_
              refine j_iload (i := 6) C dX9_ask_157 4 rfl ?_
              refine j_bipush (x := 16) C dX9_ask_159 (by decide) ?_
              refine j_iadd C dX9_ask_161 ?_
              refine j_bipush (x := 64) C dX9_ask_162 (by decide) ?_
              refine j_iload (i := 10) C dX9_ask_164 0 rfl ?_
              refine j_iload (i := 8) C dX9_ask_166 2 rfl ?_
              refine c_V (As := [.int (0 + (16 * (Q_X9_ask_11 u g a b c))), .int ((1024 + (96 * ((S_X9_lend u g (-1) 0).1))) + 16), .int 64, .int (Q_X9_ask_2 u g a b c), .int (Q_X9_ask_13 u g a b c)]) (rest := []) (st1 := []) (ω1 := (WD ε ad v f u (Q_X9_ask_16 u g a b c))) C (c_X9_describe ε ad v f u (Q_X9_ask_15 u g a b c) (0 + (16 * (Q_X9_ask_11 u g a b c))) ((1024 + (96 * ((S_X9_lend u g (-1) 0).1))) + 16) 64 (Q_X9_ask_2 u g a b c) (Q_X9_ask_13 u g a b c)  (by unfold Q_X9_ask_11; obtain ⟨d9, h91, h92⟩ := ld_J (u := u) (b := (S_X9_lend u g (-1) 0).1) (fo_ex2 (k := 3) (by decide) (by have h9 := c_3; unfold Q_X9_ask_1 at h9; rw [if_pos c_4] at h9; exact h9)); exact ma_l 0 16 h92 (by omega))) mv_X9_describe lm_X9_186 dX9_ask_168 22 wl_22 rfl rfl rfl (by decide) (Nat.le_of_ble_eq_true rfl) rfl ?_
              refine j_aload_n (i := 0) C dX9_ask_171 rfl 6 rfl ?_
              refine j_iload (i := 9) C dX9_ask_172 1 rfl ?_
              refine j_bipush (x := 16) C dX9_ask_174 (by decide) ?_
              refine j_iload (i := 8) C dX9_ask_176 2 rfl ?_
              refine j_imul C dX9_ask_178 ?_
              refine j_iadd C dX9_ask_179 ?_
              refine j_iload (i := 6) C dX9_ask_180 4 rfl ?_
              refine j_bipush (x := 80) C dX9_ask_182 (by decide) ?_
              refine j_iadd C dX9_ask_184 ?_
              refine j_iconst (x := 1) C dX9_ask_185 (by decide) ?_
              refine j_iconst (x := 2) C dX9_ask_186 (by decide) ?_
              refine j_iconst (x := 0) C dX9_ask_187 (by decide) ?_
              refine c_V (As := [.int (0 + (16 * (Q_X9_ask_13 u g a b c))), .int ((1024 + (96 * ((S_X9_lend u g (-1) 0).1))) + 80), .int 1, .int 2, .int 0]) (rest := []) (st1 := []) (ω1 := (WD ε ad v f u (Q_X9_ask_17 u g a b c))) C (c_X9_describe ε ad v f u (Q_X9_ask_16 u g a b c) (0 + (16 * (Q_X9_ask_13 u g a b c))) ((1024 + (96 * ((S_X9_lend u g (-1) 0).1))) + 80) 1 2 0  (by unfold Q_X9_ask_13 Q_X9_ask_12; obtain ⟨d9, h91, h92⟩ := ld_J (u := u) (b := (S_X9_lend u g (-1) 0).1) (fo_ex3 (k := 3) (by decide) (by have h9 := c_3; unfold Q_X9_ask_1 at h9; rw [if_pos c_4] at h9; exact h9)); exact ma_l 0 16 h92 (by omega))) mv_X9_describe lm_X9_186 dX9_ask_188 22 wl_22 rfl rfl rfl (by decide) (Nat.le_of_ble_eq_true rfl) rfl ?_
              refine j_aload_n (i := 0) C dX9_ask_191 rfl 6 rfl ?_
              refine g_22_tables (x := (u 1)) C dX9_ask_192 lf_X9_79 rfl ?_
              refine j_if_eq (tgt := 213) C dX9_ask_195 (by decide) (fun _ => ?_) (fun c9 => absurd c_4 c9)
              refine j_aload_n (i := 0) C dX9_ask_213 rfl 6 rfl ?_
              refine j_iload (i := 6) C dX9_ask_214 4 rfl ?_
              refine j_bipush (x := 8) C dX9_ask_216 (by decide) ?_
              refine j_iload_n (i := 1) C dX9_ask_218 rfl 7 rfl ?_
              refine j_i2l C dX9_ask_219 ?_
              refine c_V (As := [.int (1024 + (96 * ((S_X9_lend u g (-1) 0).1))), .int 8, .long ((a : Int32).toInt64)]) (rest := []) (st1 := []) (ω1 := (WD ε ad v f u (Q_X9_ask_18 u g a b c))) C (c_X9_put ε ad v f u (Q_X9_ask_17 u g a b c) (1024 + (96 * ((S_X9_lend u g (-1) 0).1))) ((a : Int32).toInt64) 8  (by first | assumption | omega | decide) (by obtain ⟨d9, h91, h92⟩ := ld_J (u := u) (b := -1) (fo_ex (k := 3) (by decide) (by have h9 := c_3; unfold Q_X9_ask_1 at h9; rw [if_pos c_4] at h9; exact h9)); exact ma_l 1024 96 h92 (by omega))) mv_X9_put lm_X9_127 dX9_ask_220 22 wl_22 rfl rfl rfl (by decide) (Nat.le_of_ble_eq_true rfl) rfl ?_
              refine j_aload_n (i := 0) C dX9_ask_223 rfl 6 rfl ?_
              refine j_iload (i := 6) C dX9_ask_224 4 rfl ?_
              refine j_bipush (x := 8) C dX9_ask_226 (by decide) ?_
              refine j_iadd C dX9_ask_228 ?_
              refine j_bipush (x := 8) C dX9_ask_229 (by decide) ?_
              refine j_iload_n (i := 2) C dX9_ask_231 rfl 8 rfl ?_
              refine j_i2l C dX9_ask_232 ?_
              refine c_V (As := [.int ((1024 + (96 * ((S_X9_lend u g (-1) 0).1))) + 8), .int 8, .long ((b : Int32).toInt64)]) (rest := []) (st1 := []) (ω1 := (WD ε ad v f u (Q_X9_ask_19 u g a b c))) C (c_X9_put ε ad v f u (Q_X9_ask_18 u g a b c) ((1024 + (96 * ((S_X9_lend u g (-1) 0).1))) + 8) ((b : Int32).toInt64) 8  (by first | assumption | omega | decide) (by obtain ⟨d9, h91, h92⟩ := ld_J (u := u) (b := -1) (fo_ex (k := 3) (by decide) (by have h9 := c_3; unfold Q_X9_ask_1 at h9; rw [if_pos c_4] at h9; exact h9)); exact (ma_l (n := 96) 1024 96 h92 (by omega)).sub 8 (by omega))) mv_X9_put lm_X9_127 dX9_ask_233 22 wl_22 rfl rfl rfl (by decide) (Nat.le_of_ble_eq_true rfl) rfl ?_
              by_cases c_7 : a = 1
              · refine j_iconst (x := 0) C dX9_ask_236 (by decide) ?_
                refine j_istore (i := 11) (lv' := [(11, .int 0), (10, .int (Q_X9_ask_2 u g a b c)), (9, .int 0), (8, .int (Q_X9_ask_13 u g a b c)), (7, .int (Q_X9_ask_11 u g a b c)), (6, .int (1024 + (96 * ((S_X9_lend u g (-1) 0).1)))), (5, .int ((S_X9_lend u g (-1) 0).1)), (0, .ref (ad 22)), (1, .int a), (2, .int b), (3, .long c)]) C dX9_ask_237 (by decide) rfl ?_
                have hx2 : JW κ 0 0 (WD ε ad v f u (L_X9_ask2 u g a b c 64)) 277 [(11, .int (nI 64)), (10, .int (Q_X9_ask_2 u g a b c)), (9, .int 0), (8, .int (Q_X9_ask_13 u g a b c)), (7, .int (Q_X9_ask_11 u g a b c)), (6, .int (1024 + (96 * ((S_X9_lend u g (-1) 0).1)))), (5, .int ((S_X9_lend u g (-1) 0).1)), (0, .ref (ad 22)), (1, .int a), (2, .int b), (3, .long c)] [] := by
                  refine j_aload_n (i := 0) C dX9_ask_277 rfl 7 rfl ?_
                  refine j_iconst (x := 0) C dX9_ask_278 (by decide) ?_
                  refine j_iload (i := 5) C dX9_ask_279 6 rfl ?_
                  refine c_V (As := [.int 0, .int ((S_X9_lend u g (-1) 0).1)]) (rest := []) (st1 := []) (ω1 := (WD ε ad v f u (Q_X9_ask_20 u g a b c))) C (c_X9_offer ε ad v f u (L_X9_ask2 u g a b c 64) ((S_X9_lend u g (-1) 0).1) 0  (by first | assumption | omega | decide) (by rw [lk2_same _ _ _ _ _ _ 40 (by decide)]; unfold Q_X9_ask_19 Q_X9_ask_18 Q_X9_ask_17 Q_X9_ask_16 Q_X9_ask_15 Q_X9_ask_14 Q_X9_ask_12; rw [put_same _ _ _ _ _ 40 (by decide), put_same _ _ _ _ _ 40 (by decide), de_same _ _ _ _ _ _ _ 40 (by decide), de_same _ _ _ _ _ _ _ 40 (by decide), de_same _ _ _ _ _ _ _ 40 (by decide), ld_same (fo_ex3 (k := 3) (by decide) (by have h9 := c_3; unfold Q_X9_ask_1 at h9; rw [if_pos c_4] at h9; exact h9)) (by decide) (by decide), ld_same (fo_ex2 (k := 3) (by decide) (by have h9 := c_3; unfold Q_X9_ask_1 at h9; rw [if_pos c_4] at h9; exact h9)) (by decide) (by decide), ld_same (fo_ex (k := 3) (by decide) (by have h9 := c_3; unfold Q_X9_ask_1 at h9; rw [if_pos c_4] at h9; exact h9)) (by decide) (by decide)]; exact (hM.1 0 (by decide)).2.2.2.1)) mv_X9_offer lm_X9_190 dX9_ask_281 22 wl_22 rfl rfl rfl (by decide) (Nat.le_of_ble_eq_true rfl) rfl ?_
                  refine j_iload (i := 5) C dX9_ask_284 6 rfl ?_
                  have hs : S_X9_ask u g a b c = (((S_X9_lend u g (-1) 0).1), (Q_X9_ask_20 u g a b c)) := by unfold S_X9_ask; rw [if_neg c_1, if_neg c_2, if_pos c_3, if_pos c_4, if_pos c_7]
                  exact j_iret C hQ rfl dX9_ask_286 (dt_ifM hs)
                have lp2 : ∀ d2 i2 : Nat, i2 + d2 = 64 → JW κ 0 0 (WD ε ad v f u (L_X9_ask2 u g a b c i2)) 239 [(11, .int (nI i2)), (10, .int (Q_X9_ask_2 u g a b c)), (9, .int 0), (8, .int (Q_X9_ask_13 u g a b c)), (7, .int (Q_X9_ask_11 u g a b c)), (6, .int (1024 + (96 * ((S_X9_lend u g (-1) 0).1)))), (5, .int ((S_X9_lend u g (-1) 0).1)), (0, .ref (ad 22)), (1, .int a), (2, .int b), (3, .long c)] [] := by
                  intro d2
                  induction d2 with
                  | zero =>
                    intro i2 hi
                    have e9 : i2 = 64 := by omega
                    rw [e9]
                    have lf2 : 64 ≤ (nI 64) := Int32.le_refl _
                    refine j_iload (i := 11) C dX9_ask_239 0 rfl ?_
                    refine j_bipush (x := 64) C dX9_ask_241 (by decide) ?_
                    refine j_icmp_ge (tgt := 277) C dX9_ask_243 (by decide) (fun _ => ?_) (fun c9 => absurd lf2 c9)
                    exact hx2
                  | succ d2 ih2 =>
                    intro i2 hi
                    have hlt2 : i2 < 64 := by omega
                    have lf2 : ¬ 64 ≤ (nI i2) := nI_ge (b := 64) hlt2 (by decide)
                    refine j_iload (i := 11) C dX9_ask_239 0 rfl ?_
                    refine j_bipush (x := 64) C dX9_ask_241 (by decide) ?_
                    refine j_icmp_ge (tgt := 277) C dX9_ask_243 (by decide) (fun c9 => absurd c9 lf2) (fun _ => ?_)
                    refine j_iload_n (i := 1) C dX9_ask_246 rfl 8 rfl ?_
                    refine j_iconst (x := 1) C dX9_ask_247 (by decide) ?_
                    refine j_icmp_ne (tgt := 277) C dX9_ask_248 (by decide) (fun c9 => absurd c_7 c9) (fun _ => ?_)
                    refine j_aload_n (i := 0) C dX9_ask_251 rfl 7 rfl ?_
                    refine g_22_memory C dX9_ask_252 lf_X9_1 ?_
                    refine j_iload (i := 6) C dX9_ask_255 5 rfl ?_
                    refine j_bipush (x := 16) C dX9_ask_257 (by decide) ?_
                    refine j_iadd C dX9_ask_259 ?_
                    refine j_iload (i := 11) C dX9_ask_260 0 rfl ?_
                    refine j_iadd C dX9_ask_262 ?_
                    refine j_lload_n (i := 3) C dX9_ask_263 rfl 10 rfl ?_
                    refine j_iload (i := 11) C dX9_ask_264 0 rfl ?_
                    refine c_S (As := [.long c, .int (nI i2)]) (rest := [.int (((1024 + (96 * ((S_X9_lend u g (-1) 0).1))) + 16) + (nI i2)), .ref (ad 23)]) (st1 := [.int (S_X9_frameByte u (L_X9_ask2 u g a b c i2) c (nI i2)), .int (((1024 + (96 * ((S_X9_lend u g (-1) 0).1))) + 16) + (nI i2)), .ref (ad 23)]) C (c_X9_frameByte ε ad v f u (L_X9_ask2 u g a b c i2) c (nI i2)  ) mt_X9_frameByte lm_X9_173 dX9_ask_266 rfl rfl (by decide) (Nat.le_of_ble_eq_true rfl) rfl ?_
                    refine j_i2b C dX9_ask_269 ?_
                    refine as_23 (F2 := ((L_X9_ask2 u g a b c i2) 23)) (F := (upd ((L_X9_ask2 u g a b c i2) 23) ((((1024 + (96 * ((S_X9_lend u g (-1) 0).1))) + 16) + (nI i2))).toNatClampNeg (vp_nar .byte (((S_X9_frameByte u (L_X9_ask2 u g a b c i2) c (nI i2)) : Int32).toInt8.toInt32)))) C dX9_ask_270 (by obtain ⟨d9, h91, h92⟩ := ld_J (u := u) (b := -1) (fo_ex (k := 3) (by decide) (by have h9 := c_3; unfold Q_X9_ask_1 at h9; rw [if_pos c_4] at h9; exact h9)); exact ((ma_l (n := 96) 1024 96 h92 (by omega)).sub (M := 64) 16 (by omega)).at hlt2) rfl rfl ?_
                    refine j_iinc (y := (nI (i2 + 1))) (lv' := [(11, .int (nI (i2 + 1))), (10, .int (Q_X9_ask_2 u g a b c)), (9, .int 0), (8, .int (Q_X9_ask_13 u g a b c)), (7, .int (Q_X9_ask_11 u g a b c)), (6, .int (1024 + (96 * ((S_X9_lend u g (-1) 0).1)))), (5, .int ((S_X9_lend u g (-1) 0).1)), (0, .ref (ad 22)), (1, .int a), (2, .int b), (3, .long c)]) C dX9_ask_271 0 rfl (nI_1 _) (by decide) rfl ?_
                    refine j_goto (tgt := 239) C dX9_ask_274 (by decide) ?_
                    refine j_lv (lv' := [(11, .int (nI (i2 + 1))), (10, .int (Q_X9_ask_2 u g a b c)), (9, .int 0), (8, .int (Q_X9_ask_13 u g a b c)), (7, .int (Q_X9_ask_11 u g a b c)), (6, .int (1024 + (96 * ((S_X9_lend u g (-1) 0).1)))), (5, .int ((S_X9_lend u g (-1) 0).1)), (0, .ref (ad 22)), (1, .int a), (2, .int b), (3, .long c)]) [0, 1, 2, 3, 4, 5, 6, 7, 8, 9, 10] rfl ?_
                    have e8 := ih2 (i2 + 1) (by omega)
                    rw [L_X9_ask2] at e8
                    try dsimp only at e8
                    exact e8
                have e7 := lp2 64 0 (by omega)
                rw [L_X9_ask2] at e7
                try dsimp only at e7
                exact e7
              · refine j_iconst (x := 0) C dX9_ask_236 (by decide) ?_
                refine j_istore (i := 11) (lv' := [(11, .int 0), (10, .int (Q_X9_ask_2 u g a b c)), (9, .int 0), (8, .int (Q_X9_ask_13 u g a b c)), (7, .int (Q_X9_ask_11 u g a b c)), (6, .int (1024 + (96 * ((S_X9_lend u g (-1) 0).1)))), (5, .int ((S_X9_lend u g (-1) 0).1)), (0, .ref (ad 22)), (1, .int a), (2, .int b), (3, .long c)]) C dX9_ask_237 (by decide) rfl ?_
                refine j_iload (i := 11) C dX9_ask_239 0 rfl ?_
                refine j_bipush (x := 64) C dX9_ask_241 (by decide) ?_
                refine j_icmp_ge (tgt := 277) C dX9_ask_243 (by decide) (fun c9 => absurd c9 (by decide)) (fun _ => ?_)
                refine j_iload_n (i := 1) C dX9_ask_246 rfl 8 rfl ?_
                refine j_iconst (x := 1) C dX9_ask_247 (by decide) ?_
                refine j_icmp_ne (tgt := 277) C dX9_ask_248 (by decide) (fun _ => ?_) (fun c9 => absurd c9 c_7)
                refine j_aload_n (i := 0) C dX9_ask_277 rfl 7 rfl ?_
                refine j_iconst (x := 0) C dX9_ask_278 (by decide) ?_
                refine j_iload (i := 5) C dX9_ask_279 6 rfl ?_
                refine c_V (As := [.int 0, .int ((S_X9_lend u g (-1) 0).1)]) (rest := []) (st1 := []) (ω1 := (WD ε ad v f u (Q_X9_ask_21 u g a b c))) C (c_X9_offer ε ad v f u (Q_X9_ask_19 u g a b c) ((S_X9_lend u g (-1) 0).1) 0  (by first | assumption | omega | decide) (by unfold Q_X9_ask_19 Q_X9_ask_18 Q_X9_ask_17 Q_X9_ask_16 Q_X9_ask_15 Q_X9_ask_14 Q_X9_ask_12; rw [put_same _ _ _ _ _ 40 (by decide), put_same _ _ _ _ _ 40 (by decide), de_same _ _ _ _ _ _ _ 40 (by decide), de_same _ _ _ _ _ _ _ 40 (by decide), de_same _ _ _ _ _ _ _ 40 (by decide), ld_same (fo_ex3 (k := 3) (by decide) (by have h9 := c_3; unfold Q_X9_ask_1 at h9; rw [if_pos c_4] at h9; exact h9)) (by decide) (by decide), ld_same (fo_ex2 (k := 3) (by decide) (by have h9 := c_3; unfold Q_X9_ask_1 at h9; rw [if_pos c_4] at h9; exact h9)) (by decide) (by decide), ld_same (fo_ex (k := 3) (by decide) (by have h9 := c_3; unfold Q_X9_ask_1 at h9; rw [if_pos c_4] at h9; exact h9)) (by decide) (by decide)]; exact (hM.1 0 (by decide)).2.2.2.1)) mv_X9_offer lm_X9_190 dX9_ask_281 22 wl_22 rfl rfl rfl (by decide) (Nat.le_of_ble_eq_true rfl) rfl ?_
                refine j_iload (i := 5) C dX9_ask_284 6 rfl ?_
                have hs : S_X9_ask u g a b c = (((S_X9_lend u g (-1) 0).1), (Q_X9_ask_21 u g a b c)) := by unfold S_X9_ask; rw [if_neg c_1, if_neg c_2, if_pos c_3, if_pos c_4, if_neg c_7]
                exact j_iret C hQ rfl dX9_ask_286 (dt_ifM hs)
            refine j_iload_n (i := 1) C dX9_ask_109 rfl 6 rfl ?_
            refine j_if_ne (tgt := 117) C dX9_ask_110 (by decide) (fun c_8 => ?_) (fun c_8 => ?_)
            · refine j_iconst (x := 1) C dX9_ask_117 (by decide) ?_
              have e6 : (Q_X9_ask_2 u g a b c) = 1 := by unfold Q_X9_ask_2; rw [if_neg c_8]
              rw [e6] at jn3
              exact jn3
            · refine j_iconst (x := 3) C dX9_ask_113 (by decide) ?_
              refine j_goto (tgt := 118) C dX9_ask_114 (by decide) ?_
              have e6 : (Q_X9_ask_2 u g a b c) = 3 := by unfold Q_X9_ask_2; rw [if_pos c_8]
              rw [e6] at jn3
              exact jn3
        · refine j_iconst (x := (-1)) C dX9_ask_43 (by decide) ?_
          have hs : S_X9_ask u g a b c = ((-1), g) := by unfold S_X9_ask; rw [if_neg c_1, if_neg c_2, if_neg c_3]
          exact j_iret C hQ rfl dX9_ask_44 (dt_ifM hs)
      refine j_aload_n (i := 0) C dX9_ask_28 rfl 0 rfl ?_
      refine g_22_tables (x := (u 1)) C dX9_ask_29 lf_X9_79 rfl ?_
      refine j_if_eq (tgt := 39) C dX9_ask_32 (by decide) (fun c_9 => ?_) (fun c_9 => ?_)
      · refine j_iconst (x := 3) C dX9_ask_39 (by decide) ?_
        have e6 : (Q_X9_ask_1 u g a b c) = 3 := by unfold Q_X9_ask_1; rw [if_pos c_9]
        rw [e6] at jn1
        exact jn1
      · refine j_iconst (x := 1) C dX9_ask_35 (by decide) ?_
        refine j_goto (tgt := 40) C dX9_ask_36 (by decide) ?_
        have e6 : (Q_X9_ask_1 u g a b c) = 1 := by unfold Q_X9_ask_1; rw [if_neg c_9]
        rw [e6] at jn1
        exact jn1
    · refine j_bipush (x := (-4)) C dX9_ask_20 (by decide) ?_
      have hs : S_X9_ask u g a b c = ((-4), g) := by unfold S_X9_ask; rw [if_neg c_1, if_pos c_2]
      exact j_iret C hQ rfl dX9_ask_22 (dt_ifM hs)
  · refine j_bipush (x := (-2)) C dX9_ask_10 (by decide) ?_
    have hs : S_X9_ask u g a b c = ((-2), g) := by unfold S_X9_ask; rw [if_pos c_1]
    exact j_iret C hQ rfl dX9_ask_12 (dt_ifM hs)

def S_X9_read (u : Nat → Int32) (g : Nat → Nat → Int32) (a : Int32) : Int32 × (Nat → Nat → Int32) :=
  (((S_X9_ask u g 0 a 0).1), ((S_X9_ask u g 0 a 0).2))
set_option maxHeartbeats 1000000 in
set_option maxRecDepth 100000 in
theorem c_X9_read (ε : ET) (ad : Nat → Nat) (v : Nat → Int32) (f : Nat → Nat → Int32) (u : Nat → Int32) (g : Nat → Nat → Int32) (a : Int32) (hM : MInv u g) : CT ε yX9_read cX9_read 2 (some .int) 3 81 0 0 [.ref (ad 22), .int a] (WD ε ad v f u g) (DT (some (.int ((S_X9_read u g a).1))) (WD ε ad v f u ((S_X9_read u g a).2))) := by
  refine CT.of (own := RX9) (by decide) rfl (Nat.le_of_ble_eq_true rfl) (fun κ C hQ => ?_)
  refine j_aload_n (i := 0) C dX9_read_0 rfl 0 rfl ?_
  refine j_iconst (x := 0) C dX9_read_1 (by decide) ?_
  refine j_iload_n (i := 1) C dX9_read_2 rfl 1 rfl ?_
  refine j_lconst (x := 0) C dX9_read_3 (by decide) ?_
  refine c_V (As := [.int 0, .int a, .long 0]) (rest := []) (st1 := [.int ((S_X9_ask u g 0 a 0).1)]) C (c_X9_ask ε ad v f u g 0 a 0  hM) mv_X9_ask lm_X9_193 dX9_read_4 22 wl_22 rfl rfl rfl (by decide) (Nat.le_of_ble_eq_true rfl) rfl ?_
  have hs : S_X9_read u g a = (((S_X9_ask u g 0 a 0).1), ((S_X9_ask u g 0 a 0).2)) := by unfold S_X9_read; rfl
  exact j_iret C hQ rfl dX9_read_7 (dt_ifM hs)

def S_X9_write (u : Nat → Int32) (g : Nat → Nat → Int32) (a : Int32) (b : Int64) : Int32 × (Nat → Nat → Int32) :=
  (((S_X9_ask u g 1 a b).1), ((S_X9_ask u g 1 a b).2))
set_option maxHeartbeats 1000000 in
set_option maxRecDepth 100000 in
theorem c_X9_write (ε : ET) (ad : Nat → Nat) (v : Nat → Int32) (f : Nat → Nat → Int32) (u : Nat → Int32) (g : Nat → Nat → Int32) (a : Int32) (b : Int64) (hM : MInv u g) : CT ε yX9_write cX9_write 4 (some .int) 3 81 0 0 [.ref (ad 22), .int a, .long b] (WD ε ad v f u g) (DT (some (.int ((S_X9_write u g a b).1))) (WD ε ad v f u ((S_X9_write u g a b).2))) := by
  refine CT.of (own := RX9) (by decide) rfl (Nat.le_of_ble_eq_true rfl) (fun κ C hQ => ?_)
  refine j_aload_n (i := 0) C dX9_write_0 rfl 0 rfl ?_
  refine j_iconst (x := 1) C dX9_write_1 (by decide) ?_
  refine j_iload_n (i := 1) C dX9_write_2 rfl 1 rfl ?_
  refine j_lload_n (i := 2) C dX9_write_3 rfl 2 rfl ?_
  refine c_V (As := [.int 1, .int a, .long b]) (rest := []) (st1 := [.int ((S_X9_ask u g 1 a b).1)]) C (c_X9_ask ε ad v f u g 1 a b  hM) mv_X9_ask lm_X9_193 dX9_write_4 22 wl_22 rfl rfl rfl (by decide) (Nat.le_of_ble_eq_true rfl) rfl ?_
  have hs : S_X9_write u g a b = (((S_X9_ask u g 1 a b).1), ((S_X9_ask u g 1 a b).2)) := by unfold S_X9_write; rfl
  exact j_iret C hQ rfl dX9_write_7 (dt_ifM hs)

def Q_X9_send_1 (u : Nat → Int32) (g : Nat → Nat → Int32) (a : Int32) (b : Int64) : Int32 := ((S_X9_lend u ((S_X9_lend u g (-1) 2).2) ((S_X9_lend u g (-1) 2).1) 2).1)
def Q_X9_send_2 (u : Nat → Int32) (g : Nat → Nat → Int32) (a : Int32) (b : Int64) : (Nat → Nat → Int32) := ((S_X9_lend u ((S_X9_lend u g (-1) 2).2) ((S_X9_lend u g (-1) 2).1) 2).2)
def Q_X9_send_3 (u : Nat → Int32) (g : Nat → Nat → Int32) (a : Int32) (b : Int64) : (Nat → Nat → Int32) := (S_X9_describe u (Q_X9_send_2 u g a b) (512 + (16 * ((S_X9_lend u g (-1) 2).1))) (2304 + (96 * ((S_X9_lend u g (-1) 2).1))) 12 1 (Q_X9_send_1 u g a b))
def Q_X9_send_4 (u : Nat → Int32) (g : Nat → Nat → Int32) (a : Int32) (b : Int64) : (Nat → Nat → Int32) := (S_X9_describe u (Q_X9_send_3 u g a b) (512 + (16 * (Q_X9_send_1 u g a b))) ((2304 + (96 * ((S_X9_lend u g (-1) 2).1))) + 12) a 0 0)
def L_X9_send (u : Nat → Int32) (g : Nat → Nat → Int32) (a : Int32) (b : Int64) : Nat → (Nat → Nat → Int32)
  | 0 => (Q_X9_send_4 u g a b)
  | i1 + 1 =>
    if 12 ≤ (nI i1) then (va_up (L_X9_send u g a b i1) 23 (upd ((L_X9_send u g a b i1) 23) (((2304 + (96 * ((S_X9_lend u g (-1) 2).1))) + (nI i1))).toNatClampNeg (vp_nar .byte (((S_X9_frameByte u (L_X9_send u g a b i1) b ((nI i1) - 12)) : Int32).toInt8.toInt32))))
    else (va_up (L_X9_send u g a b i1) 23 (upd ((L_X9_send u g a b i1) 23) (((2304 + (96 * ((S_X9_lend u g (-1) 2).1))) + (nI i1))).toNatClampNeg (vp_nar .byte ((0 : Int32).toInt8.toInt32))))
def Q_X9_send_5 (u : Nat → Int32) (g : Nat → Nat → Int32) (a : Int32) (b : Int64) : (Nat → Nat → Int32) := (S_X9_offer u (L_X9_send u g a b (12 + a).toNatClampNeg) ((S_X9_lend u g (-1) 2).1) 2)
def S_X9_send (u : Nat → Int32) (g : Nat → Nat → Int32) (a : Int32) (b : Int64) : Int32 × (Nat → Nat → Int32) :=
  if (S_X9_isIn u g a 1 80) = 0 then ((-2), g)
  else if (u 2) = 0 then ((-4), g)
    else if 2 ≤ (S_X9_freeOnes u g 2) then (((S_X9_lend u g (-1) 2).1), (Q_X9_send_5 u g a b))
      else ((-1), g)
theorem lsn_same (u : Nat → Int32) (g : Nat → Nat → Int32) (a : Int32) (b : Int64) (i j : Nat) (h : j ≠ 23) : (L_X9_send u g a b i) j = (Q_X9_send_4 u g a b) j := by
  induction i with
  | zero => rw [L_X9_send]
  | succ i ih =>
    rw [L_X9_send]
    split
    · show (if j = 23 then _ else _) = _
      rw [if_neg h]
      exact ih
    · show (if j = 23 then _ else _) = _
      rw [if_neg h]
      exact ih
theorem fr12 {a : Int32} {i : Nat} (h : a.toInt ≤ 80) (hi : i < (12 + a).toNatClampNeg) : i < 92 := by
  have h3 : i < (12 + a).toInt.toNat := hi
  rw [Int32.toInt_add, show (12 : Int32).toInt = 12 from rfl] at h3
  have h1 := a.le_toInt
  rw [Int.bmod_eq_of_le (by omega) (by omega)] at h3
  omega
set_option maxHeartbeats 1000000 in
set_option maxRecDepth 100000 in
theorem c_X9_send (ε : ET) (ad : Nat → Nat) (v : Nat → Int32) (f : Nat → Nat → Int32) (u : Nat → Int32) (g : Nat → Nat → Int32) (a : Int32) (b : Int64) (hM : MInv u g) : CT ε yX9_send cX9_send 8 (some .int) 2 50 0 0 [.ref (ad 22), .int a, .long b] (WD ε ad v f u g) (DT (some (.int ((S_X9_send u g a b).1))) (WD ε ad v f u ((S_X9_send u g a b).2))) := by
  refine CT.of (own := RX9) (by decide) rfl (Nat.le_of_ble_eq_true rfl) (fun κ C hQ => ?_)
  refine j_iload_n (i := 1) C dX9_send_0 rfl 1 rfl ?_
  refine j_iconst (x := 1) C dX9_send_1 (by decide) ?_
  refine j_bipush (x := 80) C dX9_send_2 (by decide) ?_
  refine c_S (As := [.int a, .int 1, .int 80]) (rest := []) (st1 := [.int (S_X9_isIn u g a 1 80)]) C (c_X9_isIn ε ad v f u g a 1 80  ) mt_X9_isIn lm_X9_7 dX9_send_4 rfl rfl (by decide) (Nat.le_of_ble_eq_true rfl) rfl ?_
  refine j_if_ne (tgt := 13) C dX9_send_7 (by decide) (fun c_1 => ?_) (fun c_1 => ?_)
  · refine j_aload_n (i := 0) C dX9_send_13 rfl 0 rfl ?_
    refine g_22_started (x := (u 2)) C dX9_send_14 lf_X9_83 rfl ?_
    refine j_if_ne (tgt := 23) C dX9_send_17 (by decide) (fun c_2 => ?_) (fun c_2 => ?_)
    · refine j_aload_n (i := 0) C dX9_send_23 rfl 0 rfl ?_
      refine j_iconst (x := 2) C dX9_send_24 (by decide) ?_
      refine c_V (As := [.int 2]) (rest := []) (st1 := [.int (S_X9_freeOnes u g 2)]) C (c_X9_freeOnes ε ad v f u g 2  (by first | assumption | omega | decide)) mv_X9_freeOnes lm_X9_180 dX9_send_25 22 wl_22 rfl rfl rfl (by decide) (Nat.le_of_ble_eq_true rfl) rfl ?_
      refine j_iconst (x := 2) C dX9_send_28 (by decide) ?_
      refine j_icmp_ge (tgt := 34) C dX9_send_29 (by decide) (fun c_3 => ?_) (fun c_3 => ?_)
      · refine j_aload_n (i := 0) C dX9_send_34 rfl 0 rfl ?_
        refine j_iconst (x := 2) C dX9_send_35 (by decide) ?_
        refine j_iconst (x := (-1)) C dX9_send_36 (by decide) ?_
        refine c_V (As := [.int 2, .int (-1)]) (rest := []) (st1 := [.int ((S_X9_lend u g (-1) 2).1)]) C (c_X9_lend ε ad v f u g (-1) 2  (by first | assumption | omega | decide) (fo_ex (k := 2) (by decide) c_3)) mv_X9_lend lm_X9_183 dX9_send_37 22 wl_22 rfl rfl rfl (by decide) (Nat.le_of_ble_eq_true rfl) rfl ?_
        refine j_istore (i := 4) (lv' := [(4, .int ((S_X9_lend u g (-1) 2).1)), (0, .ref (ad 22)), (1, .int a), (2, .long b)]) C dX9_send_40 (by decide) rfl ?_
        refine j_aload_n (i := 0) C dX9_send_42 rfl 1 rfl ?_
        refine j_iconst (x := 2) C dX9_send_43 (by decide) ?_
        refine j_iload (i := 4) C dX9_send_44 0 rfl ?_
        refine c_V (As := [.int 2, .int ((S_X9_lend u g (-1) 2).1)]) (rest := []) (st1 := [.int (Q_X9_send_1 u g a b)]) (ω1 := (WD ε ad v f u (Q_X9_send_2 u g a b))) C (c_X9_lend ε ad v f u ((S_X9_lend u g (-1) 2).2) ((S_X9_lend u g (-1) 2).1) 2  (by first | assumption | omega | decide) (fo_ex2 (k := 2) (by decide) c_3)) mv_X9_lend lm_X9_183 dX9_send_46 22 wl_22 rfl rfl rfl (by decide) (Nat.le_of_ble_eq_true rfl) rfl ?_
        refine j_istore (i := 5) (lv' := [(5, .int (Q_X9_send_1 u g a b)), (4, .int ((S_X9_lend u g (-1) 2).1)), (0, .ref (ad 22)), (1, .int a), (2, .long b)]) C dX9_send_49 (by decide) rfl ?_
        refine j_sipush (x := 2304) C dX9_send_51 (by decide) ?_
        refine j_bipush (x := 96) C dX9_send_54 (by decide) ?_
        refine j_iload (i := 4) C dX9_send_56 1 rfl ?_
        refine j_imul C dX9_send_58 ?_
        refine j_iadd C dX9_send_59 ?_
        refine j_istore (i := 6) (lv' := [(6, .int (2304 + (96 * ((S_X9_lend u g (-1) 2).1)))), (5, .int (Q_X9_send_1 u g a b)), (4, .int ((S_X9_lend u g (-1) 2).1)), (0, .ref (ad 22)), (1, .int a), (2, .long b)]) C dX9_send_60 (by decide) rfl ?_
        refine j_aload_n (i := 0) C dX9_send_62 rfl 3 rfl ?_
        refine j_sipush (x := 512) C dX9_send_63 (by decide) ?_
        refine j_bipush (x := 16) C dX9_send_66 (by decide) ?_
        refine j_iload (i := 4) C dX9_send_68 2 rfl ?_
        refine j_imul C dX9_send_70 ?_
        refine j_iadd C dX9_send_71 ?_
        refine j_iload (i := 6) C dX9_send_72 0 rfl ?_
        refine j_bipush (x := 12) C dX9_send_74 (by decide) ?_
        refine j_iconst (x := 1) C dX9_send_76 (by decide) ?_
        refine j_iload (i := 5) C dX9_send_77 1 rfl ?_
        refine c_V (As := [.int (512 + (16 * ((S_X9_lend u g (-1) 2).1))), .int (2304 + (96 * ((S_X9_lend u g (-1) 2).1))), .int 12, .int 1, .int (Q_X9_send_1 u g a b)]) (rest := []) (st1 := []) (ω1 := (WD ε ad v f u (Q_X9_send_3 u g a b))) C (c_X9_describe ε ad v f u (Q_X9_send_2 u g a b) (512 + (16 * ((S_X9_lend u g (-1) 2).1))) (2304 + (96 * ((S_X9_lend u g (-1) 2).1))) 12 1 (Q_X9_send_1 u g a b)  (by obtain ⟨d9, h91, h92⟩ := ld_J (u := u) (b := -1) (fo_ex (k := 2) (by decide) c_3); exact ma_l 512 16 h92 (by omega))) mv_X9_describe lm_X9_186 dX9_send_79 22 wl_22 rfl rfl rfl (by decide) (Nat.le_of_ble_eq_true rfl) rfl ?_
        refine j_aload_n (i := 0) C dX9_send_82 rfl 3 rfl ?_
        refine j_sipush (x := 512) C dX9_send_83 (by decide) ?_
        refine j_bipush (x := 16) C dX9_send_86 (by decide) ?_
        refine j_iload (i := 5) C dX9_send_88 1 rfl ?_
        refine j_imul C dX9_send_90 ?_
        refine j_iadd C dX9_send_91 ?_
        refine j_iload (i := 6) C dX9_send_92 0 rfl ?_
        refine j_bipush (x := 12) C dX9_send_94 (by decide) ?_
        refine j_iadd C dX9_send_96 ?_
        refine j_iload_n (i := 1) C dX9_send_97 rfl 4 rfl ?_
        refine j_iconst (x := 0) C dX9_send_98 (by decide) ?_
        refine j_iconst (x := 0) C dX9_send_99 (by decide) ?_
        refine c_V (As := [.int (512 + (16 * (Q_X9_send_1 u g a b))), .int ((2304 + (96 * ((S_X9_lend u g (-1) 2).1))) + 12), .int a, .int 0, .int 0]) (rest := []) (st1 := []) (ω1 := (WD ε ad v f u (Q_X9_send_4 u g a b))) C (c_X9_describe ε ad v f u (Q_X9_send_3 u g a b) (512 + (16 * (Q_X9_send_1 u g a b))) ((2304 + (96 * ((S_X9_lend u g (-1) 2).1))) + 12) a 0 0  (by unfold Q_X9_send_1; obtain ⟨d9, h91, h92⟩ := ld_J (u := u) (b := (S_X9_lend u g (-1) 2).1) (fo_ex2 (k := 2) (by decide) c_3); exact ma_l 512 16 h92 (by omega))) mv_X9_describe lm_X9_186 dX9_send_100 22 wl_22 rfl rfl rfl (by decide) (Nat.le_of_ble_eq_true rfl) rfl ?_
        refine j_iconst (x := 0) C dX9_send_103 (by decide) ?_
        refine j_istore (i := 7) (lv' := [(7, .int 0), (6, .int (2304 + (96 * ((S_X9_lend u g (-1) 2).1)))), (5, .int (Q_X9_send_1 u g a b)), (4, .int ((S_X9_lend u g (-1) 2).1)), (0, .ref (ad 22)), (1, .int a), (2, .long b)]) C dX9_send_104 (by decide) rfl ?_
        have hx1 : JW κ 0 0 (WD ε ad v f u (L_X9_send u g a b (12 + a).toNatClampNeg)) 152 [(7, .int (nI (12 + a).toNatClampNeg)), (6, .int (2304 + (96 * ((S_X9_lend u g (-1) 2).1)))), (5, .int (Q_X9_send_1 u g a b)), (4, .int ((S_X9_lend u g (-1) 2).1)), (0, .ref (ad 22)), (1, .int a), (2, .long b)] [] := by
          refine j_aload_n (i := 0) C dX9_send_152 rfl 4 rfl ?_
          refine j_iconst (x := 2) C dX9_send_153 (by decide) ?_
          refine j_iload (i := 4) C dX9_send_154 3 rfl ?_
          refine c_V (As := [.int 2, .int ((S_X9_lend u g (-1) 2).1)]) (rest := []) (st1 := []) (ω1 := (WD ε ad v f u (Q_X9_send_5 u g a b))) C (c_X9_offer ε ad v f u (L_X9_send u g a b (12 + a).toNatClampNeg) ((S_X9_lend u g (-1) 2).1) 2  (by first | assumption | omega | decide) (by rw [lsn_same _ _ _ _ _ 40 (by decide)]; unfold Q_X9_send_4 Q_X9_send_3 Q_X9_send_2; rw [de_same _ _ _ _ _ _ _ 40 (by decide), de_same _ _ _ _ _ _ _ 40 (by decide), ld_same (fo_ex2 (k := 2) (by decide) c_3) (by decide) (by decide), ld_same (fo_ex (k := 2) (by decide) c_3) (by decide) (by decide)]; exact (hM.1 2 (by decide)).2.2.2.1)) mv_X9_offer lm_X9_190 dX9_send_156 22 wl_22 rfl rfl rfl (by decide) (Nat.le_of_ble_eq_true rfl) rfl ?_
          refine j_iload (i := 4) C dX9_send_159 3 rfl ?_
          have hs : S_X9_send u g a b = (((S_X9_lend u g (-1) 2).1), (Q_X9_send_5 u g a b)) := by unfold S_X9_send; rw [if_neg c_1, if_neg c_2, if_pos c_3]
          exact j_iret C hQ rfl dX9_send_161 (dt_ifM hs)
        have lp1 : ∀ d1 i1 : Nat, i1 + d1 = (12 + a).toNatClampNeg → JW κ 0 0 (WD ε ad v f u (L_X9_send u g a b i1)) 106 [(7, .int (nI i1)), (6, .int (2304 + (96 * ((S_X9_lend u g (-1) 2).1)))), (5, .int (Q_X9_send_1 u g a b)), (4, .int ((S_X9_lend u g (-1) 2).1)), (0, .ref (ad 22)), (1, .int a), (2, .long b)] [] := by
          intro d1
          induction d1 with
          | zero =>
            intro i1 hi
            have e9 : i1 = (12 + a).toNatClampNeg := by omega
            rw [e9]
            have lf1 : (12 + a) ≤ (nI (12 + a).toNatClampNeg) := lp_ge _
            refine j_iload (i := 7) C dX9_send_106 0 rfl ?_
            refine j_bipush (x := 12) C dX9_send_108 (by decide) ?_
            refine j_iload_n (i := 1) C dX9_send_110 rfl 5 rfl ?_
            refine j_iadd C dX9_send_111 ?_
            refine j_icmp_ge (tgt := 152) C dX9_send_112 (by decide) (fun _ => ?_) (fun c9 => absurd lf1 c9)
            exact hx1
          | succ d1 ih1 =>
            intro i1 hi
            have hlt1 : i1 < (12 + a).toNatClampNeg := by omega
            have lf1 : ¬ (12 + a) ≤ (nI i1) := lp_lt hlt1
            refine j_iload (i := 7) C dX9_send_106 0 rfl ?_
            refine j_bipush (x := 12) C dX9_send_108 (by decide) ?_
            refine j_iload_n (i := 1) C dX9_send_110 rfl 5 rfl ?_
            refine j_iadd C dX9_send_111 ?_
            refine j_icmp_ge (tgt := 152) C dX9_send_112 (by decide) (fun c9 => absurd c9 lf1) (fun _ => ?_)
            refine j_aload_n (i := 0) C dX9_send_115 rfl 4 rfl ?_
            refine g_22_memory C dX9_send_116 lf_X9_1 ?_
            refine j_iload (i := 6) C dX9_send_119 1 rfl ?_
            refine j_iload (i := 7) C dX9_send_121 0 rfl ?_
            refine j_iadd C dX9_send_123 ?_
            refine j_iload (i := 7) C dX9_send_124 0 rfl ?_
            refine j_bipush (x := 12) C dX9_send_126 (by decide) ?_
            refine j_icmp_ge (tgt := 135) C dX9_send_128 (by decide) (fun c_4 => ?_) (fun c_4 => ?_)
            · refine j_lload_n (i := 2) C dX9_send_135 rfl 6 rfl ?_
              refine j_iload (i := 7) C dX9_send_136 0 rfl ?_
              refine j_bipush (x := 12) C dX9_send_138 (by decide) ?_
              refine j_isub C dX9_send_140 ?_
              refine c_S (As := [.long b, .int ((nI i1) - 12)]) (rest := [.int ((2304 + (96 * ((S_X9_lend u g (-1) 2).1))) + (nI i1)), .ref (ad 23)]) (st1 := [.int (S_X9_frameByte u (L_X9_send u g a b i1) b ((nI i1) - 12)), .int ((2304 + (96 * ((S_X9_lend u g (-1) 2).1))) + (nI i1)), .ref (ad 23)]) C (c_X9_frameByte ε ad v f u (L_X9_send u g a b i1) b ((nI i1) - 12)  ) mt_X9_frameByte lm_X9_173 dX9_send_141 rfl rfl (by decide) (Nat.le_of_ble_eq_true rfl) rfl ?_
              refine j_i2b C dX9_send_144 ?_
              refine as_23 (F2 := ((L_X9_send u g a b i1) 23)) (F := (upd ((L_X9_send u g a b i1) 23) (((2304 + (96 * ((S_X9_lend u g (-1) 2).1))) + (nI i1))).toNatClampNeg (vp_nar .byte (((S_X9_frameByte u (L_X9_send u g a b i1) b ((nI i1) - 12)) : Int32).toInt8.toInt32)))) C dX9_send_145 (by obtain ⟨d9, h91, h92⟩ := ld_J (u := u) (b := -1) (fo_ex (k := 2) (by decide) c_3); exact (ma_l (n := 92) 2304 96 h92 (by omega)).at (by have h8 := (fr_len c_1).2; exact fr12 h8 hlt1)) rfl rfl ?_
              refine j_iinc (y := (nI (i1 + 1))) (lv' := [(7, .int (nI (i1 + 1))), (6, .int (2304 + (96 * ((S_X9_lend u g (-1) 2).1)))), (5, .int (Q_X9_send_1 u g a b)), (4, .int ((S_X9_lend u g (-1) 2).1)), (0, .ref (ad 22)), (1, .int a), (2, .long b)]) C dX9_send_146 0 rfl (nI_1 _) (by decide) rfl ?_
              refine j_goto (tgt := 106) C dX9_send_149 (by decide) ?_
              refine j_lv (lv' := [(7, .int (nI (i1 + 1))), (6, .int (2304 + (96 * ((S_X9_lend u g (-1) 2).1)))), (5, .int (Q_X9_send_1 u g a b)), (4, .int ((S_X9_lend u g (-1) 2).1)), (0, .ref (ad 22)), (1, .int a), (2, .long b)]) [0, 1, 2, 3, 4, 5, 6] rfl ?_
              have e8 := ih1 (i1 + 1) (by omega)
              rw [show L_X9_send u g a b (i1 + 1) = (va_up (L_X9_send u g a b i1) 23 (upd ((L_X9_send u g a b i1) 23) (((2304 + (96 * ((S_X9_lend u g (-1) 2).1))) + (nI i1))).toNatClampNeg (vp_nar .byte (((S_X9_frameByte u (L_X9_send u g a b i1) b ((nI i1) - 12)) : Int32).toInt8.toInt32)))) from by rw [L_X9_send, if_pos c_4]] at e8
              try dsimp only at e8
              exact e8
            · refine j_iconst (x := 0) C dX9_send_131 (by decide) ?_
              refine j_goto (tgt := 144) C dX9_send_132 (by decide) ?_
              refine j_i2b C dX9_send_144 ?_
              refine as_23 (F2 := ((L_X9_send u g a b i1) 23)) (F := (upd ((L_X9_send u g a b i1) 23) (((2304 + (96 * ((S_X9_lend u g (-1) 2).1))) + (nI i1))).toNatClampNeg (vp_nar .byte ((0 : Int32).toInt8.toInt32)))) C dX9_send_145 (by obtain ⟨d9, h91, h92⟩ := ld_J (u := u) (b := -1) (fo_ex (k := 2) (by decide) c_3); exact (ma_l (n := 92) 2304 96 h92 (by omega)).at (by have h8 := (fr_len c_1).2; exact fr12 h8 hlt1)) rfl rfl ?_
              refine j_iinc (y := (nI (i1 + 1))) (lv' := [(7, .int (nI (i1 + 1))), (6, .int (2304 + (96 * ((S_X9_lend u g (-1) 2).1)))), (5, .int (Q_X9_send_1 u g a b)), (4, .int ((S_X9_lend u g (-1) 2).1)), (0, .ref (ad 22)), (1, .int a), (2, .long b)]) C dX9_send_146 0 rfl (nI_1 _) (by decide) rfl ?_
              refine j_goto (tgt := 106) C dX9_send_149 (by decide) ?_
              refine j_lv (lv' := [(7, .int (nI (i1 + 1))), (6, .int (2304 + (96 * ((S_X9_lend u g (-1) 2).1)))), (5, .int (Q_X9_send_1 u g a b)), (4, .int ((S_X9_lend u g (-1) 2).1)), (0, .ref (ad 22)), (1, .int a), (2, .long b)]) [0, 1, 2, 3, 4, 5, 6] rfl ?_
              have e8 := ih1 (i1 + 1) (by omega)
              rw [show L_X9_send u g a b (i1 + 1) = (va_up (L_X9_send u g a b i1) 23 (upd ((L_X9_send u g a b i1) 23) (((2304 + (96 * ((S_X9_lend u g (-1) 2).1))) + (nI i1))).toNatClampNeg (vp_nar .byte ((0 : Int32).toInt8.toInt32)))) from by rw [L_X9_send, if_neg c_4]] at e8
              try dsimp only at e8
              exact e8
        have e7 := lp1 ((12 + a).toNatClampNeg) 0 (by omega)
        rw [L_X9_send] at e7
        try dsimp only at e7
        exact e7
      · refine j_iconst (x := (-1)) C dX9_send_32 (by decide) ?_
        have hs : S_X9_send u g a b = ((-1), g) := by unfold S_X9_send; rw [if_neg c_1, if_neg c_2, if_neg c_3]
        exact j_iret C hQ rfl dX9_send_33 (dt_ifM hs)
    · refine j_bipush (x := (-4)) C dX9_send_20 (by decide) ?_
      have hs : S_X9_send u g a b = ((-4), g) := by unfold S_X9_send; rw [if_neg c_1, if_pos c_2]
      exact j_iret C hQ rfl dX9_send_22 (dt_ifM hs)
  · refine j_bipush (x := (-2)) C dX9_send_10 (by decide) ?_
    have hs : S_X9_send u g a b = ((-2), g) := by unfold S_X9_send; rw [if_pos c_1]
    exact j_iret C hQ rfl dX9_send_12 (dt_ifM hs)

