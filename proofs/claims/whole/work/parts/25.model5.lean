/-- what the reference keeps of a chain: how much it READS and may WRITE, and that these bytes lie in MEMORY -/
def DP (u : Nat → Int32) (g : Nat → Nat → Int32) : Prop := ∃ n m : Nat, u 5 = nI n ∧ n ≤ 65536 ∧ u 7 = nI m ∧ m ≤ 65536 ∧ (∀ k : Nat, k < n → RV (g 33) (g 32) 0 (nI k)) ∧ (∀ k : Nat, k < m → RV (g 35) (g 34) 0 (nI k))
theorem rem16 {x : Int32} (h : 0 ≤ x.toInt) : ∃ r : Nat, r < 16 ∧ x - x / 16 * 16 = nI r := by
  obtain ⟨n, hn, rfl⟩ := nI_of (x := x) (by rw [Int32.lt_iff_toInt_lt]; have : (0 : Int32).toInt = 0 := rfl; omega)
  exact ⟨n % 16, Nat.mod_lt _ (by decide), pk_rem (d := 16) hn (by decide) (by decide)⟩
theorem fr_len {u : Nat → Int32} {g : Nat → Nat → Int32} {n : Int32} (h : ¬ (S_X9_isIn u g n 1 80) = 0) : 1 ≤ n.toInt ∧ n.toInt ≤ 80 := in_of h
theorem nI_m {n k : Nat} (hk : k ≤ n) : nI n - nI k = nI (n - k) := pk_sub hk
theorem dw_rv {u : Nat → Int32} {g : Nat → Nat → Int32} (hd : DP u g) {i : Nat} (hi : i < ((u 5) - 12).toNatClampNeg) : RV (g 33) (g 32) 0 (nI (12 + i)) := by
  obtain ⟨n, m, e5, hn, e7, hm, h1, h2⟩ := hd
  refine h1 _ ?_
  rw [e5] at hi
  rcases Nat.lt_or_ge n 12 with q | q
  · have : (nI n - 12).toInt < 0 := by
      rw [show (12 : Int32) = nI 12 from rfl, pk_sub_toInt (by omega) (by decide)]; omega
    have h3 : i < (nI n - 12).toInt.toNat := hi
    omega
  · rw [show (12 : Int32) = nI 12 from rfl, nI_m q, nI_clamp (by omega)] at hi
    omega
def L_X9_doWire (u : Nat → Int32) (g : Nat → Nat → Int32)  : Nat → (Nat → Nat → Int32)
  | 0 => g
  | i1 + 1 =>
    (va_up (L_X9_doWire u g i1) 36 (upd ((L_X9_doWire u g i1) 36) (((80 * ((u 9) - (u 9) / 16 * 16)) + (nI i1))).toNatClampNeg (vp_nar .byte (((S_X9_readByte u (L_X9_doWire u g i1) (nI (12 + i1))) : Int32).toInt8.toInt32))))
def S_X9_doWire (u : Nat → Int32) (g : Nat → Nat → Int32)  : (Nat → Int32) × (Nat → Nat → Int32) :=
  if (S_X9_isIn u g ((u 5) - 12) 1 80) = 0 then (u, g)
  else ((upd u 9 ((u 9) + 1)), (va_up (L_X9_doWire u g ((u 5) - 12).toNatClampNeg) 37 (upd ((L_X9_doWire u g ((u 5) - 12).toNatClampNeg) 37) (((u 9) - (u 9) / 16 * 16)).toNatClampNeg ((u 5) - 12))))
theorem dw_same (u : Nat → Int32) (g : Nat → Nat → Int32) (i j : Nat) (h : j ≠ 36) : (L_X9_doWire u g i) j = g j := by
  induction i with
  | zero => rfl
  | succ i ih =>
    rw [L_X9_doWire]
    show (if j = 36 then _ else _) = _
    rw [if_neg h]
    exact ih
set_option maxHeartbeats 1000000 in
set_option maxRecDepth 100000 in
theorem c_X9_doWire (ε : ET) (ad : Nat → Nat) (v : Nat → Int32) (f : Nat → Nat → Int32) (u : Nat → Int32) (g : Nat → Nat → Int32)  (hw : 0 ≤ (u 9).toInt) (hd : DP u g) : CT ε yX9_doWire cX9_doWire 4 none 1 23 0 0 [.ref (ad 22)] (WD ε ad v f u g) (DT none (WD ε ad v f ((S_X9_doWire u g).1) ((S_X9_doWire u g).2))) := by
  refine CT.of (own := RX9) (by decide) rfl (Nat.le_of_ble_eq_true rfl) (fun κ C hQ => ?_)
  refine j_aload_n (i := 0) C dX9_doWire_0 rfl 0 rfl ?_
  refine g_22_readAll (x := (u 5)) C dX9_doWire_1 lf_X9_98 rfl ?_
  refine j_bipush (x := 12) C dX9_doWire_4 (by decide) ?_
  refine j_isub C dX9_doWire_6 ?_
  refine j_istore_n (i := 1) (lv' := [(1, .int ((u 5) - 12)), (0, .ref (ad 22))]) C dX9_doWire_7 rfl (by decide) rfl ?_
  refine j_iload_n (i := 1) C dX9_doWire_8 rfl 0 rfl ?_
  refine j_iconst (x := 1) C dX9_doWire_9 (by decide) ?_
  refine j_bipush (x := 80) C dX9_doWire_10 (by decide) ?_
  refine c_S (As := [.int ((u 5) - 12), .int 1, .int 80]) (rest := []) (st1 := [.int (S_X9_isIn u g ((u 5) - 12) 1 80)]) C (c_X9_isIn ε ad v f u g ((u 5) - 12) 1 80  ) mt_X9_isIn lm_X9_7 dX9_doWire_12 rfl rfl (by decide) (Nat.le_of_ble_eq_true rfl) rfl ?_
  refine j_if_ne (tgt := 19) C dX9_doWire_15 (by decide) (fun c_1 => ?_) (fun c_1 => ?_)
  · refine j_aload_n (i := 0) C dX9_doWire_19 rfl 1 rfl ?_
    refine g_22_went (x := (u 9)) C dX9_doWire_20 lf_X9_165 rfl ?_
    refine j_bipush (x := 16) C dX9_doWire_23 (by decide) ?_
    refine j_irem C dX9_doWire_25 (by decide) ?_
    refine j_istore_n (i := 2) (lv' := [(2, .int ((u 9) - (u 9) / 16 * 16)), (1, .int ((u 5) - 12)), (0, .ref (ad 22))]) C dX9_doWire_26 rfl (by decide) rfl ?_
    refine j_iconst (x := 0) C dX9_doWire_27 (by decide) ?_
    refine j_istore_n (i := 3) (lv' := [(3, .int 0), (2, .int ((u 9) - (u 9) / 16 * 16)), (1, .int ((u 5) - 12)), (0, .ref (ad 22))]) C dX9_doWire_28 rfl (by decide) rfl ?_
    have hx1 : JW κ 0 0 (WD ε ad v f u (L_X9_doWire u g ((u 5) - 12).toNatClampNeg)) 60 [(3, .int (nI ((u 5) - 12).toNatClampNeg)), (2, .int ((u 9) - (u 9) / 16 * 16)), (1, .int ((u 5) - 12)), (0, .ref (ad 22))] [] := by
      refine j_aload_n (i := 0) C dX9_doWire_60 rfl 3 rfl ?_
      refine g_22_wireSizes C dX9_doWire_61 lf_X9_73 ?_
      refine j_iload_n (i := 2) C dX9_doWire_64 rfl 1 rfl ?_
      refine j_iload_n (i := 1) C dX9_doWire_65 rfl 2 rfl ?_
      refine as_37 (F2 := ((L_X9_doWire u g ((u 5) - 12).toNatClampNeg) 37)) (F := (upd ((L_X9_doWire u g ((u 5) - 12).toNatClampNeg) 37) (((u 9) - (u 9) / 16 * 16)).toNatClampNeg ((u 5) - 12))) C dX9_doWire_66 (by obtain ⟨r9, h91, h92⟩ := rem16 hw; rw [h92]; exact vp_in_nI h91 (by decide)) rfl rfl ?_
      refine j_aload_n (i := 0) C dX9_doWire_67 rfl 3 rfl ?_
      refine j_dup C dX9_doWire_68 rfl ?_
      refine g_22_went (x := (u 9)) C dX9_doWire_69 lf_X9_165 rfl ?_
      refine j_iconst (x := 1) C dX9_doWire_72 (by decide) ?_
      refine j_iadd C dX9_doWire_73 ?_
      refine p_22_went C dX9_doWire_74 lf_X9_165 ?_
      have hs : S_X9_doWire u g = ((upd u 9 ((u 9) + 1)), (va_up (L_X9_doWire u g ((u 5) - 12).toNatClampNeg) 37 (upd ((L_X9_doWire u g ((u 5) - 12).toNatClampNeg) 37) (((u 9) - (u 9) / 16 * 16)).toNatClampNeg ((u 5) - 12)))) := by unfold S_X9_doWire; rw [if_neg c_1]
      exact j_vret C hQ rfl dX9_doWire_77 (dt_nvfM hs)
    have lp1 : ∀ d1 i1 : Nat, i1 + d1 = ((u 5) - 12).toNatClampNeg → JW κ 0 0 (WD ε ad v f u (L_X9_doWire u g i1)) 29 [(3, .int (nI i1)), (2, .int ((u 9) - (u 9) / 16 * 16)), (1, .int ((u 5) - 12)), (0, .ref (ad 22))] [] := by
      intro d1
      induction d1 with
      | zero =>
        intro i1 hi
        have e9 : i1 = ((u 5) - 12).toNatClampNeg := by omega
        rw [e9]
        have lf1 : ((u 5) - 12) ≤ (nI ((u 5) - 12).toNatClampNeg) := lp_ge _
        refine j_iload_n (i := 3) C dX9_doWire_29 rfl 0 rfl ?_
        refine j_iload_n (i := 1) C dX9_doWire_30 rfl 2 rfl ?_
        refine j_icmp_ge (tgt := 60) C dX9_doWire_31 (by decide) (fun _ => ?_) (fun c9 => absurd lf1 c9)
        exact hx1
      | succ d1 ih1 =>
        intro i1 hi
        have hlt1 : i1 < ((u 5) - 12).toNatClampNeg := by omega
        have lf1 : ¬ ((u 5) - 12) ≤ (nI i1) := lp_lt hlt1
        refine j_iload_n (i := 3) C dX9_doWire_29 rfl 0 rfl ?_
        refine j_iload_n (i := 1) C dX9_doWire_30 rfl 2 rfl ?_
        refine j_icmp_ge (tgt := 60) C dX9_doWire_31 (by decide) (fun c9 => absurd c9 lf1) (fun _ => ?_)
        refine j_aload_n (i := 0) C dX9_doWire_34 rfl 3 rfl ?_
        refine g_22_wires C dX9_doWire_35 lf_X9_70 ?_
        refine j_bipush (x := 80) C dX9_doWire_38 (by decide) ?_
        refine j_iload_n (i := 2) C dX9_doWire_40 rfl 1 rfl ?_
        refine j_imul C dX9_doWire_41 ?_
        refine j_iload_n (i := 3) C dX9_doWire_42 rfl 0 rfl ?_
        refine j_iadd C dX9_doWire_43 ?_
        refine j_aload_n (i := 0) C dX9_doWire_44 rfl 3 rfl ?_
        refine j_bipush (x := 12) C dX9_doWire_45 (by decide) ?_
        refine j_iload_n (i := 3) C dX9_doWire_47 rfl 0 rfl ?_
        refine j_iaddN (a := 12) (b := i1) C dX9_doWire_48 rfl rfl ?_
        refine c_V (As := [.int (nI (12 + i1))]) (rest := [.int ((80 * ((u 9) - (u 9) / 16 * 16)) + (nI i1)), .ref (ad 36)]) (st1 := [.int (S_X9_readByte u (L_X9_doWire u g i1) (nI (12 + i1))), .int ((80 * ((u 9) - (u 9) / 16 * 16)) + (nI i1)), .ref (ad 36)]) C (c_X9_readByte ε ad v f u (L_X9_doWire u g i1) (nI (12 + i1))  (by rw [dw_same _ _ _ 33 (by decide), dw_same _ _ _ 32 (by decide)]; exact dw_rv hd hlt1)) mv_X9_readByte lm_X9_123 dX9_doWire_49 22 wl_22 rfl rfl rfl (by decide) (Nat.le_of_ble_eq_true rfl) rfl ?_
        refine j_i2b C dX9_doWire_52 ?_
        refine as_36 (F2 := ((L_X9_doWire u g i1) 36)) (F := (upd ((L_X9_doWire u g i1) 36) (((80 * ((u 9) - (u 9) / 16 * 16)) + (nI i1))).toNatClampNeg (vp_nar .byte (((S_X9_readByte u (L_X9_doWire u g i1) (nI (12 + i1))) : Int32).toInt8.toInt32)))) C dX9_doWire_53 (by obtain ⟨r9, h91, h92⟩ := rem16 hw; rw [h92, show (80 : Int32) = nI 80 from rfl, pk_mul, nI_add]; exact vp_in_nI (by have h8 := (fr_len c_1).2; have h9 : i1 < ((u 5) - 12).toInt.toNat := hlt1; omega) (by decide)) rfl rfl ?_
        refine j_iinc (y := (nI (i1 + 1))) (lv' := [(3, .int (nI (i1 + 1))), (2, .int ((u 9) - (u 9) / 16 * 16)), (1, .int ((u 5) - 12)), (0, .ref (ad 22))]) C dX9_doWire_54 0 rfl (nI_1 _) (by decide) rfl ?_
        refine j_goto (tgt := 29) C dX9_doWire_57 (by decide) ?_
        refine j_lv (lv' := [(3, .int (nI (i1 + 1))), (2, .int ((u 9) - (u 9) / 16 * 16)), (1, .int ((u 5) - 12)), (0, .ref (ad 22))]) [0, 1, 2, 3] rfl ?_
        have e8 := ih1 (i1 + 1) (by omega)
        rw [L_X9_doWire] at e8
        try dsimp only at e8
        exact e8
    have e7 := lp1 (((u 5) - 12).toNatClampNeg) 0 (by omega)
    rw [L_X9_doWire] at e7
    try dsimp only at e7
    exact e7
  · have hs : S_X9_doWire u g = (u, g) := by unfold S_X9_doWire; rw [if_pos c_1]
    exact j_vret C hQ rfl dX9_doWire_18 (dt_nvfM hs)

