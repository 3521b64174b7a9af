theorem vp_wire {x : Int32} {i : Nat} (h : i < 80) : vp_in ((x &&& 15) * 80 + nI i) 1280 := by
  obtain ⟨j, hj, e⟩ := pk_andE x (m := 15) 4 rfl
  rw [e, show (80 : Int32) = nI 80 from rfl, pk_mul, nI_add]
  exact vp_in_nI (by omega) (by decide)
theorem vp_wire2 {x k y : Int32} (h0 : ¬ k < 0) (h1 : ¬ y ≤ k) (hy : y.toInt ≤ 80) : vp_in ((x &&& 15) * 80 + k) 1280 := by
  obtain ⟨j, hj, rfl⟩ := nI_of h0
  rw [Int32.le_iff_toInt_le, nI_toInt hj] at h1
  exact vp_wire (by omega)
theorem fr_le {v : Nat → Int32} {f : Nat → Nat → Int32} {n : Int32} (h : ¬ (S_X8_isFrame v f n) = 0) : 1 ≤ n.toInt ∧ n.toInt ≤ 80 := by
  unfold S_X8_isFrame at h
  have e1 : (1 : Int32).toInt = 1 := rfl
  have e80 : (80 : Int32).toInt = 80 := rfl
  split at h
  · exact absurd rfl h
  · split at h
    · exact absurd rfl h
    · rename_i h1 h2
      rw [Int32.lt_iff_toInt_lt] at h1 h2
      omega
def Q_X7_carry_1 (v : Nat → Int32) (f : Nat → Nat → Int32) : (Nat → Int32) := (S_X0_toReads (upd (upd v 37 (((v 37) + 1) &&& 15)) 38 (((upd v 37 (((v 37) + 1) &&& 15)) 38) + 1)) (va_up f 14 (upd (f 14) ((((v 37) + 1) &&& 15)).toNatClampNeg ((v 35) - 12))))
def Q_X7_carry_2 (v : Nat → Int32) (f : Nat → Nat → Int32) : (Nat → Int32) := (S_X0_skip (Q_X7_carry_1 v f) (va_up f 14 (upd (f 14) ((((v 37) + 1) &&& 15)).toNatClampNeg ((v 35) - 12))) 12)
def L_X7_carry (v : Nat → Int32) (f : Nat → Nat → Int32)  : Nat → (Nat → Int32) × (Nat → Nat → Int32)
  | 0 => ((Q_X7_carry_2 v f), (va_up f 14 (upd (f 14) ((((v 37) + 1) &&& 15)).toNatClampNeg ((v 35) - 12))))
  | i1 + 1 =>
    (((S_X0_nextByte ((L_X7_carry v f i1).1) ((L_X7_carry v f i1).2)).2), (va_up ((L_X7_carry v f i1).2) 13 (upd (((L_X7_carry v f i1).2) 13) ((((((L_X7_carry v f i1).1) 37) * 80) + (nI i1))).toNatClampNeg (vp_nar .byte ((((S_X0_nextByte ((L_X7_carry v f i1).1) ((L_X7_carry v f i1).2)).1) : Int32).toInt8.toInt32)))))
def S_X7_carry (v : Nat → Int32) (f : Nat → Nat → Int32)  : (Nat → Int32) × (Nat → Nat → Int32) :=
  if (S_X8_isFrame v f ((v 35) - 12)) = 0 then (v, f)
  else (((L_X7_carry v f ((v 35) - 12).toNatClampNeg).1), ((L_X7_carry v f ((v 35) - 12).toNatClampNeg).2))
theorem ca_pos (v : Nat → Int32) (f : Nat → Nat → Int32) : ∀ i : Nat, 0 ≤ ((L_X7_carry v f i).1 30).toInt
  | 0 => by rw [L_X7_carry]; dsimp only; unfold Q_X7_carry_2; exact sk_pos _ _ _ (Int.le_refl 0)
  | i + 1 => by rw [L_X7_carry]; exact np_pos _ _ (ca_pos v f i)
theorem ca_37 (v : Nat → Int32) (f : Nat → Nat → Int32) : ∀ i : Nat, (L_X7_carry v f i).1 37 = ((v 37) + 1) &&& 15
  | 0 => by rw [L_X7_carry]; dsimp only; unfold Q_X7_carry_2; exact (sk_same _ _ _ 37 (by decide) (by decide)).trans rfl
  | i + 1 => by rw [L_X7_carry]; exact (np_same _ _ 37 (by decide) (by decide)).trans (ca_37 v f i)
set_option maxHeartbeats 1000000 in
set_option maxRecDepth 100000 in
theorem c_X7_carry (ε : ET) (ad : Nat → Nat) (v : Nat → Int32) (f : Nat → Nat → Int32) (u : Nat → Int32) (g : Nat → Nat → Int32)   : CT ε yX7_carry cX7_carry 4 none 2 42 0 0 [.ref (ad 12), .ref (ad 7)] (WD ε ad v f u g) (DT none (WD ε ad ((S_X7_carry v f).1) ((S_X7_carry v f).2) u g)) := by
  refine CT.of (own := RX7) (by decide) rfl (Nat.le_of_ble_eq_true rfl) (fun κ C hQ => ?_)
  refine j_aload_n (i := 1) C dX7_carry_0 rfl 1 rfl ?_
  refine g_7_readable (x := (v 35)) C dX7_carry_1 lf_X7_19 rfl ?_
  refine j_bipush (x := 12) C dX7_carry_4 (by decide) ?_
  refine j_isub C dX7_carry_6 ?_
  refine j_istore_n (i := 2) (lv' := [(2, .int ((v 35) - 12)), (0, .ref (ad 12)), (1, .ref (ad 7))]) C dX7_carry_7 rfl (by decide) rfl ?_
  refine j_iload_n (i := 2) C dX7_carry_8 rfl 0 rfl ?_
  refine c_SN (As := [.int ((v 35) - 12)]) (rest := []) (st1 := [.int (S_X8_isFrame v f ((v 35) - 12))]) C (c_X8_isFrame ε ad v f u g ((v 35) - 12)  ) mt_X8_isFrame nw_X7_25 dX7_carry_9 rfl rfl (by decide) (Nat.le_of_ble_eq_true rfl) rfl ?_
  refine j_if_ne (tgt := 16) C dX7_carry_12 (by decide) (fun c_1 => ?_) (fun c_1 => ?_)
  · refine j_aload_n (i := 0) C dX7_carry_16 rfl 1 rfl ?_
    refine j_aload_n (i := 0) C dX7_carry_17 rfl 1 rfl ?_
    refine g_12_latest (x := (v 37)) C dX7_carry_18 lf_X7_29 rfl ?_
    refine j_iconst (x := 1) C dX7_carry_21 (by decide) ?_
    refine j_iadd C dX7_carry_22 ?_
    refine j_bipush (x := 15) C dX7_carry_23 (by decide) ?_
    refine j_iand C dX7_carry_25 ?_
    refine p_12_latest C dX7_carry_26 lf_X7_29 ?_
    refine j_aload_n (i := 0) C dX7_carry_29 rfl 1 rfl ?_
    refine g_12_lengths C dX7_carry_30 lf_X7_15 ?_
    refine j_aload_n (i := 0) C dX7_carry_33 rfl 1 rfl ?_
    refine g_12_latest (x := (((v 37) + 1) &&& 15)) C dX7_carry_34 lf_X7_29 rfl ?_
    refine j_iload_n (i := 2) C dX7_carry_37 rfl 0 rfl ?_
    refine as_14 (F2 := (f 14)) (F := (upd (f 14) ((((v 37) + 1) &&& 15)).toNatClampNeg ((v 35) - 12))) C dX7_carry_38 (pk_andIn _ 4 rfl (by decide)) rfl rfl ?_
    refine j_aload_n (i := 0) C dX7_carry_39 rfl 1 rfl ?_
    refine j_dup C dX7_carry_40 rfl ?_
    refine g_12_went (x := ((upd v 37 (((v 37) + 1) &&& 15)) 38)) C dX7_carry_41 lf_X7_32 rfl ?_
    refine j_iconst (x := 1) C dX7_carry_44 (by decide) ?_
    refine j_iadd C dX7_carry_45 ?_
    refine p_12_went C dX7_carry_46 lf_X7_32 ?_
    refine j_aload_n (i := 1) C dX7_carry_49 rfl 2 rfl ?_
    refine c_V (As := []) (rest := []) (st1 := []) (ω1 := (WD ε ad (Q_X7_carry_1 v f) (va_up f 14 (upd (f 14) ((((v 37) + 1) &&& 15)).toNatClampNeg ((v 35) - 12))) u g)) C (c_X0_toReads ε ad (upd (upd v 37 (((v 37) + 1) &&& 15)) 38 (((upd v 37 (((v 37) + 1) &&& 15)) 38) + 1)) (va_up f 14 (upd (f 14) ((((v 37) + 1) &&& 15)).toNatClampNeg ((v 35) - 12))) u g   ) mv_X0_toReads lm_X7_35 dX7_carry_50 7 wl_7 rfl rfl rfl (by decide) (Nat.le_of_ble_eq_true rfl) rfl ?_
    refine j_aload_n (i := 1) C dX7_carry_53 rfl 2 rfl ?_
    refine j_bipush (x := 12) C dX7_carry_54 (by decide) ?_
    refine c_V (As := [.int 12]) (rest := []) (st1 := []) (ω1 := (WD ε ad (Q_X7_carry_2 v f) (va_up f 14 (upd (f 14) ((((v 37) + 1) &&& 15)).toNatClampNeg ((v 35) - 12))) u g)) C (c_X0_skip ε ad (Q_X7_carry_1 v f) (va_up f 14 (upd (f 14) ((((v 37) + 1) &&& 15)).toNatClampNeg ((v 35) - 12))) u g 12  (by first | assumption | omega | decide) (Int.le_refl 0)) mv_X0_skip lm_X7_38 dX7_carry_56 7 wl_7 rfl rfl rfl (by decide) (Nat.le_of_ble_eq_true rfl) rfl ?_
    refine j_iconst (x := 0) C dX7_carry_59 (by decide) ?_
    refine j_istore_n (i := 3) (lv' := [(3, .int 0), (2, .int ((v 35) - 12)), (0, .ref (ad 12)), (1, .ref (ad 7))]) C dX7_carry_60 rfl (by decide) rfl ?_
    have hx1 : JW κ 0 0 (WD ε ad ((L_X7_carry v f ((v 35) - 12).toNatClampNeg).1) ((L_X7_carry v f ((v 35) - 12).toNatClampNeg).2) u g) 91 [(3, .int (nI ((v 35) - 12).toNatClampNeg)), (2, .int ((v 35) - 12)), (0, .ref (ad 12)), (1, .ref (ad 7))] [] := by
      have hs : S_X7_carry v f = (((L_X7_carry v f ((v 35) - 12).toNatClampNeg).1), ((L_X7_carry v f ((v 35) - 12).toNatClampNeg).2)) := by unfold S_X7_carry; rw [if_neg c_1]
      exact j_vret C hQ rfl dX7_carry_91 (dt_nvf hs)
    have lp1 : ∀ d1 i1 : Nat, i1 + d1 = ((v 35) - 12).toNatClampNeg → JW κ 0 0 (WD ε ad ((L_X7_carry v f i1).1) ((L_X7_carry v f i1).2) u g) 61 [(3, .int (nI i1)), (2, .int ((v 35) - 12)), (0, .ref (ad 12)), (1, .ref (ad 7))] [] := by
      intro d1
      induction d1 with
      | zero =>
        intro i1 hi
        have e9 : i1 = ((v 35) - 12).toNatClampNeg := by omega
        rw [e9]
        have lf1 : ((v 35) - 12) ≤ (nI ((v 35) - 12).toNatClampNeg) := lp_ge _
        refine j_iload_n (i := 3) C dX7_carry_61 rfl 0 rfl ?_
        refine j_iload_n (i := 2) C dX7_carry_62 rfl 1 rfl ?_
        refine j_icmp_ge (tgt := 91) C dX7_carry_63 (by decide) (fun _ => ?_) (fun c9 => absurd lf1 c9)
        exact hx1
      | succ d1 ih1 =>
        intro i1 hi
        have hlt1 : i1 < ((v 35) - 12).toNatClampNeg := by omega
        have lf1 : ¬ ((v 35) - 12) ≤ (nI i1) := lp_lt hlt1
        refine j_iload_n (i := 3) C dX7_carry_61 rfl 0 rfl ?_
        refine j_iload_n (i := 2) C dX7_carry_62 rfl 1 rfl ?_
        refine j_icmp_ge (tgt := 91) C dX7_carry_63 (by decide) (fun c9 => absurd c9 lf1) (fun _ => ?_)
        refine j_aload_n (i := 0) C dX7_carry_66 rfl 2 rfl ?_
        refine g_12_bytes C dX7_carry_67 lf_X7_9 ?_
        refine j_aload_n (i := 0) C dX7_carry_70 rfl 2 rfl ?_
        refine g_12_latest (x := (((L_X7_carry v f i1).1) 37)) C dX7_carry_71 lf_X7_29 rfl ?_
        refine j_bipush (x := 80) C dX7_carry_74 (by decide) ?_
        refine j_imul C dX7_carry_76 ?_
        refine j_iload_n (i := 3) C dX7_carry_77 rfl 0 rfl ?_
        refine j_iadd C dX7_carry_78 ?_
        refine j_aload_n (i := 1) C dX7_carry_79 rfl 3 rfl ?_
        refine c_V (As := []) (rest := [.int (((((L_X7_carry v f i1).1) 37) * 80) + (nI i1)), .ref (ad 13)]) (st1 := [.int ((S_X0_nextByte ((L_X7_carry v f i1).1) ((L_X7_carry v f i1).2)).1), .int (((((L_X7_carry v f i1).1) 37) * 80) + (nI i1)), .ref (ad 13)]) C (c_X0_nextByte ε ad ((L_X7_carry v f i1).1) ((L_X7_carry v f i1).2) u g   (ca_pos v f i1)) mv_X0_nextByte lm_X7_42 dX7_carry_80 7 wl_7 rfl rfl rfl (by decide) (Nat.le_of_ble_eq_true rfl) rfl ?_
        refine j_i2b C dX7_carry_83 ?_
        refine as_13 (F2 := (((L_X7_carry v f i1).2) 13)) (F := (upd (((L_X7_carry v f i1).2) 13) ((((((L_X7_carry v f i1).1) 37) * 80) + (nI i1))).toNatClampNeg (vp_nar .byte ((((S_X0_nextByte ((L_X7_carry v f i1).1) ((L_X7_carry v f i1).2)).1) : Int32).toInt8.toInt32)))) C dX7_carry_84 (by rw [ca_37]; exact vp_wire (by have h8 := (fr_le c_1).2; have h9 : i1 < ((v 35) - 12).toInt.toNat := hlt1; omega)) rfl rfl ?_
        refine j_iinc (y := (nI (i1 + 1))) (lv' := [(3, .int (nI (i1 + 1))), (2, .int ((v 35) - 12)), (0, .ref (ad 12)), (1, .ref (ad 7))]) C dX7_carry_85 0 rfl (nI_1 _) (by decide) rfl ?_
        refine j_goto (tgt := 61) C dX7_carry_88 (by decide) ?_
        refine j_lv (lv' := [(3, .int (nI (i1 + 1))), (2, .int ((v 35) - 12)), (0, .ref (ad 12)), (1, .ref (ad 7))]) [0, 1, 2, 3] rfl ?_
        have e8 := ih1 (i1 + 1) (by omega)
        rw [L_X7_carry] at e8
        try dsimp only at e8
        exact e8
    have e7 := lp1 (((v 35) - 12).toNatClampNeg) 0 (by omega)
    rw [L_X7_carry] at e7
    try dsimp only at e7
    exact e7
  · have hs : S_X7_carry v f = (v, f) := by unfold S_X7_carry; rw [if_pos c_1]
    exact j_vret C hQ rfl dX7_carry_15 (dt_nvf hs)

def S_X7_byteOf (v : Nat → Int32) (f : Nat → Nat → Int32) (a : Int32) (b : Int32) : Int32 :=
  if a < 0 then (-1)
  else if a < 16 then if b < 0 then (-1)
      else if ((f 14) ((((v 37) - a) &&& 15)).toNatClampNeg) ≤ b then (-1)
        else (((f 13) ((((((v 37) - a) &&& 15) * 80) + b)).toNatClampNeg) &&& 255)
    else (-1)
set_option maxHeartbeats 1000000 in
set_option maxRecDepth 100000 in
theorem c_X7_byteOf (ε : ET) (ad : Nat → Nat) (v : Nat → Int32) (f : Nat → Nat → Int32) (u : Nat → Int32) (g : Nat → Nat → Int32) (a : Int32) (b : Int32) (hw : ∀ j : Nat, j < 16 → (f 14 j).toInt ≤ 80) : CT ε yX7_byteOf cX7_byteOf 4 (some .int) 0 0 0 0 [.ref (ad 12), .int a, .int b] (WD ε ad v f u g) (DT (some (.int (S_X7_byteOf v f a b))) (WD ε ad v f u g)) := by
  refine CT.of (own := RX7) (by decide) rfl (Nat.le_of_ble_eq_true rfl) (fun κ C hQ => ?_)
  refine j_iload_n (i := 1) C dX7_byteOf_0 rfl 1 rfl ?_
  refine j_if_lt (tgt := 10) C dX7_byteOf_1 (by decide) (fun c_1 => ?_) (fun c_1 => ?_)
  · refine j_iconst (x := (-1)) C dX7_byteOf_10 (by decide) ?_
    have hs : S_X7_byteOf v f a b = (-1) := by unfold S_X7_byteOf; rw [if_pos c_1]
    exact j_iret C hQ rfl dX7_byteOf_11 (dt_i hs)
  · refine j_iload_n (i := 1) C dX7_byteOf_4 rfl 1 rfl ?_
    refine j_bipush (x := 16) C dX7_byteOf_5 (by decide) ?_
    refine j_icmp_lt (tgt := 12) C dX7_byteOf_7 (by decide) (fun c_2 => ?_) (fun c_2 => ?_)
    · refine j_aload_n (i := 0) C dX7_byteOf_12 rfl 0 rfl ?_
      refine g_12_latest (x := (v 37)) C dX7_byteOf_13 lf_X7_29 rfl ?_
      refine j_iload_n (i := 1) C dX7_byteOf_16 rfl 1 rfl ?_
      refine j_isub C dX7_byteOf_17 ?_
      refine j_bipush (x := 15) C dX7_byteOf_18 (by decide) ?_
      refine j_iand C dX7_byteOf_20 ?_
      refine j_istore_n (i := 3) (lv' := [(3, .int (((v 37) - a) &&& 15)), (0, .ref (ad 12)), (1, .int a), (2, .int b)]) C dX7_byteOf_21 rfl (by decide) rfl ?_
      refine j_iload_n (i := 2) C dX7_byteOf_22 rfl 3 rfl ?_
      refine j_if_lt (tgt := 54) C dX7_byteOf_23 (by decide) (fun c_3 => ?_) (fun c_3 => ?_)
      · refine j_iconst (x := (-1)) C dX7_byteOf_54 (by decide) ?_
        have hs : S_X7_byteOf v f a b = (-1) := by unfold S_X7_byteOf; rw [if_neg c_1, if_pos c_2, if_pos c_3]
        exact j_iret C hQ rfl dX7_byteOf_55 (dt_i hs)
      · refine j_iload_n (i := 2) C dX7_byteOf_26 rfl 3 rfl ?_
        refine j_aload_n (i := 0) C dX7_byteOf_27 rfl 1 rfl ?_
        refine g_12_lengths C dX7_byteOf_28 lf_X7_15 ?_
        refine j_iload_n (i := 3) C dX7_byteOf_31 rfl 0 rfl ?_
        refine al_14 (F := (f 14)) C dX7_byteOf_32 (pk_andIn _ 4 rfl (by decide)) rfl ?_
        refine j_icmp_ge (tgt := 54) C dX7_byteOf_33 (by decide) (fun c_4 => ?_) (fun c_4 => ?_)
        · refine j_iconst (x := (-1)) C dX7_byteOf_54 (by decide) ?_
          have hs : S_X7_byteOf v f a b = (-1) := by unfold S_X7_byteOf; rw [if_neg c_1, if_pos c_2, if_neg c_3, if_pos c_4]
          exact j_iret C hQ rfl dX7_byteOf_55 (dt_i hs)
        · refine j_aload_n (i := 0) C dX7_byteOf_36 rfl 1 rfl ?_
          refine g_12_bytes C dX7_byteOf_37 lf_X7_9 ?_
          refine j_iload_n (i := 3) C dX7_byteOf_40 rfl 0 rfl ?_
          refine j_bipush (x := 80) C dX7_byteOf_41 (by decide) ?_
          refine j_imul C dX7_byteOf_43 ?_
          refine j_iload_n (i := 2) C dX7_byteOf_44 rfl 3 rfl ?_
          refine j_iadd C dX7_byteOf_45 ?_
          refine al_13 (F := (f 13)) C dX7_byteOf_46 (vp_wire2 c_3 c_4 (hw _ (by obtain ⟨j9, hj9, e9⟩ := pk_andE ((v 37) - a) (m := 15) 4 rfl; rw [e9, nI_clamp (by omega)]; exact hj9))) rfl ?_
          refine j_sipush (x := 255) C dX7_byteOf_47 (by decide) ?_
          refine j_iand C dX7_byteOf_50 ?_
          refine j_goto (tgt := 55) C dX7_byteOf_51 (by decide) ?_
          have hs : S_X7_byteOf v f a b = (((f 13) ((((((v 37) - a) &&& 15) * 80) + b)).toNatClampNeg) &&& 255) := by unfold S_X7_byteOf; rw [if_neg c_1, if_pos c_2, if_neg c_3, if_neg c_4]
          exact j_iret C hQ rfl dX7_byteOf_55 (dt_i hs)
    · refine j_iconst (x := (-1)) C dX7_byteOf_10 (by decide) ?_
      have hs : S_X7_byteOf v f a b = (-1) := by unfold S_X7_byteOf; rw [if_neg c_1, if_neg c_2]
      exact j_iret C hQ rfl dX7_byteOf_11 (dt_i hs)

