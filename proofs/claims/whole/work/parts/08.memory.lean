/-- the nest words by their places -/
theorem nw_X0_78 : Cond.methodLinkNest RX0 78 yX8_liesInMemory "RingDevices" ∈ nestW := List.mem_of_getElem? (i := 0) rfl
theorem nw_X1_122 : Cond.methodLinkNest RX1 122 yX8_oneMore "RingDevices" ∈ nestW := List.mem_of_getElem? (i := 1) rfl
theorem nw_X7_25 : Cond.methodLinkNest RX7 25 yX8_isFrame "RingDevices" ∈ nestW := List.mem_of_getElem? (i := 2) rfl
theorem nw_X6_55 : Cond.methodLinkNest RX6 55 yX8_oneMore "RingDevices" ∈ nestW := List.mem_of_getElem? (i := 3) rfl
theorem nw_X1_104 : Cond.methodLinkNest RX1 104 yX8_patternByte "RingDevices" ∈ nestW := List.mem_of_getElem? (i := 4) rfl
theorem nw_X3_70 : Cond.methodLinkNest RX3 70 yX8_descriptorsOf "RingDevices" ∈ nestW := List.mem_of_getElem? (i := 5) rfl
theorem nw_X3_88 : Cond.methodLinkNest RX3 88 yX8_patternByte "RingDevices" ∈ nestW := List.mem_of_getElem? (i := 6) rfl
theorem nw_X3_99 : Cond.methodLinkNest RX3 99 yX8_availableOf "RingDevices" ∈ nestW := List.mem_of_getElem? (i := 7) rfl
theorem nw_X3_106 : Cond.methodLinkNest RX3 106 yX8_oneMore "RingDevices" ∈ nestW := List.mem_of_getElem? (i := 8) rfl
theorem nw_X3_109 : Cond.methodLinkNest RX3 109 yX8_usedOf "RingDevices" ∈ nestW := List.mem_of_getElem? (i := 9) rfl
theorem vp_i0 {x : Int32} {N : Nat} {M : Int32} (h0 : ¬ x < 0) (h1 : ¬ M ≤ x) (hM : M.toInt = N) : vp_in x N := by
  rw [vp_in_iff]
  rw [Int32.lt_iff_toInt_lt] at h0
  rw [Int32.le_iff_toInt_le] at h1
  have : (0 : Int32).toInt = 0 := rfl
  omega
def S_X5_at (v : Nat → Int32) (f : Nat → Nat → Int32) (a : Int32) : Int32 :=
  if a < 0 then 0
  else if 4096 ≤ a then 0
    else (((f 2) (a).toNatClampNeg) &&& 255)
set_option maxHeartbeats 1000000 in
set_option maxRecDepth 100000 in
theorem c_X5_at (ε : ET) (ad : Nat → Nat) (v : Nat → Int32) (f : Nat → Nat → Int32) (u : Nat → Int32) (g : Nat → Nat → Int32) (a : Int32)  : CT ε yX5_at cX5_at 2 (some .int) 0 0 0 0 [.ref (ad 1), .int a] (WD ε ad v f u g) (DT (some (.int (S_X5_at v f a))) (WD ε ad v f u g)) := by
  refine CT.of (own := RX5) (by decide) rfl (Nat.le_of_ble_eq_true rfl) (fun κ C hQ => ?_)
  refine j_iload_n (i := 1) C dX5_at_0 rfl 1 rfl ?_
  refine j_if_lt (tgt := 26) C dX5_at_1 (by decide) (fun c_1 => ?_) (fun c_1 => ?_)
  · refine j_iconst (x := 0) C dX5_at_26 (by decide) ?_
    have hs : S_X5_at v f a = 0 := by unfold S_X5_at; rw [if_pos c_1]
    exact j_iret C hQ rfl dX5_at_27 (dt_i hs)
  · refine j_iload_n (i := 1) C dX5_at_4 rfl 1 rfl ?_
    refine j_aload_n (i := 0) C dX5_at_5 rfl 0 rfl ?_
    refine g_1_bytes C dX5_at_6 lf_X5_9 ?_
    refine an_2 C dX5_at_9 ?_
    refine j_icmp_ge (tgt := 26) C dX5_at_10 (by decide) (fun c_2 => ?_) (fun c_2 => ?_)
    · refine j_iconst (x := 0) C dX5_at_26 (by decide) ?_
      have hs : S_X5_at v f a = 0 := by unfold S_X5_at; rw [if_neg c_1, if_pos c_2]
      exact j_iret C hQ rfl dX5_at_27 (dt_i hs)
    · refine j_aload_n (i := 0) C dX5_at_13 rfl 0 rfl ?_
      refine g_1_bytes C dX5_at_14 lf_X5_9 ?_
      refine j_iload_n (i := 1) C dX5_at_17 rfl 1 rfl ?_
      refine al_2 (F := (f 2)) C dX5_at_18 (vp_i0 c_1 c_2 rfl) rfl ?_
      refine j_sipush (x := 255) C dX5_at_19 (by decide) ?_
      refine j_iand C dX5_at_22 ?_
      refine j_goto (tgt := 27) C dX5_at_23 (by decide) ?_
      have hs : S_X5_at v f a = (((f 2) (a).toNatClampNeg) &&& 255) := by unfold S_X5_at; rw [if_neg c_1, if_neg c_2]
      exact j_iret C hQ rfl dX5_at_27 (dt_i hs)

def S_X5_set (v : Nat → Int32) (f : Nat → Nat → Int32) (a : Int32) (b : Int32) : (Nat → Nat → Int32) :=
  if a < 0 then f
  else if 4096 ≤ a then f
    else (va_up f 2 (upd (f 2) (a).toNatClampNeg (vp_nar .byte ((b : Int32).toInt8.toInt32))))
set_option maxHeartbeats 1000000 in
set_option maxRecDepth 100000 in
theorem c_X5_set (ε : ET) (ad : Nat → Nat) (v : Nat → Int32) (f : Nat → Nat → Int32) (u : Nat → Int32) (g : Nat → Nat → Int32) (a : Int32) (b : Int32)  : CT ε yX5_set cX5_set 3 none 0 0 0 0 [.ref (ad 1), .int a, .int b] (WD ε ad v f u g) (DT none (WD ε ad v (S_X5_set v f a b) u g)) := by
  refine CT.of (own := RX5) (by decide) rfl (Nat.le_of_ble_eq_true rfl) (fun κ C hQ => ?_)
  refine j_iload_n (i := 1) C dX5_set_0 rfl 1 rfl ?_
  refine j_if_lt (tgt := 21) C dX5_set_1 (by decide) (fun c_1 => ?_) (fun c_1 => ?_)
  · have hs : S_X5_set v f a b = f := by unfold S_X5_set; rw [if_pos c_1]
    exact j_vret C hQ rfl dX5_set_21 (dt_nf hs)
  · refine j_iload_n (i := 1) C dX5_set_4 rfl 1 rfl ?_
    refine j_aload_n (i := 0) C dX5_set_5 rfl 0 rfl ?_
    refine g_1_bytes C dX5_set_6 lf_X5_9 ?_
    refine an_2 C dX5_set_9 ?_
    refine j_icmp_ge (tgt := 21) C dX5_set_10 (by decide) (fun c_2 => ?_) (fun c_2 => ?_)
    · have hs : S_X5_set v f a b = f := by unfold S_X5_set; rw [if_neg c_1, if_pos c_2]
      exact j_vret C hQ rfl dX5_set_21 (dt_nf hs)
    · refine j_aload_n (i := 0) C dX5_set_13 rfl 0 rfl ?_
      refine g_1_bytes C dX5_set_14 lf_X5_9 ?_
      refine j_iload_n (i := 1) C dX5_set_17 rfl 1 rfl ?_
      refine j_iload_n (i := 2) C dX5_set_18 rfl 2 rfl ?_
      refine j_i2b C dX5_set_19 ?_
      refine as_2 (F2 := (f 2)) (F := (upd (f 2) (a).toNatClampNeg (vp_nar .byte ((b : Int32).toInt8.toInt32)))) C dX5_set_20 (vp_i0 c_1 c_2 rfl) rfl rfl ?_
      have hs : S_X5_set v f a b = (va_up f 2 (upd (f 2) (a).toNatClampNeg (vp_nar .byte ((b : Int32).toInt8.toInt32)))) := by unfold S_X5_set; rw [if_neg c_1, if_neg c_2]
      exact j_vret C hQ rfl dX5_set_21 (dt_nf hs)

def S_X5_two (v : Nat → Int32) (f : Nat → Nat → Int32) (a : Int32) : Int32 :=
  ((S_X5_at v f a) ||| ((S_X5_at v f (a + 1)) <<< (8 &&& 31)))
set_option maxHeartbeats 1000000 in
set_option maxRecDepth 100000 in
theorem c_X5_two (ε : ET) (ad : Nat → Nat) (v : Nat → Int32) (f : Nat → Nat → Int32) (u : Nat → Int32) (g : Nat → Nat → Int32) (a : Int32)  : CT ε yX5_two cX5_two 2 (some .int) 1 21 0 0 [.ref (ad 1), .int a] (WD ε ad v f u g) (DT (some (.int (S_X5_two v f a))) (WD ε ad v f u g)) := by
  refine CT.of (own := RX5) (by decide) rfl (Nat.le_of_ble_eq_true rfl) (fun κ C hQ => ?_)
  refine j_aload_n (i := 0) C dX5_two_0 rfl 0 rfl ?_
  refine j_iload_n (i := 1) C dX5_two_1 rfl 1 rfl ?_
  refine c_V (As := [.int a]) (rest := []) (st1 := [.int (S_X5_at v f a)]) C (c_X5_at ε ad v f u g a  ) mv_X5_at lm_X5_21 dX5_two_2 1 wl_1 rfl rfl rfl (by decide) (Nat.le_of_ble_eq_true rfl) rfl ?_
  refine j_aload_n (i := 0) C dX5_two_5 rfl 0 rfl ?_
  refine j_iload_n (i := 1) C dX5_two_6 rfl 1 rfl ?_
  refine j_iconst (x := 1) C dX5_two_7 (by decide) ?_
  refine j_iadd C dX5_two_8 ?_
  refine c_V (As := [.int (a + 1)]) (rest := [.int (S_X5_at v f a)]) (st1 := [.int (S_X5_at v f (a + 1)), .int (S_X5_at v f a)]) C (c_X5_at ε ad v f u g (a + 1)  ) mv_X5_at lm_X5_21 dX5_two_9 1 wl_1 rfl rfl rfl (by decide) (Nat.le_of_ble_eq_true rfl) rfl ?_
  refine j_bipush (x := 8) C dX5_two_12 (by decide) ?_
  refine j_ishl C dX5_two_14 ?_
  refine j_ior C dX5_two_15 ?_
  have hs : S_X5_two v f a = ((S_X5_at v f a) ||| ((S_X5_at v f (a + 1)) <<< (8 &&& 31))) := by unfold S_X5_two; rfl
  exact j_iret C hQ rfl dX5_two_16 (dt_i hs)

def L_X5_number (v : Nat → Int32) (f : Nat → Nat → Int32) (a : Int32) (N : Nat) : Nat → Int64
  | 0 => 0
  | i1 + 1 =>
    ((L_X5_number v f a N i1) ||| ((((S_X5_at v f (a + (nI i1))) : Int32).toInt64) <<< (((8 * (nI i1)) : Int32).toInt64 &&& 63)))
def S_X5_number (v : Nat → Int32) (f : Nat → Nat → Int32) (a : Int32) (N : Nat) : Int64 :=
  (L_X5_number v f a N N)
set_option maxHeartbeats 1000000 in
set_option maxRecDepth 100000 in
theorem c_X5_number (ε : ET) (ad : Nat → Nat) (v : Nat → Int32) (f : Nat → Nat → Int32) (u : Nat → Int32) (g : Nat → Nat → Int32) (a : Int32) (N : Nat) (hN : N < 2 ^ 31) : CT ε yX5_number cX5_number 6 (some .long) 1 21 0 0 [.ref (ad 1), .int a, .int (nI N)] (WD ε ad v f u g) (DT (some (.long (S_X5_number v f a N))) (WD ε ad v f u g)) := by
  refine CT.of (own := RX5) (by decide) rfl (Nat.le_of_ble_eq_true rfl) (fun κ C hQ => ?_)
  refine j_lconst (x := 0) C dX5_number_0 (by decide) ?_
  refine j_lstore_n (i := 3) (lv' := [(3, .long 0), (0, .ref (ad 1)), (1, .int a), (2, .int (nI N))]) C dX5_number_1 rfl (by decide) rfl ?_
  refine j_iconst (x := 0) C dX5_number_2 (by decide) ?_
  refine j_istore (i := 5) (lv' := [(5, .int 0), (3, .long 0), (0, .ref (ad 1)), (1, .int a), (2, .int (nI N))]) C dX5_number_3 (by decide) rfl ?_
  have hx1 : JW κ 0 0 (WD ε ad v f u g) 35 [(5, .int (nI N)), (3, .long (L_X5_number v f a N N)), (0, .ref (ad 1)), (1, .int a), (2, .int (nI N))] [] := by
    refine j_lload_n (i := 3) C dX5_number_35 rfl 1 rfl ?_
    have hs : S_X5_number v f a N = (L_X5_number v f a N N) := by unfold S_X5_number; rfl
    exact j_lret C hQ rfl dX5_number_36 (dt_l hs)
  have lp1 : ∀ d1 i1 : Nat, i1 + d1 = N → JW κ 0 0 (WD ε ad v f u g) 5 [(5, .int (nI i1)), (3, .long (L_X5_number v f a N i1)), (0, .ref (ad 1)), (1, .int a), (2, .int (nI N))] [] := by
    intro d1
    induction d1 with
    | zero =>
      intro i1 hi
      have e9 : i1 = N := by omega
      rw [e9]
      have lf1 : (nI N) ≤ (nI N) := Int32.le_refl _
      refine j_iload (i := 5) C dX5_number_5 0 rfl ?_
      refine j_iload_n (i := 2) C dX5_number_7 rfl 4 rfl ?_
      refine j_icmp_ge (tgt := 35) C dX5_number_8 (by decide) (fun _ => ?_) (fun c9 => absurd lf1 c9)
      exact hx1
    | succ d1 ih1 =>
      intro i1 hi
      have hlt1 : i1 < N := by omega
      have lf1 : ¬ (nI N) ≤ (nI i1) := nI_ge hlt1 (by omega)
      refine j_iload (i := 5) C dX5_number_5 0 rfl ?_
      refine j_iload_n (i := 2) C dX5_number_7 rfl 4 rfl ?_
      refine j_icmp_ge (tgt := 35) C dX5_number_8 (by decide) (fun c9 => absurd c9 lf1) (fun _ => ?_)
      refine j_lload_n (i := 3) C dX5_number_11 rfl 1 rfl ?_
      refine j_aload_n (i := 0) C dX5_number_12 rfl 2 rfl ?_
      refine j_iload_n (i := 1) C dX5_number_13 rfl 3 rfl ?_
      refine j_iload (i := 5) C dX5_number_14 0 rfl ?_
      refine j_iadd C dX5_number_16 ?_
      refine c_V (As := [.int (a + (nI i1))]) (rest := [.long (L_X5_number v f a N i1)]) (st1 := [.int (S_X5_at v f (a + (nI i1))), .long (L_X5_number v f a N i1)]) C (c_X5_at ε ad v f u g (a + (nI i1))  ) mv_X5_at lm_X5_21 dX5_number_17 1 wl_1 rfl rfl rfl (by decide) (Nat.le_of_ble_eq_true rfl) rfl ?_
      refine j_i2l C dX5_number_20 ?_
      refine j_bipush (x := 8) C dX5_number_21 (by decide) ?_
      refine j_iload (i := 5) C dX5_number_23 0 rfl ?_
      refine j_imul C dX5_number_25 ?_
      refine j_lshl C dX5_number_26 ?_
      refine j_lor C dX5_number_27 ?_
      refine j_lstore_n (i := 3) (lv' := [(3, .long ((L_X5_number v f a N i1) ||| ((((S_X5_at v f (a + (nI i1))) : Int32).toInt64) <<< (((8 * (nI i1)) : Int32).toInt64 &&& 63)))), (5, .int (nI i1)), (0, .ref (ad 1)), (1, .int a), (2, .int (nI N))]) C dX5_number_28 rfl (by decide) rfl ?_
      refine j_iinc (y := (nI (i1 + 1))) (lv' := [(5, .int (nI (i1 + 1))), (3, .long ((L_X5_number v f a N i1) ||| ((((S_X5_at v f (a + (nI i1))) : Int32).toInt64) <<< (((8 * (nI i1)) : Int32).toInt64 &&& 63)))), (0, .ref (ad 1)), (1, .int a), (2, .int (nI N))]) C dX5_number_29 1 rfl (nI_1 _) (by decide) rfl ?_
      refine j_goto (tgt := 5) C dX5_number_32 (by decide) ?_
      refine j_lv (lv' := [(5, .int (nI (i1 + 1))), (3, .long ((L_X5_number v f a N i1) ||| ((((S_X5_at v f (a + (nI i1))) : Int32).toInt64) <<< (((8 * (nI i1)) : Int32).toInt64 &&& 63)))), (0, .ref (ad 1)), (1, .int a), (2, .int (nI N))]) [0, 1, 2, 3, 4] rfl ?_
      have e8 := ih1 (i1 + 1) (by omega)
      rw [L_X5_number] at e8
      try dsimp only at e8
      exact e8
  have e7 := lp1 N 0 (by omega)
  rw [L_X5_number] at e7
  try dsimp only at e7
  exact e7

def L_X5_setNumber (v : Nat → Int32) (f : Nat → Nat → Int32) (a : Int32) (x : Int64) (N : Nat) : Nat → (Nat → Nat → Int32)
  | 0 => f
  | i1 + 1 =>
    (S_X5_set v (L_X5_setNumber v f a x N i1) (a + (nI i1)) ((((((x).toUInt64 >>> (((8 * (nI i1)) : Int32).toInt64.toUInt64 &&& Int64.toUInt64 63)).toInt64) : Int64).toInt32) &&& 255))
def S_X5_setNumber (v : Nat → Int32) (f : Nat → Nat → Int32) (a : Int32) (x : Int64) (N : Nat) : (Nat → Nat → Int32) :=
  (L_X5_setNumber v f a x N N)
set_option maxHeartbeats 1000000 in
set_option maxRecDepth 100000 in
theorem c_X5_setNumber (ε : ET) (ad : Nat → Nat) (v : Nat → Int32) (f : Nat → Nat → Int32) (u : Nat → Int32) (g : Nat → Nat → Int32) (a : Int32) (x : Int64) (N : Nat) (hN : N < 2 ^ 31) : CT ε yX5_setNumber cX5_setNumber 6 none 1 22 0 0 [.ref (ad 1), .int a, .int (nI N), .long x] (WD ε ad v f u g) (DT none (WD ε ad v (S_X5_setNumber v f a x N) u g)) := by
  refine CT.of (own := RX5) (by decide) rfl (Nat.le_of_ble_eq_true rfl) (fun κ C hQ => ?_)
  refine j_iconst (x := 0) C dX5_setNumber_0 (by decide) ?_
  refine j_istore (i := 5) (lv' := [(5, .int 0), (0, .ref (ad 1)), (1, .int a), (2, .int (nI N)), (3, .long x)]) C dX5_setNumber_1 (by decide) rfl ?_
  have hx1 : JW κ 0 0 (WD ε ad v (L_X5_setNumber v f a x N N) u g) 35 [(5, .int (nI N)), (0, .ref (ad 1)), (1, .int a), (2, .int (nI N)), (3, .long x)] [] := by
    have hs : S_X5_setNumber v f a x N = (L_X5_setNumber v f a x N N) := by unfold S_X5_setNumber; rfl
    exact j_vret C hQ rfl dX5_setNumber_35 (dt_nf hs)
  have lp1 : ∀ d1 i1 : Nat, i1 + d1 = N → JW κ 0 0 (WD ε ad v (L_X5_setNumber v f a x N i1) u g) 3 [(5, .int (nI i1)), (0, .ref (ad 1)), (1, .int a), (2, .int (nI N)), (3, .long x)] [] := by
    intro d1
    induction d1 with
    | zero =>
      intro i1 hi
      have e9 : i1 = N := by omega
      rw [e9]
      have lf1 : (nI N) ≤ (nI N) := Int32.le_refl _
      refine j_iload (i := 5) C dX5_setNumber_3 0 rfl ?_
      refine j_iload_n (i := 2) C dX5_setNumber_5 rfl 3 rfl ?_
      refine j_icmp_ge (tgt := 35) C dX5_setNumber_6 (by decide) (fun _ => ?_) (fun c9 => absurd lf1 c9)
      exact hx1
    | succ d1 ih1 =>
      intro i1 hi
      have hlt1 : i1 < N := by omega
      have lf1 : ¬ (nI N) ≤ (nI i1) := nI_ge hlt1 (by omega)
      refine j_iload (i := 5) C dX5_setNumber_3 0 rfl ?_
      refine j_iload_n (i := 2) C dX5_setNumber_5 rfl 3 rfl ?_
      refine j_icmp_ge (tgt := 35) C dX5_setNumber_6 (by decide) (fun c9 => absurd c9 lf1) (fun _ => ?_)
      refine j_aload_n (i := 0) C dX5_setNumber_9 rfl 1 rfl ?_
      refine j_iload_n (i := 1) C dX5_setNumber_10 rfl 2 rfl ?_
      refine j_iload (i := 5) C dX5_setNumber_11 0 rfl ?_
      refine j_iadd C dX5_setNumber_13 ?_
      refine j_lload_n (i := 3) C dX5_setNumber_14 rfl 4 rfl ?_
      refine j_bipush (x := 8) C dX5_setNumber_15 (by decide) ?_
      refine j_iload (i := 5) C dX5_setNumber_17 0 rfl ?_
      refine j_imul C dX5_setNumber_19 ?_
      refine j_lushr C dX5_setNumber_20 ?_
      refine j_l2i C dX5_setNumber_21 ?_
      refine j_sipush (x := 255) C dX5_setNumber_22 (by decide) ?_
      refine j_iand C dX5_setNumber_25 ?_
      refine c_V (As := [.int (a + (nI i1)), .int ((((((x).toUInt64 >>> (((8 * (nI i1)) : Int32).toInt64.toUInt64 &&& Int64.toUInt64 63)).toInt64) : Int64).toInt32) &&& 255)]) (rest := []) (st1 := []) C (c_X5_set ε ad v (L_X5_setNumber v f a x N i1) u g (a + (nI i1)) ((((((x).toUInt64 >>> (((8 * (nI i1)) : Int32).toInt64.toUInt64 &&& Int64.toUInt64 63)).toInt64) : Int64).toInt32) &&& 255)  ) mv_X5_set lm_X5_25 dX5_setNumber_26 1 wl_1 rfl rfl rfl (by decide) (Nat.le_of_ble_eq_true rfl) rfl ?_
      refine j_iinc (y := (nI (i1 + 1))) (lv' := [(5, .int (nI (i1 + 1))), (0, .ref (ad 1)), (1, .int a), (2, .int (nI N)), (3, .long x)]) C dX5_setNumber_29 0 rfl (nI_1 _) (by decide) rfl ?_
      refine j_goto (tgt := 3) C dX5_setNumber_32 (by decide) ?_
      refine j_lv (lv' := [(5, .int (nI (i1 + 1))), (0, .ref (ad 1)), (1, .int a), (2, .int (nI N)), (3, .long x)]) [0, 1, 2, 3, 4] rfl ?_
      have e8 := ih1 (i1 + 1) (by omega)
      rw [L_X5_setNumber] at e8
      try dsimp only at e8
      exact e8
  have e7 := lp1 N 0 (by omega)
  rw [L_X5_setNumber] at e7
  try dsimp only at e7
  exact e7

def Q_X5_setDescriptor_1 (v : Nat → Int32) (f : Nat → Nat → Int32) (a : Int32) (b : Int32) (c : Int32) (d : Int32) (e : Int32) : (Nat → Nat → Int32) := (S_X5_setNumber v f a ((b : Int32).toInt64) 8)
def Q_X5_setDescriptor_2 (v : Nat → Int32) (f : Nat → Nat → Int32) (a : Int32) (b : Int32) (c : Int32) (d : Int32) (e : Int32) : (Nat → Nat → Int32) := (S_X5_setNumber v (Q_X5_setDescriptor_1 v f a b c d e) (a + 8) ((c : Int32).toInt64) 4)
def Q_X5_setDescriptor_3 (v : Nat → Int32) (f : Nat → Nat → Int32) (a : Int32) (b : Int32) (c : Int32) (d : Int32) (e : Int32) : (Nat → Nat → Int32) := (S_X5_setNumber v (Q_X5_setDescriptor_2 v f a b c d e) (a + 12) ((d : Int32).toInt64) 2)
def Q_X5_setDescriptor_4 (v : Nat → Int32) (f : Nat → Nat → Int32) (a : Int32) (b : Int32) (c : Int32) (d : Int32) (e : Int32) : (Nat → Nat → Int32) := (S_X5_setNumber v (Q_X5_setDescriptor_3 v f a b c d e) (a + 14) ((e : Int32).toInt64) 2)
def S_X5_setDescriptor (v : Nat → Int32) (f : Nat → Nat → Int32) (a : Int32) (b : Int32) (c : Int32) (d : Int32) (e : Int32) : (Nat → Nat → Int32) :=
  (Q_X5_setDescriptor_4 v f a b c d e)
set_option maxHeartbeats 1000000 in
set_option maxRecDepth 100000 in
theorem c_X5_setDescriptor (ε : ET) (ad : Nat → Nat) (v : Nat → Int32) (f : Nat → Nat → Int32) (u : Nat → Int32) (g : Nat → Nat → Int32) (a : Int32) (b : Int32) (c : Int32) (d : Int32) (e : Int32)  : CT ε yX5_setDescriptor cX5_setDescriptor 6 none 2 47 0 0 [.ref (ad 1), .int a, .int b, .int c, .int d, .int e] (WD ε ad v f u g) (DT none (WD ε ad v (S_X5_setDescriptor v f a b c d e) u g)) := by
  refine CT.of (own := RX5) (by decide) rfl (Nat.le_of_ble_eq_true rfl) (fun κ C hQ => ?_)
  refine j_aload_n (i := 0) C dX5_setDescriptor_0 rfl 0 rfl ?_
  refine j_iload_n (i := 1) C dX5_setDescriptor_1 rfl 1 rfl ?_
  refine j_bipush (x := 8) C dX5_setDescriptor_2 (by decide) ?_
  refine j_iload_n (i := 2) C dX5_setDescriptor_4 rfl 2 rfl ?_
  refine j_i2l C dX5_setDescriptor_5 ?_
  refine c_V (As := [.int a, .int 8, .long ((b : Int32).toInt64)]) (rest := []) (st1 := []) (ω1 := (WD ε ad v (Q_X5_setDescriptor_1 v f a b c d e) u g)) C (c_X5_setNumber ε ad v f u g a ((b : Int32).toInt64) 8  (by first | assumption | omega | decide)) mv_X5_setNumber lm_X5_29 dX5_setDescriptor_6 1 wl_1 rfl rfl rfl (by decide) (Nat.le_of_ble_eq_true rfl) rfl ?_
  refine j_aload_n (i := 0) C dX5_setDescriptor_9 rfl 0 rfl ?_
  refine j_iload_n (i := 1) C dX5_setDescriptor_10 rfl 1 rfl ?_
  refine j_bipush (x := 8) C dX5_setDescriptor_11 (by decide) ?_
  refine j_iadd C dX5_setDescriptor_13 ?_
  refine j_iconst (x := 4) C dX5_setDescriptor_14 (by decide) ?_
  refine j_iload_n (i := 3) C dX5_setDescriptor_15 rfl 3 rfl ?_
  refine j_i2l C dX5_setDescriptor_16 ?_
  refine c_V (As := [.int (a + 8), .int 4, .long ((c : Int32).toInt64)]) (rest := []) (st1 := []) (ω1 := (WD ε ad v (Q_X5_setDescriptor_2 v f a b c d e) u g)) C (c_X5_setNumber ε ad v (Q_X5_setDescriptor_1 v f a b c d e) u g (a + 8) ((c : Int32).toInt64) 4  (by first | assumption | omega | decide)) mv_X5_setNumber lm_X5_29 dX5_setDescriptor_17 1 wl_1 rfl rfl rfl (by decide) (Nat.le_of_ble_eq_true rfl) rfl ?_
  refine j_aload_n (i := 0) C dX5_setDescriptor_20 rfl 0 rfl ?_
  refine j_iload_n (i := 1) C dX5_setDescriptor_21 rfl 1 rfl ?_
  refine j_bipush (x := 12) C dX5_setDescriptor_22 (by decide) ?_
  refine j_iadd C dX5_setDescriptor_24 ?_
  refine j_iconst (x := 2) C dX5_setDescriptor_25 (by decide) ?_
  refine j_iload (i := 4) C dX5_setDescriptor_26 4 rfl ?_
  refine j_i2l C dX5_setDescriptor_28 ?_
  refine c_V (As := [.int (a + 12), .int 2, .long ((d : Int32).toInt64)]) (rest := []) (st1 := []) (ω1 := (WD ε ad v (Q_X5_setDescriptor_3 v f a b c d e) u g)) C (c_X5_setNumber ε ad v (Q_X5_setDescriptor_2 v f a b c d e) u g (a + 12) ((d : Int32).toInt64) 2  (by first | assumption | omega | decide)) mv_X5_setNumber lm_X5_29 dX5_setDescriptor_29 1 wl_1 rfl rfl rfl (by decide) (Nat.le_of_ble_eq_true rfl) rfl ?_
  refine j_aload_n (i := 0) C dX5_setDescriptor_32 rfl 0 rfl ?_
  refine j_iload_n (i := 1) C dX5_setDescriptor_33 rfl 1 rfl ?_
  refine j_bipush (x := 14) C dX5_setDescriptor_34 (by decide) ?_
  refine j_iadd C dX5_setDescriptor_36 ?_
  refine j_iconst (x := 2) C dX5_setDescriptor_37 (by decide) ?_
  refine j_iload (i := 5) C dX5_setDescriptor_38 5 rfl ?_
  refine j_i2l C dX5_setDescriptor_40 ?_
  refine c_V (As := [.int (a + 14), .int 2, .long ((e : Int32).toInt64)]) (rest := []) (st1 := []) (ω1 := (WD ε ad v (Q_X5_setDescriptor_4 v f a b c d e) u g)) C (c_X5_setNumber ε ad v (Q_X5_setDescriptor_3 v f a b c d e) u g (a + 14) ((e : Int32).toInt64) 2  (by first | assumption | omega | decide)) mv_X5_setNumber lm_X5_29 dX5_setDescriptor_41 1 wl_1 rfl rfl rfl (by decide) (Nat.le_of_ble_eq_true rfl) rfl ?_
  have hs : S_X5_setDescriptor v f a b c d e = (Q_X5_setDescriptor_4 v f a b c d e) := by unfold S_X5_setDescriptor; rfl
  exact j_vret C hQ rfl dX5_setDescriptor_44 (dt_nf hs)

