theorem vp_nn {i N : Nat} (h : i < N) (hN : N < 2 ^ 31) : vp_in (nI i) N := vp_in_nI h hN
def S_J6_bitCount_0f7a4 (v : Nat → Int32) (f : Nat → Nat → Int32) (a : Int32) : Int32 :=
  ((((((((a - ((((a).toUInt32 >>> ((1 : Int32).toUInt32 &&& Int32.toUInt32 31)).toInt32) &&& 1431655765)) &&& 858993459) + (((((a - ((((a).toUInt32 >>> ((1 : Int32).toUInt32 &&& Int32.toUInt32 31)).toInt32) &&& 1431655765))).toUInt32 >>> ((2 : Int32).toUInt32 &&& Int32.toUInt32 31)).toInt32) &&& 858993459)) + ((((((a - ((((a).toUInt32 >>> ((1 : Int32).toUInt32 &&& Int32.toUInt32 31)).toInt32) &&& 1431655765)) &&& 858993459) + (((((a - ((((a).toUInt32 >>> ((1 : Int32).toUInt32 &&& Int32.toUInt32 31)).toInt32) &&& 1431655765))).toUInt32 >>> ((2 : Int32).toUInt32 &&& Int32.toUInt32 31)).toInt32) &&& 858993459))).toUInt32 >>> ((4 : Int32).toUInt32 &&& Int32.toUInt32 31)).toInt32)) &&& 252645135) + ((((((((a - ((((a).toUInt32 >>> ((1 : Int32).toUInt32 &&& Int32.toUInt32 31)).toInt32) &&& 1431655765)) &&& 858993459) + (((((a - ((((a).toUInt32 >>> ((1 : Int32).toUInt32 &&& Int32.toUInt32 31)).toInt32) &&& 1431655765))).toUInt32 >>> ((2 : Int32).toUInt32 &&& Int32.toUInt32 31)).toInt32) &&& 858993459)) + ((((((a - ((((a).toUInt32 >>> ((1 : Int32).toUInt32 &&& Int32.toUInt32 31)).toInt32) &&& 1431655765)) &&& 858993459) + (((((a - ((((a).toUInt32 >>> ((1 : Int32).toUInt32 &&& Int32.toUInt32 31)).toInt32) &&& 1431655765))).toUInt32 >>> ((2 : Int32).toUInt32 &&& Int32.toUInt32 31)).toInt32) &&& 858993459))).toUInt32 >>> ((4 : Int32).toUInt32 &&& Int32.toUInt32 31)).toInt32)) &&& 252645135)).toUInt32 >>> ((8 : Int32).toUInt32 &&& Int32.toUInt32 31)).toInt32)) + (((((((((a - ((((a).toUInt32 >>> ((1 : Int32).toUInt32 &&& Int32.toUInt32 31)).toInt32) &&& 1431655765)) &&& 858993459) + (((((a - ((((a).toUInt32 >>> ((1 : Int32).toUInt32 &&& Int32.toUInt32 31)).toInt32) &&& 1431655765))).toUInt32 >>> ((2 : Int32).toUInt32 &&& Int32.toUInt32 31)).toInt32) &&& 858993459)) + ((((((a - ((((a).toUInt32 >>> ((1 : Int32).toUInt32 &&& Int32.toUInt32 31)).toInt32) &&& 1431655765)) &&& 858993459) + (((((a - ((((a).toUInt32 >>> ((1 : Int32).toUInt32 &&& Int32.toUInt32 31)).toInt32) &&& 1431655765))).toUInt32 >>> ((2 : Int32).toUInt32 &&& Int32.toUInt32 31)).toInt32) &&& 858993459))).toUInt32 >>> ((4 : Int32).toUInt32 &&& Int32.toUInt32 31)).toInt32)) &&& 252645135) + ((((((((a - ((((a).toUInt32 >>> ((1 : Int32).toUInt32 &&& Int32.toUInt32 31)).toInt32) &&& 1431655765)) &&& 858993459) + (((((a - ((((a).toUInt32 >>> ((1 : Int32).toUInt32 &&& Int32.toUInt32 31)).toInt32) &&& 1431655765))).toUInt32 >>> ((2 : Int32).toUInt32 &&& Int32.toUInt32 31)).toInt32) &&& 858993459)) + ((((((a - ((((a).toUInt32 >>> ((1 : Int32).toUInt32 &&& Int32.toUInt32 31)).toInt32) &&& 1431655765)) &&& 858993459) + (((((a - ((((a).toUInt32 >>> ((1 : Int32).toUInt32 &&& Int32.toUInt32 31)).toInt32) &&& 1431655765))).toUInt32 >>> ((2 : Int32).toUInt32 &&& Int32.toUInt32 31)).toInt32) &&& 858993459))).toUInt32 >>> ((4 : Int32).toUInt32 &&& Int32.toUInt32 31)).toInt32)) &&& 252645135)).toUInt32 >>> ((8 : Int32).toUInt32 &&& Int32.toUInt32 31)).toInt32))).toUInt32 >>> ((16 : Int32).toUInt32 &&& Int32.toUInt32 31)).toInt32)) &&& 63)
set_option maxHeartbeats 1000000 in
set_option maxRecDepth 100000 in
theorem c_J6_bitCount_0f7a4 (ε : ET) (ad : Nat → Nat) (v : Nat → Int32) (f : Nat → Nat → Int32) (u : Nat → Int32) (g : Nat → Nat → Int32) (a : Int32)  : CT ε yJ6_bitCount_0f7a4 cJ6_bitCount_0f7a4 1 (some .int) 0 0 0 0 [.int a] (WD ε ad v f u g) (DT (some (.int (S_J6_bitCount_0f7a4 v f a))) (WD ε ad v f u g)) := by
  refine CT.of (own := RJ6) (by decide) rfl (Nat.le_of_ble_eq_true rfl) (fun κ C hQ => ?_)
  refine j_iload_n (i := 0) C dJ6_bitCount_0f7a4_0 rfl 0 rfl ?_
  refine j_iload_n (i := 0) C dJ6_bitCount_0f7a4_1 rfl 0 rfl ?_
  refine j_iconst (x := 1) C dJ6_bitCount_0f7a4_2 (by decide) ?_
  refine j_iushr C dJ6_bitCount_0f7a4_3 ?_
  refine j_ldcw C dJ6_bitCount_0f7a4_4 li_J6_265 ?_
  refine j_iand C dJ6_bitCount_0f7a4_7 ?_
  refine j_isub C dJ6_bitCount_0f7a4_8 ?_
  refine j_istore_n (i := 0) (lv' := [(0, .int (a - ((((a).toUInt32 >>> ((1 : Int32).toUInt32 &&& Int32.toUInt32 31)).toInt32) &&& 1431655765)))]) C dJ6_bitCount_0f7a4_9 rfl (by decide) rfl ?_
  refine j_iload_n (i := 0) C dJ6_bitCount_0f7a4_10 rfl 0 rfl ?_
  refine j_ldcw C dJ6_bitCount_0f7a4_11 li_J6_266 ?_
  refine j_iand C dJ6_bitCount_0f7a4_14 ?_
  refine j_iload_n (i := 0) C dJ6_bitCount_0f7a4_15 rfl 0 rfl ?_
  refine j_iconst (x := 2) C dJ6_bitCount_0f7a4_16 (by decide) ?_
  refine j_iushr C dJ6_bitCount_0f7a4_17 ?_
  refine j_ldcw C dJ6_bitCount_0f7a4_18 li_J6_266 ?_
  refine j_iand C dJ6_bitCount_0f7a4_21 ?_
  refine j_iadd C dJ6_bitCount_0f7a4_22 ?_
  refine j_istore_n (i := 0) (lv' := [(0, .int (((a - ((((a).toUInt32 >>> ((1 : Int32).toUInt32 &&& Int32.toUInt32 31)).toInt32) &&& 1431655765)) &&& 858993459) + (((((a - ((((a).toUInt32 >>> ((1 : Int32).toUInt32 &&& Int32.toUInt32 31)).toInt32) &&& 1431655765))).toUInt32 >>> ((2 : Int32).toUInt32 &&& Int32.toUInt32 31)).toInt32) &&& 858993459)))]) C dJ6_bitCount_0f7a4_23 rfl (by decide) rfl ?_
  refine j_iload_n (i := 0) C dJ6_bitCount_0f7a4_24 rfl 0 rfl ?_
  refine j_iload_n (i := 0) C dJ6_bitCount_0f7a4_25 rfl 0 rfl ?_
  refine j_iconst (x := 4) C dJ6_bitCount_0f7a4_26 (by decide) ?_
  refine j_iushr C dJ6_bitCount_0f7a4_27 ?_
  refine j_iadd C dJ6_bitCount_0f7a4_28 ?_
  refine j_ldcw C dJ6_bitCount_0f7a4_29 li_J6_267 ?_
  refine j_iand C dJ6_bitCount_0f7a4_32 ?_
  refine j_istore_n (i := 0) (lv' := [(0, .int (((((a - ((((a).toUInt32 >>> ((1 : Int32).toUInt32 &&& Int32.toUInt32 31)).toInt32) &&& 1431655765)) &&& 858993459) + (((((a - ((((a).toUInt32 >>> ((1 : Int32).toUInt32 &&& Int32.toUInt32 31)).toInt32) &&& 1431655765))).toUInt32 >>> ((2 : Int32).toUInt32 &&& Int32.toUInt32 31)).toInt32) &&& 858993459)) + ((((((a - ((((a).toUInt32 >>> ((1 : Int32).toUInt32 &&& Int32.toUInt32 31)).toInt32) &&& 1431655765)) &&& 858993459) + (((((a - ((((a).toUInt32 >>> ((1 : Int32).toUInt32 &&& Int32.toUInt32 31)).toInt32) &&& 1431655765))).toUInt32 >>> ((2 : Int32).toUInt32 &&& Int32.toUInt32 31)).toInt32) &&& 858993459))).toUInt32 >>> ((4 : Int32).toUInt32 &&& Int32.toUInt32 31)).toInt32)) &&& 252645135))]) C dJ6_bitCount_0f7a4_33 rfl (by decide) rfl ?_
  refine j_iload_n (i := 0) C dJ6_bitCount_0f7a4_34 rfl 0 rfl ?_
  refine j_iload_n (i := 0) C dJ6_bitCount_0f7a4_35 rfl 0 rfl ?_
  refine j_bipush (x := 8) C dJ6_bitCount_0f7a4_36 (by decide) ?_
  refine j_iushr C dJ6_bitCount_0f7a4_38 ?_
  refine j_iadd C dJ6_bitCount_0f7a4_39 ?_
  refine j_istore_n (i := 0) (lv' := [(0, .int ((((((a - ((((a).toUInt32 >>> ((1 : Int32).toUInt32 &&& Int32.toUInt32 31)).toInt32) &&& 1431655765)) &&& 858993459) + (((((a - ((((a).toUInt32 >>> ((1 : Int32).toUInt32 &&& Int32.toUInt32 31)).toInt32) &&& 1431655765))).toUInt32 >>> ((2 : Int32).toUInt32 &&& Int32.toUInt32 31)).toInt32) &&& 858993459)) + ((((((a - ((((a).toUInt32 >>> ((1 : Int32).toUInt32 &&& Int32.toUInt32 31)).toInt32) &&& 1431655765)) &&& 858993459) + (((((a - ((((a).toUInt32 >>> ((1 : Int32).toUInt32 &&& Int32.toUInt32 31)).toInt32) &&& 1431655765))).toUInt32 >>> ((2 : Int32).toUInt32 &&& Int32.toUInt32 31)).toInt32) &&& 858993459))).toUInt32 >>> ((4 : Int32).toUInt32 &&& Int32.toUInt32 31)).toInt32)) &&& 252645135) + ((((((((a - ((((a).toUInt32 >>> ((1 : Int32).toUInt32 &&& Int32.toUInt32 31)).toInt32) &&& 1431655765)) &&& 858993459) + (((((a - ((((a).toUInt32 >>> ((1 : Int32).toUInt32 &&& Int32.toUInt32 31)).toInt32) &&& 1431655765))).toUInt32 >>> ((2 : Int32).toUInt32 &&& Int32.toUInt32 31)).toInt32) &&& 858993459)) + ((((((a - ((((a).toUInt32 >>> ((1 : Int32).toUInt32 &&& Int32.toUInt32 31)).toInt32) &&& 1431655765)) &&& 858993459) + (((((a - ((((a).toUInt32 >>> ((1 : Int32).toUInt32 &&& Int32.toUInt32 31)).toInt32) &&& 1431655765))).toUInt32 >>> ((2 : Int32).toUInt32 &&& Int32.toUInt32 31)).toInt32) &&& 858993459))).toUInt32 >>> ((4 : Int32).toUInt32 &&& Int32.toUInt32 31)).toInt32)) &&& 252645135)).toUInt32 >>> ((8 : Int32).toUInt32 &&& Int32.toUInt32 31)).toInt32)))]) C dJ6_bitCount_0f7a4_40 rfl (by decide) rfl ?_
  refine j_iload_n (i := 0) C dJ6_bitCount_0f7a4_41 rfl 0 rfl ?_
  refine j_iload_n (i := 0) C dJ6_bitCount_0f7a4_42 rfl 0 rfl ?_
  refine j_bipush (x := 16) C dJ6_bitCount_0f7a4_43 (by decide) ?_
  refine j_iushr C dJ6_bitCount_0f7a4_45 ?_
  refine j_iadd C dJ6_bitCount_0f7a4_46 ?_
  refine j_istore_n (i := 0) (lv' := [(0, .int (((((((a - ((((a).toUInt32 >>> ((1 : Int32).toUInt32 &&& Int32.toUInt32 31)).toInt32) &&& 1431655765)) &&& 858993459) + (((((a - ((((a).toUInt32 >>> ((1 : Int32).toUInt32 &&& Int32.toUInt32 31)).toInt32) &&& 1431655765))).toUInt32 >>> ((2 : Int32).toUInt32 &&& Int32.toUInt32 31)).toInt32) &&& 858993459)) + ((((((a - ((((a).toUInt32 >>> ((1 : Int32).toUInt32 &&& Int32.toUInt32 31)).toInt32) &&& 1431655765)) &&& 858993459) + (((((a - ((((a).toUInt32 >>> ((1 : Int32).toUInt32 &&& Int32.toUInt32 31)).toInt32) &&& 1431655765))).toUInt32 >>> ((2 : Int32).toUInt32 &&& Int32.toUInt32 31)).toInt32) &&& 858993459))).toUInt32 >>> ((4 : Int32).toUInt32 &&& Int32.toUInt32 31)).toInt32)) &&& 252645135) + ((((((((a - ((((a).toUInt32 >>> ((1 : Int32).toUInt32 &&& Int32.toUInt32 31)).toInt32) &&& 1431655765)) &&& 858993459) + (((((a - ((((a).toUInt32 >>> ((1 : Int32).toUInt32 &&& Int32.toUInt32 31)).toInt32) &&& 1431655765))).toUInt32 >>> ((2 : Int32).toUInt32 &&& Int32.toUInt32 31)).toInt32) &&& 858993459)) + ((((((a - ((((a).toUInt32 >>> ((1 : Int32).toUInt32 &&& Int32.toUInt32 31)).toInt32) &&& 1431655765)) &&& 858993459) + (((((a - ((((a).toUInt32 >>> ((1 : Int32).toUInt32 &&& Int32.toUInt32 31)).toInt32) &&& 1431655765))).toUInt32 >>> ((2 : Int32).toUInt32 &&& Int32.toUInt32 31)).toInt32) &&& 858993459))).toUInt32 >>> ((4 : Int32).toUInt32 &&& Int32.toUInt32 31)).toInt32)) &&& 252645135)).toUInt32 >>> ((8 : Int32).toUInt32 &&& Int32.toUInt32 31)).toInt32)) + (((((((((a - ((((a).toUInt32 >>> ((1 : Int32).toUInt32 &&& Int32.toUInt32 31)).toInt32) &&& 1431655765)) &&& 858993459) + (((((a - ((((a).toUInt32 >>> ((1 : Int32).toUInt32 &&& Int32.toUInt32 31)).toInt32) &&& 1431655765))).toUInt32 >>> ((2 : Int32).toUInt32 &&& Int32.toUInt32 31)).toInt32) &&& 858993459)) + ((((((a - ((((a).toUInt32 >>> ((1 : Int32).toUInt32 &&& Int32.toUInt32 31)).toInt32) &&& 1431655765)) &&& 858993459) + (((((a - ((((a).toUInt32 >>> ((1 : Int32).toUInt32 &&& Int32.toUInt32 31)).toInt32) &&& 1431655765))).toUInt32 >>> ((2 : Int32).toUInt32 &&& Int32.toUInt32 31)).toInt32) &&& 858993459))).toUInt32 >>> ((4 : Int32).toUInt32 &&& Int32.toUInt32 31)).toInt32)) &&& 252645135) + ((((((((a - ((((a).toUInt32 >>> ((1 : Int32).toUInt32 &&& Int32.toUInt32 31)).toInt32) &&& 1431655765)) &&& 858993459) + (((((a - ((((a).toUInt32 >>> ((1 : Int32).toUInt32 &&& Int32.toUInt32 31)).toInt32) &&& 1431655765))).toUInt32 >>> ((2 : Int32).toUInt32 &&& Int32.toUInt32 31)).toInt32) &&& 858993459)) + ((((((a - ((((a).toUInt32 >>> ((1 : Int32).toUInt32 &&& Int32.toUInt32 31)).toInt32) &&& 1431655765)) &&& 858993459) + (((((a - ((((a).toUInt32 >>> ((1 : Int32).toUInt32 &&& Int32.toUInt32 31)).toInt32) &&& 1431655765))).toUInt32 >>> ((2 : Int32).toUInt32 &&& Int32.toUInt32 31)).toInt32) &&& 858993459))).toUInt32 >>> ((4 : Int32).toUInt32 &&& Int32.toUInt32 31)).toInt32)) &&& 252645135)).toUInt32 >>> ((8 : Int32).toUInt32 &&& Int32.toUInt32 31)).toInt32))).toUInt32 >>> ((16 : Int32).toUInt32 &&& Int32.toUInt32 31)).toInt32)))]) C dJ6_bitCount_0f7a4_47 rfl (by decide) rfl ?_
  refine j_iload_n (i := 0) C dJ6_bitCount_0f7a4_48 rfl 0 rfl ?_
  refine j_bipush (x := 63) C dJ6_bitCount_0f7a4_49 (by decide) ?_
  refine j_iand C dJ6_bitCount_0f7a4_51 ?_
  have hs : S_J6_bitCount_0f7a4 v f a = ((((((((a - ((((a).toUInt32 >>> ((1 : Int32).toUInt32 &&& Int32.toUInt32 31)).toInt32) &&& 1431655765)) &&& 858993459) + (((((a - ((((a).toUInt32 >>> ((1 : Int32).toUInt32 &&& Int32.toUInt32 31)).toInt32) &&& 1431655765))).toUInt32 >>> ((2 : Int32).toUInt32 &&& Int32.toUInt32 31)).toInt32) &&& 858993459)) + ((((((a - ((((a).toUInt32 >>> ((1 : Int32).toUInt32 &&& Int32.toUInt32 31)).toInt32) &&& 1431655765)) &&& 858993459) + (((((a - ((((a).toUInt32 >>> ((1 : Int32).toUInt32 &&& Int32.toUInt32 31)).toInt32) &&& 1431655765))).toUInt32 >>> ((2 : Int32).toUInt32 &&& Int32.toUInt32 31)).toInt32) &&& 858993459))).toUInt32 >>> ((4 : Int32).toUInt32 &&& Int32.toUInt32 31)).toInt32)) &&& 252645135) + ((((((((a - ((((a).toUInt32 >>> ((1 : Int32).toUInt32 &&& Int32.toUInt32 31)).toInt32) &&& 1431655765)) &&& 858993459) + (((((a - ((((a).toUInt32 >>> ((1 : Int32).toUInt32 &&& Int32.toUInt32 31)).toInt32) &&& 1431655765))).toUInt32 >>> ((2 : Int32).toUInt32 &&& Int32.toUInt32 31)).toInt32) &&& 858993459)) + ((((((a - ((((a).toUInt32 >>> ((1 : Int32).toUInt32 &&& Int32.toUInt32 31)).toInt32) &&& 1431655765)) &&& 858993459) + (((((a - ((((a).toUInt32 >>> ((1 : Int32).toUInt32 &&& Int32.toUInt32 31)).toInt32) &&& 1431655765))).toUInt32 >>> ((2 : Int32).toUInt32 &&& Int32.toUInt32 31)).toInt32) &&& 858993459))).toUInt32 >>> ((4 : Int32).toUInt32 &&& Int32.toUInt32 31)).toInt32)) &&& 252645135)).toUInt32 >>> ((8 : Int32).toUInt32 &&& Int32.toUInt32 31)).toInt32)) + (((((((((a - ((((a).toUInt32 >>> ((1 : Int32).toUInt32 &&& Int32.toUInt32 31)).toInt32) &&& 1431655765)) &&& 858993459) + (((((a - ((((a).toUInt32 >>> ((1 : Int32).toUInt32 &&& Int32.toUInt32 31)).toInt32) &&& 1431655765))).toUInt32 >>> ((2 : Int32).toUInt32 &&& Int32.toUInt32 31)).toInt32) &&& 858993459)) + ((((((a - ((((a).toUInt32 >>> ((1 : Int32).toUInt32 &&& Int32.toUInt32 31)).toInt32) &&& 1431655765)) &&& 858993459) + (((((a - ((((a).toUInt32 >>> ((1 : Int32).toUInt32 &&& Int32.toUInt32 31)).toInt32) &&& 1431655765))).toUInt32 >>> ((2 : Int32).toUInt32 &&& Int32.toUInt32 31)).toInt32) &&& 858993459))).toUInt32 >>> ((4 : Int32).toUInt32 &&& Int32.toUInt32 31)).toInt32)) &&& 252645135) + ((((((((a - ((((a).toUInt32 >>> ((1 : Int32).toUInt32 &&& Int32.toUInt32 31)).toInt32) &&& 1431655765)) &&& 858993459) + (((((a - ((((a).toUInt32 >>> ((1 : Int32).toUInt32 &&& Int32.toUInt32 31)).toInt32) &&& 1431655765))).toUInt32 >>> ((2 : Int32).toUInt32 &&& Int32.toUInt32 31)).toInt32) &&& 858993459)) + ((((((a - ((((a).toUInt32 >>> ((1 : Int32).toUInt32 &&& Int32.toUInt32 31)).toInt32) &&& 1431655765)) &&& 858993459) + (((((a - ((((a).toUInt32 >>> ((1 : Int32).toUInt32 &&& Int32.toUInt32 31)).toInt32) &&& 1431655765))).toUInt32 >>> ((2 : Int32).toUInt32 &&& Int32.toUInt32 31)).toInt32) &&& 858993459))).toUInt32 >>> ((4 : Int32).toUInt32 &&& Int32.toUInt32 31)).toInt32)) &&& 252645135)).toUInt32 >>> ((8 : Int32).toUInt32 &&& Int32.toUInt32 31)).toInt32))).toUInt32 >>> ((16 : Int32).toUInt32 &&& Int32.toUInt32 31)).toInt32)) &&& 63) := by unfold S_J6_bitCount_0f7a4; rfl
  exact j_iret C hQ rfl dJ6_bitCount_0f7a4_52 (dt_i hs)

def L_J7_fillB2 (v : Nat → Int32) (f : Nat → Nat → Int32) (b : Int32) : Nat → (Nat → Nat → Int32)
  | 0 => f
  | i1 + 1 =>
    (va_up (L_J7_fillB2 v f b i1) 2 (upd ((L_J7_fillB2 v f b i1) 2) ((nI i1)).toNatClampNeg (vp_nar .byte b)))
def S_J7_fillB2 (v : Nat → Int32) (f : Nat → Nat → Int32) (b : Int32) : (Nat → Nat → Int32) :=
  (L_J7_fillB2 v f b 4096)
set_option maxHeartbeats 1000000 in
set_option maxRecDepth 100000 in
theorem c_J7_fillB2 (ε : ET) (ad : Nat → Nat) (v : Nat → Int32) (f : Nat → Nat → Int32) (u : Nat → Int32) (g : Nat → Nat → Int32) (b : Int32)  : CT ε yJ7_fill_031fb cJ7_fill_031fb 4 none 0 0 0 0 [.ref (ad 2), .int b] (WD ε ad v f u g) (DT none (WD ε ad v (S_J7_fillB2 v f b) u g)) := by
  refine CT.of (own := RJ7) (by decide) rfl (Nat.le_of_ble_eq_true rfl) (fun κ C hQ => ?_)
  refine j_iconst (x := 0) C dJ7_fill_031fb_0 (by decide) ?_
  refine j_istore_n (i := 2) (lv' := [(2, .int 0), (0, .ref (ad 2)), (1, .int b)]) C dJ7_fill_031fb_1 rfl (by decide) rfl ?_
  refine j_aload_n (i := 0) C dJ7_fill_031fb_2 rfl 1 rfl ?_
  refine an_2 C dJ7_fill_031fb_3 ?_
  refine j_istore_n (i := 3) (lv' := [(3, .int 4096), (2, .int 0), (0, .ref (ad 2)), (1, .int b)]) C dJ7_fill_031fb_4 rfl (by decide) rfl ?_
  have hx1 : JW κ 0 0 (WD ε ad v (L_J7_fillB2 v f b 4096) u g) 20 [(3, .int 4096), (2, .int (nI 4096)), (0, .ref (ad 2)), (1, .int b)] [] := by
    have hs : S_J7_fillB2 v f b = (L_J7_fillB2 v f b 4096) := by unfold S_J7_fillB2; rfl
    exact j_vret C hQ rfl dJ7_fill_031fb_20 (dt_nf hs)
  have lp1 : ∀ d1 i1 : Nat, i1 + d1 = 4096 → JW κ 0 0 (WD ε ad v (L_J7_fillB2 v f b i1) u g) 5 [(3, .int 4096), (2, .int (nI i1)), (0, .ref (ad 2)), (1, .int b)] [] := by
    intro d1
    induction d1 with
    | zero =>
      intro i1 hi
      have e9 : i1 = 4096 := by omega
      rw [e9]
      have lf1 : 4096 ≤ (nI 4096) := Int32.le_refl _
      refine j_iload_n (i := 2) C dJ7_fill_031fb_5 rfl 1 rfl ?_
      refine j_iload_n (i := 3) C dJ7_fill_031fb_6 rfl 0 rfl ?_
      refine j_icmp_ge (tgt := 20) C dJ7_fill_031fb_7 (by decide) (fun _ => ?_) (fun c9 => absurd lf1 c9)
      exact hx1
    | succ d1 ih1 =>
      intro i1 hi
      have hlt1 : i1 < 4096 := by omega
      have lf1 : ¬ 4096 ≤ (nI i1) := nI_ge (b := 4096) hlt1 (by decide)
      refine j_iload_n (i := 2) C dJ7_fill_031fb_5 rfl 1 rfl ?_
      refine j_iload_n (i := 3) C dJ7_fill_031fb_6 rfl 0 rfl ?_
      refine j_icmp_ge (tgt := 20) C dJ7_fill_031fb_7 (by decide) (fun c9 => absurd c9 lf1) (fun _ => ?_)
      refine j_aload_n (i := 0) C dJ7_fill_031fb_10 rfl 2 rfl ?_
      refine j_iload_n (i := 2) C dJ7_fill_031fb_11 rfl 1 rfl ?_
      refine j_iload_n (i := 1) C dJ7_fill_031fb_12 rfl 3 rfl ?_
      refine as_2 (F2 := ((L_J7_fillB2 v f b i1) 2)) (F := (upd ((L_J7_fillB2 v f b i1) 2) ((nI i1)).toNatClampNeg (vp_nar .byte b))) C dJ7_fill_031fb_13 (vp_in_nI hlt1 (by decide)) rfl rfl ?_
      refine j_iinc (y := (nI (i1 + 1))) (lv' := [(2, .int (nI (i1 + 1))), (3, .int 4096), (0, .ref (ad 2)), (1, .int b)]) C dJ7_fill_031fb_14 1 rfl (nI_1 _) (by decide) rfl ?_
      refine j_goto (tgt := 5) C dJ7_fill_031fb_17 (by decide) ?_
      refine j_lv (lv' := [(3, .int 4096), (2, .int (nI (i1 + 1))), (0, .ref (ad 2)), (1, .int b)]) [1, 0, 2, 3] rfl ?_
      have e8 := ih1 (i1 + 1) (by omega)
      rw [L_J7_fillB2] at e8
      try dsimp only at e8
      exact e8
  have e7 := lp1 4096 0 (by omega)
  rw [L_J7_fillB2] at e7
  try dsimp only at e7
  exact e7

def L_J7_fillI17 (v : Nat → Int32) (f : Nat → Nat → Int32) (b : Int32) : Nat → (Nat → Nat → Int32)
  | 0 => f
  | i1 + 1 =>
    (va_up (L_J7_fillI17 v f b i1) 17 (upd ((L_J7_fillI17 v f b i1) 17) ((nI i1)).toNatClampNeg b))
def S_J7_fillI17 (v : Nat → Int32) (f : Nat → Nat → Int32) (b : Int32) : (Nat → Nat → Int32) :=
  (L_J7_fillI17 v f b 8)
set_option maxHeartbeats 1000000 in
set_option maxRecDepth 100000 in
theorem c_J7_fillI17 (ε : ET) (ad : Nat → Nat) (v : Nat → Int32) (f : Nat → Nat → Int32) (u : Nat → Int32) (g : Nat → Nat → Int32) (b : Int32)  : CT ε yJ7_fill_53178 cJ7_fill_53178 4 none 0 0 0 0 [.ref (ad 17), .int b] (WD ε ad v f u g) (DT none (WD ε ad v (S_J7_fillI17 v f b) u g)) := by
  refine CT.of (own := RJ7) (by decide) rfl (Nat.le_of_ble_eq_true rfl) (fun κ C hQ => ?_)
  refine j_iconst (x := 0) C dJ7_fill_53178_0 (by decide) ?_
  refine j_istore_n (i := 2) (lv' := [(2, .int 0), (0, .ref (ad 17)), (1, .int b)]) C dJ7_fill_53178_1 rfl (by decide) rfl ?_
  refine j_aload_n (i := 0) C dJ7_fill_53178_2 rfl 1 rfl ?_
  refine an_17 C dJ7_fill_53178_3 ?_
  refine j_istore_n (i := 3) (lv' := [(3, .int 8), (2, .int 0), (0, .ref (ad 17)), (1, .int b)]) C dJ7_fill_53178_4 rfl (by decide) rfl ?_
  have hx1 : JW κ 0 0 (WD ε ad v (L_J7_fillI17 v f b 8) u g) 20 [(3, .int 8), (2, .int (nI 8)), (0, .ref (ad 17)), (1, .int b)] [] := by
    have hs : S_J7_fillI17 v f b = (L_J7_fillI17 v f b 8) := by unfold S_J7_fillI17; rfl
    exact j_vret C hQ rfl dJ7_fill_53178_20 (dt_nf hs)
  have lp1 : ∀ d1 i1 : Nat, i1 + d1 = 8 → JW κ 0 0 (WD ε ad v (L_J7_fillI17 v f b i1) u g) 5 [(3, .int 8), (2, .int (nI i1)), (0, .ref (ad 17)), (1, .int b)] [] := by
    intro d1
    induction d1 with
    | zero =>
      intro i1 hi
      have e9 : i1 = 8 := by omega
      rw [e9]
      have lf1 : 8 ≤ (nI 8) := Int32.le_refl _
      refine j_iload_n (i := 2) C dJ7_fill_53178_5 rfl 1 rfl ?_
      refine j_iload_n (i := 3) C dJ7_fill_53178_6 rfl 0 rfl ?_
      refine j_icmp_ge (tgt := 20) C dJ7_fill_53178_7 (by decide) (fun _ => ?_) (fun c9 => absurd lf1 c9)
      exact hx1
    | succ d1 ih1 =>
      intro i1 hi
      have hlt1 : i1 < 8 := by omega
      have lf1 : ¬ 8 ≤ (nI i1) := nI_ge (b := 8) hlt1 (by decide)
      refine j_iload_n (i := 2) C dJ7_fill_53178_5 rfl 1 rfl ?_
      refine j_iload_n (i := 3) C dJ7_fill_53178_6 rfl 0 rfl ?_
      refine j_icmp_ge (tgt := 20) C dJ7_fill_53178_7 (by decide) (fun c9 => absurd c9 lf1) (fun _ => ?_)
      refine j_aload_n (i := 0) C dJ7_fill_53178_10 rfl 2 rfl ?_
      refine j_iload_n (i := 2) C dJ7_fill_53178_11 rfl 1 rfl ?_
      refine j_iload_n (i := 1) C dJ7_fill_53178_12 rfl 3 rfl ?_
      refine as_17 (F2 := ((L_J7_fillI17 v f b i1) 17)) (F := (upd ((L_J7_fillI17 v f b i1) 17) ((nI i1)).toNatClampNeg b)) C dJ7_fill_53178_13 (vp_in_nI hlt1 (by decide)) rfl rfl ?_
      refine j_iinc (y := (nI (i1 + 1))) (lv' := [(2, .int (nI (i1 + 1))), (3, .int 8), (0, .ref (ad 17)), (1, .int b)]) C dJ7_fill_53178_14 1 rfl (nI_1 _) (by decide) rfl ?_
      refine j_goto (tgt := 5) C dJ7_fill_53178_17 (by decide) ?_
      refine j_lv (lv' := [(3, .int 8), (2, .int (nI (i1 + 1))), (0, .ref (ad 17)), (1, .int b)]) [1, 0, 2, 3] rfl ?_
      have e8 := ih1 (i1 + 1) (by omega)
      rw [L_J7_fillI17] at e8
      try dsimp only at e8
      exact e8
  have e7 := lp1 8 0 (by omega)
  rw [L_J7_fillI17] at e7
  try dsimp only at e7
  exact e7

def L_J7_fillI19 (v : Nat → Int32) (f : Nat → Nat → Int32) (b : Int32) : Nat → (Nat → Nat → Int32)
  | 0 => f
  | i1 + 1 =>
    (va_up (L_J7_fillI19 v f b i1) 19 (upd ((L_J7_fillI19 v f b i1) 19) ((nI i1)).toNatClampNeg b))
def S_J7_fillI19 (v : Nat → Int32) (f : Nat → Nat → Int32) (b : Int32) : (Nat → Nat → Int32) :=
  (L_J7_fillI19 v f b 8)
set_option maxHeartbeats 1000000 in
set_option maxRecDepth 100000 in
theorem c_J7_fillI19 (ε : ET) (ad : Nat → Nat) (v : Nat → Int32) (f : Nat → Nat → Int32) (u : Nat → Int32) (g : Nat → Nat → Int32) (b : Int32)  : CT ε yJ7_fill_53178 cJ7_fill_53178 4 none 0 0 0 0 [.ref (ad 19), .int b] (WD ε ad v f u g) (DT none (WD ε ad v (S_J7_fillI19 v f b) u g)) := by
  refine CT.of (own := RJ7) (by decide) rfl (Nat.le_of_ble_eq_true rfl) (fun κ C hQ => ?_)
  refine j_iconst (x := 0) C dJ7_fill_53178_0 (by decide) ?_
  refine j_istore_n (i := 2) (lv' := [(2, .int 0), (0, .ref (ad 19)), (1, .int b)]) C dJ7_fill_53178_1 rfl (by decide) rfl ?_
  refine j_aload_n (i := 0) C dJ7_fill_53178_2 rfl 1 rfl ?_
  refine an_19 C dJ7_fill_53178_3 ?_
  refine j_istore_n (i := 3) (lv' := [(3, .int 8), (2, .int 0), (0, .ref (ad 19)), (1, .int b)]) C dJ7_fill_53178_4 rfl (by decide) rfl ?_
  have hx1 : JW κ 0 0 (WD ε ad v (L_J7_fillI19 v f b 8) u g) 20 [(3, .int 8), (2, .int (nI 8)), (0, .ref (ad 19)), (1, .int b)] [] := by
    have hs : S_J7_fillI19 v f b = (L_J7_fillI19 v f b 8) := by unfold S_J7_fillI19; rfl
    exact j_vret C hQ rfl dJ7_fill_53178_20 (dt_nf hs)
  have lp1 : ∀ d1 i1 : Nat, i1 + d1 = 8 → JW κ 0 0 (WD ε ad v (L_J7_fillI19 v f b i1) u g) 5 [(3, .int 8), (2, .int (nI i1)), (0, .ref (ad 19)), (1, .int b)] [] := by
    intro d1
    induction d1 with
    | zero =>
      intro i1 hi
      have e9 : i1 = 8 := by omega
      rw [e9]
      have lf1 : 8 ≤ (nI 8) := Int32.le_refl _
      refine j_iload_n (i := 2) C dJ7_fill_53178_5 rfl 1 rfl ?_
      refine j_iload_n (i := 3) C dJ7_fill_53178_6 rfl 0 rfl ?_
      refine j_icmp_ge (tgt := 20) C dJ7_fill_53178_7 (by decide) (fun _ => ?_) (fun c9 => absurd lf1 c9)
      exact hx1
    | succ d1 ih1 =>
      intro i1 hi
      have hlt1 : i1 < 8 := by omega
      have lf1 : ¬ 8 ≤ (nI i1) := nI_ge (b := 8) hlt1 (by decide)
      refine j_iload_n (i := 2) C dJ7_fill_53178_5 rfl 1 rfl ?_
      refine j_iload_n (i := 3) C dJ7_fill_53178_6 rfl 0 rfl ?_
      refine j_icmp_ge (tgt := 20) C dJ7_fill_53178_7 (by decide) (fun c9 => absurd c9 lf1) (fun _ => ?_)
      refine j_aload_n (i := 0) C dJ7_fill_53178_10 rfl 2 rfl ?_
      refine j_iload_n (i := 2) C dJ7_fill_53178_11 rfl 1 rfl ?_
      refine j_iload_n (i := 1) C dJ7_fill_53178_12 rfl 3 rfl ?_
      refine as_19 (F2 := ((L_J7_fillI19 v f b i1) 19)) (F := (upd ((L_J7_fillI19 v f b i1) 19) ((nI i1)).toNatClampNeg b)) C dJ7_fill_53178_13 (vp_in_nI hlt1 (by decide)) rfl rfl ?_
      refine j_iinc (y := (nI (i1 + 1))) (lv' := [(2, .int (nI (i1 + 1))), (3, .int 8), (0, .ref (ad 19)), (1, .int b)]) C dJ7_fill_53178_14 1 rfl (nI_1 _) (by decide) rfl ?_
      refine j_goto (tgt := 5) C dJ7_fill_53178_17 (by decide) ?_
      refine j_lv (lv' := [(3, .int 8), (2, .int (nI (i1 + 1))), (0, .ref (ad 19)), (1, .int b)]) [1, 0, 2, 3] rfl ?_
      have e8 := ih1 (i1 + 1) (by omega)
      rw [L_J7_fillI19] at e8
      try dsimp only at e8
      exact e8
  have e7 := lp1 8 0 (by omega)
  rw [L_J7_fillI19] at e7
  try dsimp only at e7
  exact e7

def L_J7_fillI21 (v : Nat → Int32) (f : Nat → Nat → Int32) (b : Int32) : Nat → (Nat → Nat → Int32)
  | 0 => f
  | i1 + 1 =>
    (va_up (L_J7_fillI21 v f b i1) 21 (upd ((L_J7_fillI21 v f b i1) 21) ((nI i1)).toNatClampNeg b))
def S_J7_fillI21 (v : Nat → Int32) (f : Nat → Nat → Int32) (b : Int32) : (Nat → Nat → Int32) :=
  (L_J7_fillI21 v f b 8)
set_option maxHeartbeats 1000000 in
set_option maxRecDepth 100000 in
theorem c_J7_fillI21 (ε : ET) (ad : Nat → Nat) (v : Nat → Int32) (f : Nat → Nat → Int32) (u : Nat → Int32) (g : Nat → Nat → Int32) (b : Int32)  : CT ε yJ7_fill_53178 cJ7_fill_53178 4 none 0 0 0 0 [.ref (ad 21), .int b] (WD ε ad v f u g) (DT none (WD ε ad v (S_J7_fillI21 v f b) u g)) := by
  refine CT.of (own := RJ7) (by decide) rfl (Nat.le_of_ble_eq_true rfl) (fun κ C hQ => ?_)
  refine j_iconst (x := 0) C dJ7_fill_53178_0 (by decide) ?_
  refine j_istore_n (i := 2) (lv' := [(2, .int 0), (0, .ref (ad 21)), (1, .int b)]) C dJ7_fill_53178_1 rfl (by decide) rfl ?_
  refine j_aload_n (i := 0) C dJ7_fill_53178_2 rfl 1 rfl ?_
  refine an_21 C dJ7_fill_53178_3 ?_
  refine j_istore_n (i := 3) (lv' := [(3, .int 8), (2, .int 0), (0, .ref (ad 21)), (1, .int b)]) C dJ7_fill_53178_4 rfl (by decide) rfl ?_
  have hx1 : JW κ 0 0 (WD ε ad v (L_J7_fillI21 v f b 8) u g) 20 [(3, .int 8), (2, .int (nI 8)), (0, .ref (ad 21)), (1, .int b)] [] := by
    have hs : S_J7_fillI21 v f b = (L_J7_fillI21 v f b 8) := by unfold S_J7_fillI21; rfl
    exact j_vret C hQ rfl dJ7_fill_53178_20 (dt_nf hs)
  have lp1 : ∀ d1 i1 : Nat, i1 + d1 = 8 → JW κ 0 0 (WD ε ad v (L_J7_fillI21 v f b i1) u g) 5 [(3, .int 8), (2, .int (nI i1)), (0, .ref (ad 21)), (1, .int b)] [] := by
    intro d1
    induction d1 with
    | zero =>
      intro i1 hi
      have e9 : i1 = 8 := by omega
      rw [e9]
      have lf1 : 8 ≤ (nI 8) := Int32.le_refl _
      refine j_iload_n (i := 2) C dJ7_fill_53178_5 rfl 1 rfl ?_
      refine j_iload_n (i := 3) C dJ7_fill_53178_6 rfl 0 rfl ?_
      refine j_icmp_ge (tgt := 20) C dJ7_fill_53178_7 (by decide) (fun _ => ?_) (fun c9 => absurd lf1 c9)
      exact hx1
    | succ d1 ih1 =>
      intro i1 hi
      have hlt1 : i1 < 8 := by omega
      have lf1 : ¬ 8 ≤ (nI i1) := nI_ge (b := 8) hlt1 (by decide)
      refine j_iload_n (i := 2) C dJ7_fill_53178_5 rfl 1 rfl ?_
      refine j_iload_n (i := 3) C dJ7_fill_53178_6 rfl 0 rfl ?_
      refine j_icmp_ge (tgt := 20) C dJ7_fill_53178_7 (by decide) (fun c9 => absurd c9 lf1) (fun _ => ?_)
      refine j_aload_n (i := 0) C dJ7_fill_53178_10 rfl 2 rfl ?_
      refine j_iload_n (i := 2) C dJ7_fill_53178_11 rfl 1 rfl ?_
      refine j_iload_n (i := 1) C dJ7_fill_53178_12 rfl 3 rfl ?_
      refine as_21 (F2 := ((L_J7_fillI21 v f b i1) 21)) (F := (upd ((L_J7_fillI21 v f b i1) 21) ((nI i1)).toNatClampNeg b)) C dJ7_fill_53178_13 (vp_in_nI hlt1 (by decide)) rfl rfl ?_
      refine j_iinc (y := (nI (i1 + 1))) (lv' := [(2, .int (nI (i1 + 1))), (3, .int 8), (0, .ref (ad 21)), (1, .int b)]) C dJ7_fill_53178_14 1 rfl (nI_1 _) (by decide) rfl ?_
      refine j_goto (tgt := 5) C dJ7_fill_53178_17 (by decide) ?_
      refine j_lv (lv' := [(3, .int 8), (2, .int (nI (i1 + 1))), (0, .ref (ad 21)), (1, .int b)]) [1, 0, 2, 3] rfl ?_
      have e8 := ih1 (i1 + 1) (by omega)
      rw [L_J7_fillI21] at e8
      try dsimp only at e8
      exact e8
  have e7 := lp1 8 0 (by omega)
  rw [L_J7_fillI21] at e7
  try dsimp only at e7
  exact e7

def S_X5_clear (v : Nat → Int32) (f : Nat → Nat → Int32)  : (Nat → Nat → Int32) :=
  (S_J7_fillB2 v f 0)
set_option maxHeartbeats 1000000 in
set_option maxRecDepth 100000 in
theorem c_X5_clear (ε : ET) (ad : Nat → Nat) (v : Nat → Int32) (f : Nat → Nat → Int32) (u : Nat → Int32) (g : Nat → Nat → Int32)   : CT ε yX5_clear cX5_clear 1 none 1 23 0 0 [.ref (ad 1)] (WD ε ad v f u g) (DT none (WD ε ad v (S_X5_clear v f) u g)) := by
  refine CT.of (own := RX5) (by decide) rfl (Nat.le_of_ble_eq_true rfl) (fun κ C hQ => ?_)
  refine j_aload_n (i := 0) C dX5_clear_0 rfl 0 rfl ?_
  refine g_1_bytes C dX5_clear_1 lf_X5_9 ?_
  refine j_iconst (x := 0) C dX5_clear_4 (by decide) ?_
  refine c_S (As := [.ref (ad 2), .int 0]) (rest := []) (st1 := []) C (c_J7_fillB2 ε ad v f u g 0  ) mt_J7_fill_031fb lm_X5_15 dX5_clear_5 rfl rfl (by decide) (Nat.le_of_ble_eq_true rfl) rfl ?_
  have hs : S_X5_clear v f = (S_J7_fillB2 v f 0) := by unfold S_X5_clear; rfl
  exact j_vret C hQ rfl dX5_clear_8 (dt_nf hs)

def S_X8_isQueue (v : Nat → Int32) (f : Nat → Nat → Int32) (a : Int32) : Int32 :=
  if a < 0 then 0
  else if 3 ≤ a then 0
    else 1
set_option maxHeartbeats 1000000 in
set_option maxRecDepth 100000 in
theorem c_X8_isQueue (ε : ET) (ad : Nat → Nat) (v : Nat → Int32) (f : Nat → Nat → Int32) (u : Nat → Int32) (g : Nat → Nat → Int32) (a : Int32)  : CT ε yX8_isQueue cX8_isQueue 1 (some .boolean) 0 0 0 0 [.int a] (WD ε ad v f u g) (DT (some (.int (S_X8_isQueue v f a))) (WD ε ad v f u g)) := by
  refine CT.of (own := RX8) (by decide) rfl (Nat.le_of_ble_eq_true rfl) (fun κ C hQ => ?_)
  refine j_iload_n (i := 0) C dX8_isQueue_0 rfl 0 rfl ?_
  refine j_if_lt (tgt := 13) C dX8_isQueue_1 (by decide) (fun c_1 => ?_) (fun c_1 => ?_)
  · refine j_iconst (x := 0) C dX8_isQueue_13 (by decide) ?_
    have hs : S_X8_isQueue v f a = 0 := by unfold S_X8_isQueue; rw [if_pos c_1]
    exact j_zret C hQ rfl rfl dX8_isQueue_14 (dt_i hs)
  · refine j_iload_n (i := 0) C dX8_isQueue_4 rfl 0 rfl ?_
    refine j_iconst (x := 3) C dX8_isQueue_5 (by decide) ?_
    refine j_icmp_ge (tgt := 13) C dX8_isQueue_6 (by decide) (fun c_2 => ?_) (fun c_2 => ?_)
    · refine j_iconst (x := 0) C dX8_isQueue_13 (by decide) ?_
      have hs : S_X8_isQueue v f a = 0 := by unfold S_X8_isQueue; rw [if_neg c_1, if_pos c_2]
      exact j_zret C hQ rfl rfl dX8_isQueue_14 (dt_i hs)
    · refine j_iconst (x := 1) C dX8_isQueue_9 (by decide) ?_
      refine j_goto (tgt := 14) C dX8_isQueue_10 (by decide) ?_
      have hs : S_X8_isQueue v f a = 1 := by unfold S_X8_isQueue; rw [if_neg c_1, if_neg c_2]
      exact j_zret C hQ rfl rfl dX8_isQueue_14 (dt_i hs)

def S_X8_isSize (v : Nat → Int32) (f : Nat → Nat → Int32) (a : Int32) : Int32 :=
  if a = 1 then 1
  else if a = 2 then 1
    else if a = 4 then 1
      else if a = 8 then 1
        else if a = 16 then 1
          else 0
set_option maxHeartbeats 1000000 in
set_option maxRecDepth 100000 in
theorem c_X8_isSize (ε : ET) (ad : Nat → Nat) (v : Nat → Int32) (f : Nat → Nat → Int32) (u : Nat → Int32) (g : Nat → Nat → Int32) (a : Int32)  : CT ε yX8_isSize cX8_isSize 1 (some .boolean) 0 0 0 0 [.int a] (WD ε ad v f u g) (DT (some (.int (S_X8_isSize v f a))) (WD ε ad v f u g)) := by
  refine CT.of (own := RX8) (by decide) rfl (Nat.le_of_ble_eq_true rfl) (fun κ C hQ => ?_)
  refine j_iload_n (i := 0) C dX8_isSize_0 rfl 0 rfl ?_
  refine j_iconst (x := 1) C dX8_isSize_1 (by decide) ?_
  refine j_icmp_eq (tgt := 27) C dX8_isSize_2 (by decide) (fun c_1 => ?_) (fun c_1 => ?_)
  · refine j_iconst (x := 1) C dX8_isSize_27 (by decide) ?_
    refine j_goto (tgt := 32) C dX8_isSize_28 (by decide) ?_
    have hs : S_X8_isSize v f a = 1 := by unfold S_X8_isSize; rw [if_pos c_1]
    exact j_zret C hQ rfl rfl dX8_isSize_32 (dt_i hs)
  · refine j_iload_n (i := 0) C dX8_isSize_5 rfl 0 rfl ?_
    refine j_iconst (x := 2) C dX8_isSize_6 (by decide) ?_
    refine j_icmp_eq (tgt := 27) C dX8_isSize_7 (by decide) (fun c_2 => ?_) (fun c_2 => ?_)
    · refine j_iconst (x := 1) C dX8_isSize_27 (by decide) ?_
      refine j_goto (tgt := 32) C dX8_isSize_28 (by decide) ?_
      have hs : S_X8_isSize v f a = 1 := by unfold S_X8_isSize; rw [if_neg c_1, if_pos c_2]
      exact j_zret C hQ rfl rfl dX8_isSize_32 (dt_i hs)
    · refine j_iload_n (i := 0) C dX8_isSize_10 rfl 0 rfl ?_
      refine j_iconst (x := 4) C dX8_isSize_11 (by decide) ?_
      refine j_icmp_eq (tgt := 27) C dX8_isSize_12 (by decide) (fun c_3 => ?_) (fun c_3 => ?_)
      · refine j_iconst (x := 1) C dX8_isSize_27 (by decide) ?_
        refine j_goto (tgt := 32) C dX8_isSize_28 (by decide) ?_
        have hs : S_X8_isSize v f a = 1 := by unfold S_X8_isSize; rw [if_neg c_1, if_neg c_2, if_pos c_3]
        exact j_zret C hQ rfl rfl dX8_isSize_32 (dt_i hs)
      · refine j_iload_n (i := 0) C dX8_isSize_15 rfl 0 rfl ?_
        refine j_bipush (x := 8) C dX8_isSize_16 (by decide) ?_
        refine j_icmp_eq (tgt := 27) C dX8_isSize_18 (by decide) (fun c_4 => ?_) (fun c_4 => ?_)
        · refine j_iconst (x := 1) C dX8_isSize_27 (by decide) ?_
          refine j_goto (tgt := 32) C dX8_isSize_28 (by decide) ?_
          have hs : S_X8_isSize v f a = 1 := by unfold S_X8_isSize; rw [if_neg c_1, if_neg c_2, if_neg c_3, if_pos c_4]
          exact j_zret C hQ rfl rfl dX8_isSize_32 (dt_i hs)
        · refine j_iload_n (i := 0) C dX8_isSize_21 rfl 0 rfl ?_
          refine j_bipush (x := 16) C dX8_isSize_22 (by decide) ?_
          refine j_icmp_ne (tgt := 31) C dX8_isSize_24 (by decide) (fun c_5 => ?_) (fun c_5 => ?_)
          · refine j_iconst (x := 0) C dX8_isSize_31 (by decide) ?_
            have hs : S_X8_isSize v f a = 0 := by unfold S_X8_isSize; rw [if_neg c_1, if_neg c_2, if_neg c_3, if_neg c_4, if_neg c_5]
            exact j_zret C hQ rfl rfl dX8_isSize_32 (dt_i hs)
          · refine j_iconst (x := 1) C dX8_isSize_27 (by decide) ?_
            refine j_goto (tgt := 32) C dX8_isSize_28 (by decide) ?_
            have hs : S_X8_isSize v f a = 1 := by unfold S_X8_isSize; rw [if_neg c_1, if_neg c_2, if_neg c_3, if_neg c_4, if_pos c_5]
            exact j_zret C hQ rfl rfl dX8_isSize_32 (dt_i hs)

def S_X8_isAddress (v : Nat → Int32) (f : Nat → Nat → Int32) (a : Int32) : Int32 :=
  if a < 0 then 0
  else if 4096 ≤ a then 0
    else 1
set_option maxHeartbeats 1000000 in
set_option maxRecDepth 100000 in
theorem c_X8_isAddress (ε : ET) (ad : Nat → Nat) (v : Nat → Int32) (f : Nat → Nat → Int32) (u : Nat → Int32) (g : Nat → Nat → Int32) (a : Int32)  : CT ε yX8_isAddress cX8_isAddress 1 (some .boolean) 0 0 0 0 [.int a] (WD ε ad v f u g) (DT (some (.int (S_X8_isAddress v f a))) (WD ε ad v f u g)) := by
  refine CT.of (own := RX8) (by decide) rfl (Nat.le_of_ble_eq_true rfl) (fun κ C hQ => ?_)
  refine j_iload_n (i := 0) C dX8_isAddress_0 rfl 0 rfl ?_
  refine j_if_lt (tgt := 15) C dX8_isAddress_1 (by decide) (fun c_1 => ?_) (fun c_1 => ?_)
  · refine j_iconst (x := 0) C dX8_isAddress_15 (by decide) ?_
    have hs : S_X8_isAddress v f a = 0 := by unfold S_X8_isAddress; rw [if_pos c_1]
    exact j_zret C hQ rfl rfl dX8_isAddress_16 (dt_i hs)
  · refine j_iload_n (i := 0) C dX8_isAddress_4 rfl 0 rfl ?_
    refine j_sipush (x := 4096) C dX8_isAddress_5 (by decide) ?_
    refine j_icmp_ge (tgt := 15) C dX8_isAddress_8 (by decide) (fun c_2 => ?_) (fun c_2 => ?_)
    · refine j_iconst (x := 0) C dX8_isAddress_15 (by decide) ?_
      have hs : S_X8_isAddress v f a = 0 := by unfold S_X8_isAddress; rw [if_neg c_1, if_pos c_2]
      exact j_zret C hQ rfl rfl dX8_isAddress_16 (dt_i hs)
    · refine j_iconst (x := 1) C dX8_isAddress_11 (by decide) ?_
      refine j_goto (tgt := 16) C dX8_isAddress_12 (by decide) ?_
      have hs : S_X8_isAddress v f a = 1 := by unfold S_X8_isAddress; rw [if_neg c_1, if_neg c_2]
      exact j_zret C hQ rfl rfl dX8_isAddress_16 (dt_i hs)

def S_X8_isSector (v : Nat → Int32) (f : Nat → Nat → Int32) (a : Int32) : Int32 :=
  if a < 0 then 0
  else if 32 ≤ a then 0
    else 1
set_option maxHeartbeats 1000000 in
set_option maxRecDepth 100000 in
theorem c_X8_isSector (ε : ET) (ad : Nat → Nat) (v : Nat → Int32) (f : Nat → Nat → Int32) (u : Nat → Int32) (g : Nat → Nat → Int32) (a : Int32)  : CT ε yX8_isSector cX8_isSector 1 (some .boolean) 0 0 0 0 [.int a] (WD ε ad v f u g) (DT (some (.int (S_X8_isSector v f a))) (WD ε ad v f u g)) := by
  refine CT.of (own := RX8) (by decide) rfl (Nat.le_of_ble_eq_true rfl) (fun κ C hQ => ?_)
  refine j_iload_n (i := 0) C dX8_isSector_0 rfl 0 rfl ?_
  refine j_if_lt (tgt := 14) C dX8_isSector_1 (by decide) (fun c_1 => ?_) (fun c_1 => ?_)
  · refine j_iconst (x := 0) C dX8_isSector_14 (by decide) ?_
    have hs : S_X8_isSector v f a = 0 := by unfold S_X8_isSector; rw [if_pos c_1]
    exact j_zret C hQ rfl rfl dX8_isSector_15 (dt_i hs)
  · refine j_iload_n (i := 0) C dX8_isSector_4 rfl 0 rfl ?_
    refine j_bipush (x := 32) C dX8_isSector_5 (by decide) ?_
    refine j_icmp_ge (tgt := 14) C dX8_isSector_7 (by decide) (fun c_2 => ?_) (fun c_2 => ?_)
    · refine j_iconst (x := 0) C dX8_isSector_14 (by decide) ?_
      have hs : S_X8_isSector v f a = 0 := by unfold S_X8_isSector; rw [if_neg c_1, if_pos c_2]
      exact j_zret C hQ rfl rfl dX8_isSector_15 (dt_i hs)
    · refine j_iconst (x := 1) C dX8_isSector_10 (by decide) ?_
      refine j_goto (tgt := 15) C dX8_isSector_11 (by decide) ?_
      have hs : S_X8_isSector v f a = 1 := by unfold S_X8_isSector; rw [if_neg c_1, if_neg c_2]
      exact j_zret C hQ rfl rfl dX8_isSector_15 (dt_i hs)

def S_X8_isFrame (v : Nat → Int32) (f : Nat → Nat → Int32) (a : Int32) : Int32 :=
  if a < 1 then 0
  else if 80 < a then 0
    else 1
set_option maxHeartbeats 1000000 in
set_option maxRecDepth 100000 in
theorem c_X8_isFrame (ε : ET) (ad : Nat → Nat) (v : Nat → Int32) (f : Nat → Nat → Int32) (u : Nat → Int32) (g : Nat → Nat → Int32) (a : Int32)  : CT ε yX8_isFrame cX8_isFrame 1 (some .boolean) 0 0 0 0 [.int a] (WD ε ad v f u g) (DT (some (.int (S_X8_isFrame v f a))) (WD ε ad v f u g)) := by
  refine CT.of (own := RX8) (by decide) rfl (Nat.le_of_ble_eq_true rfl) (fun κ C hQ => ?_)
  refine j_iload_n (i := 0) C dX8_isFrame_0 rfl 0 rfl ?_
  refine j_iconst (x := 1) C dX8_isFrame_1 (by decide) ?_
  refine j_icmp_lt (tgt := 15) C dX8_isFrame_2 (by decide) (fun c_1 => ?_) (fun c_1 => ?_)
  · refine j_iconst (x := 0) C dX8_isFrame_15 (by decide) ?_
    have hs : S_X8_isFrame v f a = 0 := by unfold S_X8_isFrame; rw [if_pos c_1]
    exact j_zret C hQ rfl rfl dX8_isFrame_16 (dt_i hs)
  · refine j_iload_n (i := 0) C dX8_isFrame_5 rfl 0 rfl ?_
    refine j_bipush (x := 80) C dX8_isFrame_6 (by decide) ?_
    refine j_icmp_gt (tgt := 15) C dX8_isFrame_8 (by decide) (fun c_2 => ?_) (fun c_2 => ?_)
    · refine j_iconst (x := 0) C dX8_isFrame_15 (by decide) ?_
      have hs : S_X8_isFrame v f a = 0 := by unfold S_X8_isFrame; rw [if_neg c_1, if_pos c_2]
      exact j_zret C hQ rfl rfl dX8_isFrame_16 (dt_i hs)
    · refine j_iconst (x := 1) C dX8_isFrame_11 (by decide) ?_
      refine j_goto (tgt := 16) C dX8_isFrame_12 (by decide) ?_
      have hs : S_X8_isFrame v f a = 1 := by unfold S_X8_isFrame; rw [if_neg c_1, if_neg c_2]
      exact j_zret C hQ rfl rfl dX8_isFrame_16 (dt_i hs)

def S_X8_liesInMemory (v : Nat → Int32) (f : Nat → Nat → Int32) (a : Int64) (b : Int64) : Int32 :=
  if (lg_cmp a 0) < 0 then 0
  else if 0 < (lg_cmp a (4096 - b)) then 0
    else 1
set_option maxHeartbeats 1000000 in
set_option maxRecDepth 100000 in
theorem c_X8_liesInMemory (ε : ET) (ad : Nat → Nat) (v : Nat → Int32) (f : Nat → Nat → Int32) (u : Nat → Int32) (g : Nat → Nat → Int32) (a : Int64) (b : Int64)  : CT ε yX8_liesInMemory cX8_liesInMemory 4 (some .boolean) 0 0 0 0 [.long a, .long b] (WD ε ad v f u g) (DT (some (.int (S_X8_liesInMemory v f a b))) (WD ε ad v f u g)) := by
  refine CT.of (own := RX8) (by decide) rfl (Nat.le_of_ble_eq_true rfl) (fun κ C hQ => ?_)
  refine j_lload_n (i := 0) C dX8_liesInMemory_0 rfl 0 rfl ?_
  refine j_lconst (x := 0) C dX8_liesInMemory_1 (by decide) ?_
  refine j_lcmp C dX8_liesInMemory_2 ?_
  refine j_if_lt (tgt := 20) C dX8_liesInMemory_3 (by decide) (fun c_1 => ?_) (fun c_1 => ?_)
  · refine j_iconst (x := 0) C dX8_liesInMemory_20 (by decide) ?_
    have hs : S_X8_liesInMemory v f a b = 0 := by unfold S_X8_liesInMemory; rw [if_pos c_1]
    exact j_zret C hQ rfl rfl dX8_liesInMemory_21 (dt_i hs)
  · refine j_lload_n (i := 0) C dX8_liesInMemory_6 rfl 0 rfl ?_
    refine j_ldc2 C dX8_liesInMemory_7 ll_X8_181 ?_
    refine j_lload_n (i := 2) C dX8_liesInMemory_10 rfl 1 rfl ?_
    refine j_lsub C dX8_liesInMemory_11 ?_
    refine j_lcmp C dX8_liesInMemory_12 ?_
    refine j_if_gt (tgt := 20) C dX8_liesInMemory_13 (by decide) (fun c_2 => ?_) (fun c_2 => ?_)
    · refine j_iconst (x := 0) C dX8_liesInMemory_20 (by decide) ?_
      have hs : S_X8_liesInMemory v f a b = 0 := by unfold S_X8_liesInMemory; rw [if_neg c_1, if_pos c_2]
      exact j_zret C hQ rfl rfl dX8_liesInMemory_21 (dt_i hs)
    · refine j_iconst (x := 1) C dX8_liesInMemory_16 (by decide) ?_
      refine j_goto (tgt := 21) C dX8_liesInMemory_17 (by decide) ?_
      have hs : S_X8_liesInMemory v f a b = 1 := by unfold S_X8_liesInMemory; rw [if_neg c_1, if_neg c_2]
      exact j_zret C hQ rfl rfl dX8_liesInMemory_21 (dt_i hs)

def Q_X8_isPlace_1 (v : Nat → Int32) (f : Nat → Nat → Int32) (a : Int32) (b : Int32) (c : Int32) : Int32 := (S_X8_liesInMemory v f ((a : Int32).toInt64) ((c : Int32).toInt64))
def S_X8_isPlace (v : Nat → Int32) (f : Nat → Nat → Int32) (a : Int32) (b : Int32) (c : Int32) : Int32 :=
  if (Q_X8_isPlace_1 v f a b c) = 0 then 0
  else if b ≤ 0 then 0
    else if (a - a / b * b) = 0 then 1
      else 0
set_option maxHeartbeats 1000000 in
set_option maxRecDepth 100000 in
theorem c_X8_isPlace (ε : ET) (ad : Nat → Nat) (v : Nat → Int32) (f : Nat → Nat → Int32) (u : Nat → Int32) (g : Nat → Nat → Int32) (a : Int32) (b : Int32) (c : Int32)  : CT ε yX8_isPlace cX8_isPlace 3 (some .boolean) 1 23 0 0 [.int a, .int b, .int c] (WD ε ad v f u g) (DT (some (.int (S_X8_isPlace v f a b c))) (WD ε ad v f u g)) := by
  refine CT.of (own := RX8) (by decide) rfl (Nat.le_of_ble_eq_true rfl) (fun κ C hQ => ?_)
  refine j_iload_n (i := 0) C dX8_isPlace_0 rfl 0 rfl ?_
  refine j_i2l C dX8_isPlace_1 ?_
  refine j_iload_n (i := 2) C dX8_isPlace_2 rfl 2 rfl ?_
  refine j_i2l C dX8_isPlace_3 ?_
  refine c_S (As := [.long ((a : Int32).toInt64), .long ((c : Int32).toInt64)]) (rest := []) (st1 := [.int (Q_X8_isPlace_1 v f a b c)]) C (c_X8_liesInMemory ε ad v f u g ((a : Int32).toInt64) ((c : Int32).toInt64)  ) mt_X8_liesInMemory lm_X8_177 dX8_isPlace_4 rfl rfl (by decide) (Nat.le_of_ble_eq_true rfl) rfl ?_
  refine j_if_eq (tgt := 24) C dX8_isPlace_7 (by decide) (fun c_1 => ?_) (fun c_1 => ?_)
  · refine j_iconst (x := 0) C dX8_isPlace_24 (by decide) ?_
    have hs : S_X8_isPlace v f a b c = 0 := by unfold S_X8_isPlace; rw [if_pos c_1]
    exact j_zret C hQ rfl rfl dX8_isPlace_25 (dt_i hs)
  · refine j_iload_n (i := 1) C dX8_isPlace_10 rfl 1 rfl ?_
    refine j_if_le (tgt := 24) C dX8_isPlace_11 (by decide) (fun c_2 => ?_) (fun c_2 => ?_)
    · refine j_iconst (x := 0) C dX8_isPlace_24 (by decide) ?_
      have hs : S_X8_isPlace v f a b c = 0 := by unfold S_X8_isPlace; rw [if_neg c_1, if_pos c_2]
      exact j_zret C hQ rfl rfl dX8_isPlace_25 (dt_i hs)
    · refine j_iload_n (i := 0) C dX8_isPlace_14 rfl 0 rfl ?_
      refine j_iload_n (i := 1) C dX8_isPlace_15 rfl 1 rfl ?_
      refine j_irem C dX8_isPlace_16 (fun q9 => c_2 (by rw [q9]; decide)) ?_
      refine j_if_ne (tgt := 24) C dX8_isPlace_17 (by decide) (fun c_3 => ?_) (fun c_3 => ?_)
      · refine j_iconst (x := 0) C dX8_isPlace_24 (by decide) ?_
        have hs : S_X8_isPlace v f a b c = 0 := by unfold S_X8_isPlace; rw [if_neg c_1, if_neg c_2, if_neg c_3]
        exact j_zret C hQ rfl rfl dX8_isPlace_25 (dt_i hs)
      · refine j_iconst (x := 1) C dX8_isPlace_20 (by decide) ?_
        refine j_goto (tgt := 25) C dX8_isPlace_21 (by decide) ?_
        have hs : S_X8_isPlace v f a b c = 1 := by unfold S_X8_isPlace; rw [if_neg c_1, if_neg c_2, if_pos c_3]
        exact j_zret C hQ rfl rfl dX8_isPlace_25 (dt_i hs)

def S_X8_descriptorsOf (v : Nat → Int32) (f : Nat → Nat → Int32) (a : Int32) : Int32 :=
  (256 * a)
set_option maxHeartbeats 1000000 in
set_option maxRecDepth 100000 in
theorem c_X8_descriptorsOf (ε : ET) (ad : Nat → Nat) (v : Nat → Int32) (f : Nat → Nat → Int32) (u : Nat → Int32) (g : Nat → Nat → Int32) (a : Int32)  : CT ε yX8_descriptorsOf cX8_descriptorsOf 1 (some .int) 0 0 0 0 [.int a] (WD ε ad v f u g) (DT (some (.int (S_X8_descriptorsOf v f a))) (WD ε ad v f u g)) := by
  refine CT.of (own := RX8) (by decide) rfl (Nat.le_of_ble_eq_true rfl) (fun κ C hQ => ?_)
  refine j_sipush (x := 256) C dX8_descriptorsOf_0 (by decide) ?_
  refine j_iload_n (i := 0) C dX8_descriptorsOf_3 rfl 0 rfl ?_
  refine j_imul C dX8_descriptorsOf_4 ?_
  have hs : S_X8_descriptorsOf v f a = (256 * a) := by unfold S_X8_descriptorsOf; rfl
  exact j_iret C hQ rfl dX8_descriptorsOf_5 (dt_i hs)

def S_X8_availableOf (v : Nat → Int32) (f : Nat → Nat → Int32) (a : Int32) : Int32 :=
  ((256 * a) + 128)
set_option maxHeartbeats 1000000 in
set_option maxRecDepth 100000 in
theorem c_X8_availableOf (ε : ET) (ad : Nat → Nat) (v : Nat → Int32) (f : Nat → Nat → Int32) (u : Nat → Int32) (g : Nat → Nat → Int32) (a : Int32)  : CT ε yX8_availableOf cX8_availableOf 1 (some .int) 0 0 0 0 [.int a] (WD ε ad v f u g) (DT (some (.int (S_X8_availableOf v f a))) (WD ε ad v f u g)) := by
  refine CT.of (own := RX8) (by decide) rfl (Nat.le_of_ble_eq_true rfl) (fun κ C hQ => ?_)
  refine j_sipush (x := 256) C dX8_availableOf_0 (by decide) ?_
  refine j_iload_n (i := 0) C dX8_availableOf_3 rfl 0 rfl ?_
  refine j_imul C dX8_availableOf_4 ?_
  refine j_sipush (x := 128) C dX8_availableOf_5 (by decide) ?_
  refine j_iadd C dX8_availableOf_8 ?_
  have hs : S_X8_availableOf v f a = ((256 * a) + 128) := by unfold S_X8_availableOf; rfl
  exact j_iret C hQ rfl dX8_availableOf_9 (dt_i hs)

def S_X8_usedOf (v : Nat → Int32) (f : Nat → Nat → Int32) (a : Int32) : Int32 :=
  ((256 * a) + 152)
set_option maxHeartbeats 1000000 in
set_option maxRecDepth 100000 in
theorem c_X8_usedOf (ε : ET) (ad : Nat → Nat) (v : Nat → Int32) (f : Nat → Nat → Int32) (u : Nat → Int32) (g : Nat → Nat → Int32) (a : Int32)  : CT ε yX8_usedOf cX8_usedOf 1 (some .int) 0 0 0 0 [.int a] (WD ε ad v f u g) (DT (some (.int (S_X8_usedOf v f a))) (WD ε ad v f u g)) := by
  refine CT.of (own := RX8) (by decide) rfl (Nat.le_of_ble_eq_true rfl) (fun κ C hQ => ?_)
  refine j_sipush (x := 256) C dX8_usedOf_0 (by decide) ?_
  refine j_iload_n (i := 0) C dX8_usedOf_3 rfl 0 rfl ?_
  refine j_imul C dX8_usedOf_4 ?_
  refine j_sipush (x := 152) C dX8_usedOf_5 (by decide) ?_
  refine j_iadd C dX8_usedOf_8 ?_
  have hs : S_X8_usedOf v f a = ((256 * a) + 152) := by unfold S_X8_usedOf; rfl
  exact j_iret C hQ rfl dX8_usedOf_9 (dt_i hs)

def S_X8_patternByte (v : Nat → Int32) (f : Nat → Nat → Int32) (a : Int64) (b : Int32) : Int32 :=
  (((((((a).toUInt64 >>> (((8 * (b &&& 7)) : Int32).toInt64.toUInt64 &&& Int64.toUInt64 63)).toInt64) : Int64).toInt32) + b) &&& 255)
set_option maxHeartbeats 1000000 in
set_option maxRecDepth 100000 in
theorem c_X8_patternByte (ε : ET) (ad : Nat → Nat) (v : Nat → Int32) (f : Nat → Nat → Int32) (u : Nat → Int32) (g : Nat → Nat → Int32) (a : Int64) (b : Int32)  : CT ε yX8_patternByte cX8_patternByte 3 (some .int) 0 0 0 0 [.long a, .int b] (WD ε ad v f u g) (DT (some (.int (S_X8_patternByte v f a b))) (WD ε ad v f u g)) := by
  refine CT.of (own := RX8) (by decide) rfl (Nat.le_of_ble_eq_true rfl) (fun κ C hQ => ?_)
  refine j_lload_n (i := 0) C dX8_patternByte_0 rfl 0 rfl ?_
  refine j_bipush (x := 8) C dX8_patternByte_1 (by decide) ?_
  refine j_iload_n (i := 2) C dX8_patternByte_3 rfl 1 rfl ?_
  refine j_bipush (x := 7) C dX8_patternByte_4 (by decide) ?_
  refine j_iand C dX8_patternByte_6 ?_
  refine j_imul C dX8_patternByte_7 ?_
  refine j_lushr C dX8_patternByte_8 ?_
  refine j_l2i C dX8_patternByte_9 ?_
  refine j_iload_n (i := 2) C dX8_patternByte_10 rfl 1 rfl ?_
  refine j_iadd C dX8_patternByte_11 ?_
  refine j_sipush (x := 255) C dX8_patternByte_12 (by decide) ?_
  refine j_iand C dX8_patternByte_15 ?_
  have hs : S_X8_patternByte v f a b = (((((((a).toUInt64 >>> (((8 * (b &&& 7)) : Int32).toInt64.toUInt64 &&& Int64.toUInt64 63)).toInt64) : Int64).toInt32) + b) &&& 255) := by unfold S_X8_patternByte; rfl
  exact j_iret C hQ rfl dX8_patternByte_16 (dt_i hs)

def S_X8_oneMore (v : Nat → Int32) (f : Nat → Nat → Int32) (a : Int32) : Int32 :=
  ((a + 1) &&& 65535)
set_option maxHeartbeats 1000000 in
set_option maxRecDepth 100000 in
theorem c_X8_oneMore (ε : ET) (ad : Nat → Nat) (v : Nat → Int32) (f : Nat → Nat → Int32) (u : Nat → Int32) (g : Nat → Nat → Int32) (a : Int32)  : CT ε yX8_oneMore cX8_oneMore 1 (some .int) 0 0 0 0 [.int a] (WD ε ad v f u g) (DT (some (.int (S_X8_oneMore v f a))) (WD ε ad v f u g)) := by
  refine CT.of (own := RX8) (by decide) rfl (Nat.le_of_ble_eq_true rfl) (fun κ C hQ => ?_)
  refine j_iload_n (i := 0) C dX8_oneMore_0 rfl 0 rfl ?_
  refine j_iconst (x := 1) C dX8_oneMore_1 (by decide) ?_
  refine j_iadd C dX8_oneMore_2 ?_
  refine j_ldc C dX8_oneMore_3 li_X8_183 ?_
  refine j_iand C dX8_oneMore_5 ?_
  have hs : S_X8_oneMore v f a = ((a + 1) &&& 65535) := by unfold S_X8_oneMore; rfl
  exact j_iret C hQ rfl dX8_oneMore_6 (dt_i hs)

