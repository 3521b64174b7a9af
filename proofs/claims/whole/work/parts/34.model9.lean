theorem n4 (u : Nat → Int32) (g : Nat → Nat → Int32) {a : Int32} (h : MA a 4) : ∃ k : Nat, S_X9_number u g a 4 = lN k ∧ k < 4294967296 := by
  obtain ⟨p, rfl, hp⟩ := h
  rw [num_M u g p 4 hp (by decide)]
  exact ⟨_, rfl, nb_lt (g 23) p 4⟩
theorem co_ma {x : Int32} {b : Nat} (hx : CN x) (hb : b + 64 ≤ 4096) : MA (nI b + (8 * (x - x / 8 * 8))) 8 := by
  obtain ⟨t, et, ht⟩ := hx
  obtain ⟨r, hr, e⟩ := rem_ma (y := 8) (n := 8) et ht rfl (by omega) (by omega)
  rw [e, show (8 : Int32) = nI 8 from rfl, pk_mul, nI_add]
  exact ⟨_, rfl, by omega⟩
theorem co_in {y : Int64} {k q : Nat} (hy : y = lN k) (hk : k < 4294967296) (h7 : ¬ 0 < lg_cmp y 7) (hq : q < 3) : vp_in (nI (8 * q) + y.toInt32) 24 := by
  rw [hy, lg_cmp_gt, show (7 : Int64) = lN 7 from rfl, pk_lLT (by decide) (by omega)] at h7
  rw [hy, lN_i, nI_add]
  exact vp_in_nI (by omega) (by decide)
def Q_X9_collect_1 (u : Nat → Int32) (g : Nat → Nat → Int32) (a : Int32) : Int64 := (S_X9_number u g (nI ((256 * 0) + 154)) 2)
def Q_X9_collect_2 (u : Nat → Int32) (g : Nat → Nat → Int32) (a : Int32) : Int64 := (S_X9_number u g ((nI ((256 * 0) + 156)) + (8 * (((g 41) 0) - ((g 41) 0) / 8 * 8))) 4)
def Q_X9_collect_3 (u : Nat → Int32) (g : Nat → Nat → Int32) (a : Int32) : Int64 := (S_X9_number u (va_up g 41 (upd (g 41) 0 ((((g 41) 0) + 1) &&& 65535))) (((nI ((256 * 0) + 156)) + (8 * (((g 41) 0) - ((g 41) 0) / 8 * 8))) + 4) 4)
def L_X9_collect (u : Nat → Int32) (g : Nat → Nat → Int32) (a : Int32) : Nat → (Nat → Nat → Int32)
  | 0 => (va_up (va_up g 41 (upd (g 41) 0 ((((g 41) 0) + 1) &&& 65535))) 42 (upd ((va_up g 41 (upd (g 41) 0 ((((g 41) 0) + 1) &&& 65535))) 42) 0 ((((Q_X9_collect_3 u g a) &&& 2147483647) : Int64).toInt32)))
  | i1 + 1 =>
    if (((L_X9_collect u g a i1) 38) ((8 * 0) + i1)) = 0 then (L_X9_collect u g a i1)
    else if (lg_cmp (((((L_X9_collect u g a i1) 39) ((8 * 0) + i1)) : Int32).toInt64) (Q_X9_collect_2 u g a)) = 0 then (va_up (va_up (L_X9_collect u g a i1) 38 (upd ((L_X9_collect u g a i1) 38) ((8 * 0) + i1) (vp_nar .boolean 0))) 39 (upd ((va_up (L_X9_collect u g a i1) 38 (upd ((L_X9_collect u g a i1) 38) ((8 * 0) + i1) (vp_nar .boolean 0))) 39) ((8 * 0) + i1) (-2)))
      else (L_X9_collect u g a i1)
def Q_X9_collect_4 (u : Nat → Int32) (g : Nat → Nat → Int32) (a : Int32) : Int64 := (S_X9_number u g (nI ((256 * 1) + 154)) 2)
def Q_X9_collect_5 (u : Nat → Int32) (g : Nat → Nat → Int32) (a : Int32) : Int64 := (S_X9_number u g ((nI ((256 * 1) + 156)) + (8 * (((g 41) 1) - ((g 41) 1) / 8 * 8))) 4)
def Q_X9_collect_6 (u : Nat → Int32) (g : Nat → Nat → Int32) (a : Int32) : Int64 := (S_X9_number u (va_up g 41 (upd (g 41) 1 ((((g 41) 1) + 1) &&& 65535))) (((nI ((256 * 1) + 156)) + (8 * (((g 41) 1) - ((g 41) 1) / 8 * 8))) + 4) 4)
def L_X9_collect2 (u : Nat → Int32) (g : Nat → Nat → Int32) (a : Int32) : Nat → (Nat → Nat → Int32)
  | 0 => (va_up (va_up g 41 (upd (g 41) 1 ((((g 41) 1) + 1) &&& 65535))) 42 (upd ((va_up g 41 (upd (g 41) 1 ((((g 41) 1) + 1) &&& 65535))) 42) 1 ((((Q_X9_collect_6 u g a) &&& 2147483647) : Int64).toInt32)))
  | i2 + 1 =>
    if (((L_X9_collect2 u g a i2) 38) ((8 * 1) + i2)) = 0 then (L_X9_collect2 u g a i2)
    else if (lg_cmp (((((L_X9_collect2 u g a i2) 39) ((8 * 1) + i2)) : Int32).toInt64) (Q_X9_collect_5 u g a)) = 0 then (va_up (va_up (L_X9_collect2 u g a i2) 38 (upd ((L_X9_collect2 u g a i2) 38) ((8 * 1) + i2) (vp_nar .boolean 0))) 39 (upd ((va_up (L_X9_collect2 u g a i2) 38 (upd ((L_X9_collect2 u g a i2) 38) ((8 * 1) + i2) (vp_nar .boolean 0))) 39) ((8 * 1) + i2) (-2)))
      else (L_X9_collect2 u g a i2)
def Q_X9_collect_7 (u : Nat → Int32) (g : Nat → Nat → Int32) (a : Int32) : Int64 := (S_X9_number u g (nI ((256 * 2) + 154)) 2)
def Q_X9_collect_8 (u : Nat → Int32) (g : Nat → Nat → Int32) (a : Int32) : Int64 := (S_X9_number u g ((nI ((256 * 2) + 156)) + (8 * (((g 41) 2) - ((g 41) 2) / 8 * 8))) 4)
def Q_X9_collect_9 (u : Nat → Int32) (g : Nat → Nat → Int32) (a : Int32) : Int64 := (S_X9_number u (va_up g 41 (upd (g 41) 2 ((((g 41) 2) + 1) &&& 65535))) (((nI ((256 * 2) + 156)) + (8 * (((g 41) 2) - ((g 41) 2) / 8 * 8))) + 4) 4)
def L_X9_collect3 (u : Nat → Int32) (g : Nat → Nat → Int32) (a : Int32) : Nat → (Nat → Nat → Int32)
  | 0 => (va_up (va_up g 41 (upd (g 41) 2 ((((g 41) 2) + 1) &&& 65535))) 42 (upd ((va_up g 41 (upd (g 41) 2 ((((g 41) 2) + 1) &&& 65535))) 42) 2 ((((Q_X9_collect_9 u g a) &&& 2147483647) : Int64).toInt32)))
  | i3 + 1 =>
    if (((L_X9_collect3 u g a i3) 38) ((8 * 2) + i3)) = 0 then (L_X9_collect3 u g a i3)
    else if (lg_cmp (((((L_X9_collect3 u g a i3) 39) ((8 * 2) + i3)) : Int32).toInt64) (Q_X9_collect_8 u g a)) = 0 then (va_up (va_up (L_X9_collect3 u g a i3) 38 (upd ((L_X9_collect3 u g a i3) 38) ((8 * 2) + i3) (vp_nar .boolean 0))) 39 (upd ((va_up (L_X9_collect3 u g a i3) 38 (upd ((L_X9_collect3 u g a i3) 38) ((8 * 2) + i3) (vp_nar .boolean 0))) 39) ((8 * 2) + i3) (-2)))
      else (L_X9_collect3 u g a i3)
def S_X9_collect (u : Nat → Int32) (g : Nat → Nat → Int32) (a : Int32) : Int32 × (Nat → Nat → Int32) :=
  if (S_X9_isIn u g a 0 2) = 0 then ((-2), g)
  else if (u 2) = 0 then ((-4), g)
    else if a = 0 then if (((Q_X9_collect_1 u g a) : Int64).toInt32) = ((g 41) 0) then ((-1), g)
        else if 0 < (lg_cmp (Q_X9_collect_2 u g a) 7) then ((-3), (va_up g 41 (upd (g 41) 0 ((((g 41) 0) + 1) &&& 65535))))
          else if (((va_up g 41 (upd (g 41) 0 ((((g 41) 0) + 1) &&& 65535))) 38) (((nI (8 * 0)) + (((Q_X9_collect_2 u g a) : Int64).toInt32))).toNatClampNeg) = 0 then ((-3), (va_up g 41 (upd (g 41) 0 ((((g 41) 0) + 1) &&& 65535))))
            else if (lg_cmp (((((va_up g 41 (upd (g 41) 0 ((((g 41) 0) + 1) &&& 65535))) 39) (((nI (8 * 0)) + (((Q_X9_collect_2 u g a) : Int64).toInt32))).toNatClampNeg) : Int32).toInt64) (Q_X9_collect_2 u g a)) = 0 then ((((Q_X9_collect_2 u g a) : Int64).toInt32), (L_X9_collect u g a 8))
              else ((-3), (va_up g 41 (upd (g 41) 0 ((((g 41) 0) + 1) &&& 65535))))
      else if a = 1 then if (((Q_X9_collect_4 u g a) : Int64).toInt32) = ((g 41) 1) then ((-1), g)
          else if 0 < (lg_cmp (Q_X9_collect_5 u g a) 7) then ((-3), (va_up g 41 (upd (g 41) 1 ((((g 41) 1) + 1) &&& 65535))))
            else if (((va_up g 41 (upd (g 41) 1 ((((g 41) 1) + 1) &&& 65535))) 38) (((nI (8 * 1)) + (((Q_X9_collect_5 u g a) : Int64).toInt32))).toNatClampNeg) = 0 then ((-3), (va_up g 41 (upd (g 41) 1 ((((g 41) 1) + 1) &&& 65535))))
              else if (lg_cmp (((((va_up g 41 (upd (g 41) 1 ((((g 41) 1) + 1) &&& 65535))) 39) (((nI (8 * 1)) + (((Q_X9_collect_5 u g a) : Int64).toInt32))).toNatClampNeg) : Int32).toInt64) (Q_X9_collect_5 u g a)) = 0 then ((((Q_X9_collect_5 u g a) : Int64).toInt32), (L_X9_collect2 u g a 8))
                else ((-3), (va_up g 41 (upd (g 41) 1 ((((g 41) 1) + 1) &&& 65535))))
        else if (((Q_X9_collect_7 u g a) : Int64).toInt32) = ((g 41) 2) then ((-1), g)
          else if 0 < (lg_cmp (Q_X9_collect_8 u g a) 7) then ((-3), (va_up g 41 (upd (g 41) 2 ((((g 41) 2) + 1) &&& 65535))))
            else if (((va_up g 41 (upd (g 41) 2 ((((g 41) 2) + 1) &&& 65535))) 38) (((nI (8 * 2)) + (((Q_X9_collect_8 u g a) : Int64).toInt32))).toNatClampNeg) = 0 then ((-3), (va_up g 41 (upd (g 41) 2 ((((g 41) 2) + 1) &&& 65535))))
              else if (lg_cmp (((((va_up g 41 (upd (g 41) 2 ((((g 41) 2) + 1) &&& 65535))) 39) (((nI (8 * 2)) + (((Q_X9_collect_8 u g a) : Int64).toInt32))).toNatClampNeg) : Int32).toInt64) (Q_X9_collect_8 u g a)) = 0 then ((((Q_X9_collect_8 u g a) : Int64).toInt32), (L_X9_collect3 u g a 8))
                else ((-3), (va_up g 41 (upd (g 41) 2 ((((g 41) 2) + 1) &&& 65535))))
set_option maxHeartbeats 1000000 in
set_option maxRecDepth 100000 in
theorem c_X9_collect (ε : ET) (ad : Nat → Nat) (v : Nat → Int32) (f : Nat → Nat → Int32) (u : Nat → Int32) (g : Nat → Nat → Int32) (a : Int32) (hM : MInv u g) : CT ε yX9_collect cX9_collect 7 (some .int) 1 25 0 0 [.ref (ad 22), .int a] (WD ε ad v f u g) (DT (some (.int ((S_X9_collect u g a).1))) (WD ε ad v f u ((S_X9_collect u g a).2))) := by
  refine CT.of (own := RX9) (by decide) rfl (Nat.le_of_ble_eq_true rfl) (fun κ C hQ => ?_)
  refine j_iload_n (i := 1) C dX9_collect_0 rfl 1 rfl ?_
  refine j_iconst (x := 0) C dX9_collect_1 (by decide) ?_
  refine j_iconst (x := 2) C dX9_collect_2 (by decide) ?_
  refine c_S (As := [.int a, .int 0, .int 2]) (rest := []) (st1 := [.int (S_X9_isIn u g a 0 2)]) C (c_X9_isIn ε ad v f u g a 0 2  ) mt_X9_isIn lm_X9_7 dX9_collect_3 rfl rfl (by decide) (Nat.le_of_ble_eq_true rfl) rfl ?_
  refine j_if_ne (tgt := 12) C dX9_collect_6 (by decide) (fun c_1 => ?_) (fun c_1 => ?_)
  · refine j_aload_n (i := 0) C dX9_collect_12 rfl 0 rfl ?_
    refine g_22_started (x := (u 2)) C dX9_collect_13 lf_X9_83 rfl ?_
    refine j_if_ne (tgt := 22) C dX9_collect_16 (by decide) (fun c_2 => ?_) (fun c_2 => ?_)
    · by_cases c_3 : a = 0
      · refine j_to (lv2 := [(0, .ref (ad 22)), (1, .int 0)]) (st' := []) rfl (by first | rfl | (rw [c_3]; rfl)) (by first | rfl | (rw [c_3]; rfl) | rw [c_3]) ?_
        refine j_aload_n (i := 0) C dX9_collect_22 rfl 0 rfl ?_
        refine j_sipush (x := 256) C dX9_collect_23 (by decide) ?_
        refine j_iload_n (i := 1) C dX9_collect_26 rfl 1 rfl ?_
        refine j_imulN (a := 256) (b := 0) C dX9_collect_27 rfl rfl ?_
        refine j_sipush (x := 154) C dX9_collect_28 (by decide) ?_
        refine j_iaddN (a := (256 * 0)) (b := 154) C dX9_collect_31 rfl rfl ?_
        refine j_iconst (x := 2) C dX9_collect_32 (by decide) ?_
        refine c_V (As := [.int (nI ((256 * 0) + 154)), .int 2]) (rest := []) (st1 := [.long (Q_X9_collect_1 u g a)]) C (c_X9_number ε ad v f u g (nI ((256 * 0) + 154)) 2  (by first | assumption | omega | decide) ⟨_, rfl, by decide⟩) mv_X9_number lm_X9_90 dX9_collect_33 22 wl_22 rfl rfl rfl (by decide) (Nat.le_of_ble_eq_true rfl) rfl ?_
        refine j_l2i C dX9_collect_36 ?_
        refine j_istore_n (i := 2) (lv' := [(2, .int (((Q_X9_collect_1 u g a) : Int64).toInt32)), (0, .ref (ad 22)), (1, .int 0)]) C dX9_collect_37 rfl (by decide) rfl ?_
        refine j_iload_n (i := 2) C dX9_collect_38 rfl 0 rfl ?_
        refine j_aload_n (i := 0) C dX9_collect_39 rfl 1 rfl ?_
        refine g_22_saws C dX9_collect_40 lf_X9_27 ?_
        refine j_iload_n (i := 1) C dX9_collect_43 rfl 2 rfl ?_
        refine aln_41 (q := 0) (F := (g 41)) C dX9_collect_44 (by omega) rfl rfl ?_
        refine j_icmp_ne (tgt := 50) C dX9_collect_45 (by decide) (fun c_4 => ?_) (fun c_4 => ?_)
        · refine j_sipush (x := 256) C dX9_collect_50 (by decide) ?_
          refine j_iload_n (i := 1) C dX9_collect_53 rfl 2 rfl ?_
          refine j_imulN (a := 256) (b := 0) C dX9_collect_54 rfl rfl ?_
          refine j_sipush (x := 156) C dX9_collect_55 (by decide) ?_
          refine j_iaddN (a := (256 * 0)) (b := 156) C dX9_collect_58 rfl rfl ?_
          refine j_bipush (x := 8) C dX9_collect_59 (by decide) ?_
          refine j_aload_n (i := 0) C dX9_collect_61 rfl 1 rfl ?_
          refine g_22_saws C dX9_collect_62 lf_X9_27 ?_
          refine j_iload_n (i := 1) C dX9_collect_65 rfl 2 rfl ?_
          refine aln_41 (q := 0) (F := (g 41)) C dX9_collect_66 (by omega) rfl rfl ?_
          refine j_bipush (x := 8) C dX9_collect_67 (by decide) ?_
          refine j_irem C dX9_collect_69 (by decide) ?_
          refine j_imul C dX9_collect_70 ?_
          refine j_iadd C dX9_collect_71 ?_
          refine j_istore_n (i := 3) (lv' := [(3, .int ((nI ((256 * 0) + 156)) + (8 * (((g 41) 0) - ((g 41) 0) / 8 * 8)))), (2, .int (((Q_X9_collect_1 u g a) : Int64).toInt32)), (0, .ref (ad 22)), (1, .int 0)]) C dX9_collect_72 rfl (by decide) rfl ?_
          refine j_aload_n (i := 0) C dX9_collect_73 rfl 2 rfl ?_
          refine j_iload_n (i := 3) C dX9_collect_74 rfl 0 rfl ?_
          refine j_iconst (x := 4) C dX9_collect_75 (by decide) ?_
          refine c_V (As := [.int ((nI ((256 * 0) + 156)) + (8 * (((g 41) 0) - ((g 41) 0) / 8 * 8))), .int 4]) (rest := []) (st1 := [.long (Q_X9_collect_2 u g a)]) C (c_X9_number ε ad v f u g ((nI ((256 * 0) + 156)) + (8 * (((g 41) 0) - ((g 41) 0) / 8 * 8))) 4  (by first | assumption | omega | decide) ((co_ma (b := 156) (hM.1 0 (by decide)).2.2.2.2 (by decide)).le (by omega))) mv_X9_number lm_X9_90 dX9_collect_76 22 wl_22 rfl rfl rfl (by decide) (Nat.le_of_ble_eq_true rfl) rfl ?_
          refine j_lstore (i := 4) (lv' := [(4, .long (Q_X9_collect_2 u g a)), (3, .int ((nI ((256 * 0) + 156)) + (8 * (((g 41) 0) - ((g 41) 0) / 8 * 8)))), (2, .int (((Q_X9_collect_1 u g a) : Int64).toInt32)), (0, .ref (ad 22)), (1, .int 0)]) C dX9_collect_79 (by decide) rfl ?_
          refine j_aload_n (i := 0) C dX9_collect_81 rfl 3 rfl ?_
          refine g_22_saws C dX9_collect_82 lf_X9_27 ?_
          refine j_iload_n (i := 1) C dX9_collect_85 rfl 4 rfl ?_
          refine j_aload_n (i := 0) C dX9_collect_86 rfl 3 rfl ?_
          refine g_22_saws C dX9_collect_87 lf_X9_27 ?_
          refine j_iload_n (i := 1) C dX9_collect_90 rfl 4 rfl ?_
          refine aln_41 (q := 0) (F := (g 41)) C dX9_collect_91 (by omega) rfl rfl ?_
          refine j_iconst (x := 1) C dX9_collect_92 (by decide) ?_
          refine j_iadd C dX9_collect_93 ?_
          refine j_ldc C dX9_collect_94 li_X9_94 ?_
          refine j_iand C dX9_collect_96 ?_
          refine asn_41 (q := 0) (F2 := (g 41)) (F := (upd (g 41) 0 ((((g 41) 0) + 1) &&& 65535))) C dX9_collect_97 (by omega) rfl rfl rfl ?_
          refine j_lload (i := 4) C dX9_collect_98 0 rfl ?_
          refine j_ldc2 C dX9_collect_100 ll_X9_197 ?_
          refine j_lcmp C dX9_collect_103 ?_
          refine j_if_gt (tgt := 143) C dX9_collect_104 (by decide) (fun c_5 => ?_) (fun c_5 => ?_)
          · refine j_bipush (x := (-3)) C dX9_collect_143 (by decide) ?_
            have hs : S_X9_collect u g a = ((-3), (va_up g 41 (upd (g 41) 0 ((((g 41) 0) + 1) &&& 65535)))) := by unfold S_X9_collect; rw [if_neg c_1, if_neg c_2, if_pos c_3, if_neg c_4, if_pos c_5]
            exact j_iret C hQ rfl dX9_collect_145 (dt_ifM hs)
          · refine j_aload_n (i := 0) C dX9_collect_107 rfl 3 rfl ?_
            refine g_22_lent C dX9_collect_108 lf_X9_33 ?_
            refine j_bipush (x := 8) C dX9_collect_111 (by decide) ?_
            refine j_iload_n (i := 1) C dX9_collect_113 rfl 4 rfl ?_
            refine j_imulN (a := 8) (b := 0) C dX9_collect_114 rfl rfl ?_
            refine j_lload (i := 4) C dX9_collect_115 0 rfl ?_
            refine j_l2i C dX9_collect_117 ?_
            refine j_iadd C dX9_collect_118 ?_
            refine al_38 (F := ((va_up g 41 (upd (g 41) 0 ((((g 41) 0) + 1) &&& 65535))) 38)) C dX9_collect_119 (by obtain ⟨k9, h91, h92⟩ := n4 u g ((co_ma (b := 156) (hM.1 0 (by decide)).2.2.2.2 (by decide)).le (M := 4) (by omega)); exact co_in (q := 0) h91 h92 c_5 (by decide)) rfl ?_
            refine j_if_eq (tgt := 143) C dX9_collect_120 (by decide) (fun c_6 => ?_) (fun c_6 => ?_)
            · refine j_bipush (x := (-3)) C dX9_collect_143 (by decide) ?_
              have hs : S_X9_collect u g a = ((-3), (va_up g 41 (upd (g 41) 0 ((((g 41) 0) + 1) &&& 65535)))) := by unfold S_X9_collect; rw [if_neg c_1, if_neg c_2, if_pos c_3, if_neg c_4, if_neg c_5, if_pos c_6]
              exact j_iret C hQ rfl dX9_collect_145 (dt_ifM hs)
            · refine j_aload_n (i := 0) C dX9_collect_123 rfl 3 rfl ?_
              refine g_22_heads C dX9_collect_124 lf_X9_37 ?_
              refine j_bipush (x := 8) C dX9_collect_127 (by decide) ?_
              refine j_iload_n (i := 1) C dX9_collect_129 rfl 4 rfl ?_
              refine j_imulN (a := 8) (b := 0) C dX9_collect_130 rfl rfl ?_
              refine j_lload (i := 4) C dX9_collect_131 0 rfl ?_
              refine j_l2i C dX9_collect_133 ?_
              refine j_iadd C dX9_collect_134 ?_
              refine al_39 (F := ((va_up g 41 (upd (g 41) 0 ((((g 41) 0) + 1) &&& 65535))) 39)) C dX9_collect_135 (by obtain ⟨k9, h91, h92⟩ := n4 u g ((co_ma (b := 156) (hM.1 0 (by decide)).2.2.2.2 (by decide)).le (M := 4) (by omega)); exact co_in (q := 0) h91 h92 c_5 (by decide)) rfl ?_
              refine j_i2l C dX9_collect_136 ?_
              refine j_lload (i := 4) C dX9_collect_137 0 rfl ?_
              refine j_lcmp C dX9_collect_139 ?_
              refine j_if_eq (tgt := 146) C dX9_collect_140 (by decide) (fun c_7 => ?_) (fun c_7 => ?_)
              · refine j_aload_n (i := 0) C dX9_collect_146 rfl 3 rfl ?_
                refine g_22_written C dX9_collect_147 lf_X9_30 ?_
                refine j_iload_n (i := 1) C dX9_collect_150 rfl 4 rfl ?_
                refine j_aload_n (i := 0) C dX9_collect_151 rfl 3 rfl ?_
                refine j_iload_n (i := 3) C dX9_collect_152 rfl 1 rfl ?_
                refine j_iconst (x := 4) C dX9_collect_153 (by decide) ?_
                refine j_iadd C dX9_collect_154 ?_
                refine j_iconst (x := 4) C dX9_collect_155 (by decide) ?_
                refine c_V (As := [.int (((nI ((256 * 0) + 156)) + (8 * (((g 41) 0) - ((g 41) 0) / 8 * 8))) + 4), .int 4]) (rest := [.int 0, .ref (ad 42)]) (st1 := [.long (Q_X9_collect_3 u g a), .int 0, .ref (ad 42)]) C (c_X9_number ε ad v f u (va_up g 41 (upd (g 41) 0 ((((g 41) 0) + 1) &&& 65535))) (((nI ((256 * 0) + 156)) + (8 * (((g 41) 0) - ((g 41) 0) / 8 * 8))) + 4) 4  (by first | assumption | omega | decide) ((co_ma (b := 156) (hM.1 0 (by decide)).2.2.2.2 (by decide)).sub 4 (by omega))) mv_X9_number lm_X9_90 dX9_collect_156 22 wl_22 rfl rfl rfl (by decide) (Nat.le_of_ble_eq_true rfl) rfl ?_
                refine j_ldc2 C dX9_collect_159 ll_X9_199 ?_
                refine j_land C dX9_collect_162 ?_
                refine j_l2i C dX9_collect_163 ?_
                refine asn_42 (q := 0) (F2 := ((va_up g 41 (upd (g 41) 0 ((((g 41) 0) + 1) &&& 65535))) 42)) (F := (upd ((va_up g 41 (upd (g 41) 0 ((((g 41) 0) + 1) &&& 65535))) 42) 0 ((((Q_X9_collect_3 u g a) &&& 2147483647) : Int64).toInt32))) C dX9_collect_164 (by omega) rfl rfl rfl ?_
                refine j_iconst (x := 0) C dX9_collect_165 (by decide) ?_
                refine j_istore (i := 6) (lv' := [(6, .int 0), (4, .long (Q_X9_collect_2 u g a)), (3, .int ((nI ((256 * 0) + 156)) + (8 * (((g 41) 0) - ((g 41) 0) / 8 * 8)))), (2, .int (((Q_X9_collect_1 u g a) : Int64).toInt32)), (0, .ref (ad 22)), (1, .int 0)]) C dX9_collect_166 (by decide) rfl ?_
                have hx1 : JW κ 0 0 (WD ε ad v f u (L_X9_collect u g a 8)) 242 [(6, .int (nI 8)), (4, .long (Q_X9_collect_2 u g a)), (3, .int ((nI ((256 * 0) + 156)) + (8 * (((g 41) 0) - ((g 41) 0) / 8 * 8)))), (2, .int (((Q_X9_collect_1 u g a) : Int64).toInt32)), (0, .ref (ad 22)), (1, .int 0)] [] := by
                  refine j_lload (i := 4) C dX9_collect_242 1 rfl ?_
                  refine j_l2i C dX9_collect_244 ?_
                  have hs : S_X9_collect u g a = ((((Q_X9_collect_2 u g a) : Int64).toInt32), (L_X9_collect u g a 8)) := by unfold S_X9_collect; rw [if_neg c_1, if_neg c_2, if_pos c_3, if_neg c_4, if_neg c_5, if_neg c_6, if_pos c_7]
                  exact j_iret C hQ rfl dX9_collect_245 (dt_ifM hs)
                have lp1 : ∀ d1 i1 : Nat, i1 + d1 = 8 → JW κ 0 0 (WD ε ad v f u (L_X9_collect u g a i1)) 168 [(6, .int (nI i1)), (4, .long (Q_X9_collect_2 u g a)), (3, .int ((nI ((256 * 0) + 156)) + (8 * (((g 41) 0) - ((g 41) 0) / 8 * 8)))), (2, .int (((Q_X9_collect_1 u g a) : Int64).toInt32)), (0, .ref (ad 22)), (1, .int 0)] [] := by
                  intro d1
                  induction d1 with
                  | zero =>
                    intro i1 hi
                    have e9 : i1 = 8 := by omega
                    rw [e9]
                    have lf1 : 8 ≤ (nI 8) := Int32.le_refl _
                    refine j_iload (i := 6) C dX9_collect_168 0 rfl ?_
                    refine j_bipush (x := 8) C dX9_collect_170 (by decide) ?_
                    refine j_icmp_ge (tgt := 242) C dX9_collect_172 (by decide) (fun _ => ?_) (fun c9 => absurd lf1 c9)
                    exact hx1
                  | succ d1 ih1 =>
                    intro i1 hi
                    have hlt1 : i1 < 8 := by omega
                    have lf1 : ¬ 8 ≤ (nI i1) := nI_ge (b := 8) hlt1 (by decide)
                    refine j_iload (i := 6) C dX9_collect_168 0 rfl ?_
                    refine j_bipush (x := 8) C dX9_collect_170 (by decide) ?_
                    refine j_icmp_ge (tgt := 242) C dX9_collect_172 (by decide) (fun c9 => absurd c9 lf1) (fun _ => ?_)
                    refine j_aload_n (i := 0) C dX9_collect_175 rfl 4 rfl ?_
                    refine g_22_lent C dX9_collect_176 lf_X9_33 ?_
                    refine j_bipush (x := 8) C dX9_collect_179 (by decide) ?_
                    refine j_iload_n (i := 1) C dX9_collect_181 rfl 5 rfl ?_
                    refine j_imulN (a := 8) (b := 0) C dX9_collect_182 rfl rfl ?_
                    refine j_iload (i := 6) C dX9_collect_183 0 rfl ?_
                    refine j_iaddN (a := (8 * 0)) (b := i1) C dX9_collect_185 rfl rfl ?_
                    refine aln_38 (q := ((8 * 0) + i1)) (F := ((L_X9_collect u g a i1) 38)) C dX9_collect_186 (by omega) rfl rfl ?_
                    refine j_if_eq (tgt := 236) C dX9_collect_187 (by decide) (fun c_8 => ?_) (fun c_8 => ?_)
                    · refine j_iinc (y := (nI (i1 + 1))) (lv' := [(6, .int (nI (i1 + 1))), (4, .long (Q_X9_collect_2 u g a)), (3, .int ((nI ((256 * 0) + 156)) + (8 * (((g 41) 0) - ((g 41) 0) / 8 * 8)))), (2, .int (((Q_X9_collect_1 u g a) : Int64).toInt32)), (0, .ref (ad 22)), (1, .int 0)]) C dX9_collect_236 0 rfl (nI_1 _) (by decide) rfl ?_
                      refine j_goto (tgt := 168) C dX9_collect_239 (by decide) ?_
                      refine j_lv (lv' := [(6, .int (nI (i1 + 1))), (4, .long (Q_X9_collect_2 u g a)), (3, .int ((nI ((256 * 0) + 156)) + (8 * (((g 41) 0) - ((g 41) 0) / 8 * 8)))), (2, .int (((Q_X9_collect_1 u g a) : Int64).toInt32)), (0, .ref (ad 22)), (1, .int 0)]) [0, 1, 2, 3, 4, 5] rfl ?_
                      have e8 := ih1 (i1 + 1) (by omega)
                      rw [show L_X9_collect u g a (i1 + 1) = (L_X9_collect u g a i1) from by rw [L_X9_collect, if_pos c_8]] at e8
                      try dsimp only at e8
                      exact e8
                    · refine j_aload_n (i := 0) C dX9_collect_190 rfl 4 rfl ?_
                      refine g_22_heads C dX9_collect_191 lf_X9_37 ?_
                      refine j_bipush (x := 8) C dX9_collect_194 (by decide) ?_
                      refine j_iload_n (i := 1) C dX9_collect_196 rfl 5 rfl ?_
                      refine j_imulN (a := 8) (b := 0) C dX9_collect_197 rfl rfl ?_
                      refine j_iload (i := 6) C dX9_collect_198 0 rfl ?_
                      refine j_iaddN (a := (8 * 0)) (b := i1) C dX9_collect_200 rfl rfl ?_
                      refine aln_39 (q := ((8 * 0) + i1)) (F := ((L_X9_collect u g a i1) 39)) C dX9_collect_201 (by omega) rfl rfl ?_
                      refine j_i2l C dX9_collect_202 ?_
                      refine j_lload (i := 4) C dX9_collect_203 1 rfl ?_
                      refine j_lcmp C dX9_collect_205 ?_
                      refine j_if_ne (tgt := 236) C dX9_collect_206 (by decide) (fun c_9 => ?_) (fun c_9 => ?_)
                      · refine j_iinc (y := (nI (i1 + 1))) (lv' := [(6, .int (nI (i1 + 1))), (4, .long (Q_X9_collect_2 u g a)), (3, .int ((nI ((256 * 0) + 156)) + (8 * (((g 41) 0) - ((g 41) 0) / 8 * 8)))), (2, .int (((Q_X9_collect_1 u g a) : Int64).toInt32)), (0, .ref (ad 22)), (1, .int 0)]) C dX9_collect_236 0 rfl (nI_1 _) (by decide) rfl ?_
                        refine j_goto (tgt := 168) C dX9_collect_239 (by decide) ?_
                        refine j_lv (lv' := [(6, .int (nI (i1 + 1))), (4, .long (Q_X9_collect_2 u g a)), (3, .int ((nI ((256 * 0) + 156)) + (8 * (((g 41) 0) - ((g 41) 0) / 8 * 8)))), (2, .int (((Q_X9_collect_1 u g a) : Int64).toInt32)), (0, .ref (ad 22)), (1, .int 0)]) [0, 1, 2, 3, 4, 5] rfl ?_
                        have e8 := ih1 (i1 + 1) (by omega)
                        rw [show L_X9_collect u g a (i1 + 1) = (L_X9_collect u g a i1) from by rw [L_X9_collect, if_neg c_8, if_neg c_9]] at e8
                        try dsimp only at e8
                        exact e8
                      · refine j_aload_n (i := 0) C dX9_collect_209 rfl 4 rfl ?_
                        refine g_22_lent C dX9_collect_210 lf_X9_33 ?_
                        refine j_bipush (x := 8) C dX9_collect_213 (by decide) ?_
                        refine j_iload_n (i := 1) C dX9_collect_215 rfl 5 rfl ?_
                        refine j_imulN (a := 8) (b := 0) C dX9_collect_216 rfl rfl ?_
                        refine j_iload (i := 6) C dX9_collect_217 0 rfl ?_
                        refine j_iaddN (a := (8 * 0)) (b := i1) C dX9_collect_219 rfl rfl ?_
                        refine j_iconst (x := 0) C dX9_collect_220 (by decide) ?_
                        refine asn_38 (q := ((8 * 0) + i1)) (F2 := ((L_X9_collect u g a i1) 38)) (F := (upd ((L_X9_collect u g a i1) 38) ((8 * 0) + i1) (vp_nar .boolean 0))) C dX9_collect_221 (by omega) rfl rfl rfl ?_
                        refine j_aload_n (i := 0) C dX9_collect_222 rfl 4 rfl ?_
                        refine g_22_heads C dX9_collect_223 lf_X9_37 ?_
                        refine j_bipush (x := 8) C dX9_collect_226 (by decide) ?_
                        refine j_iload_n (i := 1) C dX9_collect_228 rfl 5 rfl ?_
                        refine j_imulN (a := 8) (b := 0) C dX9_collect_229 rfl rfl ?_
                        refine j_iload (i := 6) C dX9_collect_230 0 rfl ?_
                        refine j_iaddN (a := (8 * 0)) (b := i1) C dX9_collect_232 rfl rfl ?_
                        refine j_bipush (x := (-2)) C dX9_collect_233 (by decide) ?_
                        refine asn_39 (q := ((8 * 0) + i1)) (F2 := ((va_up (L_X9_collect u g a i1) 38 (upd ((L_X9_collect u g a i1) 38) ((8 * 0) + i1) (vp_nar .boolean 0))) 39)) (F := (upd ((va_up (L_X9_collect u g a i1) 38 (upd ((L_X9_collect u g a i1) 38) ((8 * 0) + i1) (vp_nar .boolean 0))) 39) ((8 * 0) + i1) (-2))) C dX9_collect_235 (by omega) rfl rfl rfl ?_
                        refine j_iinc (y := (nI (i1 + 1))) (lv' := [(6, .int (nI (i1 + 1))), (4, .long (Q_X9_collect_2 u g a)), (3, .int ((nI ((256 * 0) + 156)) + (8 * (((g 41) 0) - ((g 41) 0) / 8 * 8)))), (2, .int (((Q_X9_collect_1 u g a) : Int64).toInt32)), (0, .ref (ad 22)), (1, .int 0)]) C dX9_collect_236 0 rfl (nI_1 _) (by decide) rfl ?_
                        refine j_goto (tgt := 168) C dX9_collect_239 (by decide) ?_
                        refine j_lv (lv' := [(6, .int (nI (i1 + 1))), (4, .long (Q_X9_collect_2 u g a)), (3, .int ((nI ((256 * 0) + 156)) + (8 * (((g 41) 0) - ((g 41) 0) / 8 * 8)))), (2, .int (((Q_X9_collect_1 u g a) : Int64).toInt32)), (0, .ref (ad 22)), (1, .int 0)]) [0, 1, 2, 3, 4, 5] rfl ?_
                        have e8 := ih1 (i1 + 1) (by omega)
                        rw [show L_X9_collect u g a (i1 + 1) = (va_up (va_up (L_X9_collect u g a i1) 38 (upd ((L_X9_collect u g a i1) 38) ((8 * 0) + i1) (vp_nar .boolean 0))) 39 (upd ((va_up (L_X9_collect u g a i1) 38 (upd ((L_X9_collect u g a i1) 38) ((8 * 0) + i1) (vp_nar .boolean 0))) 39) ((8 * 0) + i1) (-2))) from by rw [L_X9_collect, if_neg c_8, if_pos c_9]] at e8
                        try dsimp only at e8
                        exact e8
                have e7 := lp1 8 0 (by omega)
                rw [L_X9_collect] at e7
                try dsimp only at e7
                exact e7
              · refine j_bipush (x := (-3)) C dX9_collect_143 (by decide) ?_
                have hs : S_X9_collect u g a = ((-3), (va_up g 41 (upd (g 41) 0 ((((g 41) 0) + 1) &&& 65535)))) := by unfold S_X9_collect; rw [if_neg c_1, if_neg c_2, if_pos c_3, if_neg c_4, if_neg c_5, if_neg c_6, if_neg c_7]
                exact j_iret C hQ rfl dX9_collect_145 (dt_ifM hs)
        · refine j_iconst (x := (-1)) C dX9_collect_48 (by decide) ?_
          have hs : S_X9_collect u g a = ((-1), g) := by unfold S_X9_collect; rw [if_neg c_1, if_neg c_2, if_pos c_3, if_pos c_4]
          exact j_iret C hQ rfl dX9_collect_49 (dt_ifM hs)
      · by_cases c_10 : a = 1
        · refine j_to (lv2 := [(0, .ref (ad 22)), (1, .int 1)]) (st' := []) rfl (by first | rfl | (rw [c_10]; rfl)) (by first | rfl | (rw [c_10]; rfl) | rw [c_10]) ?_
          refine j_aload_n (i := 0) C dX9_collect_22 rfl 0 rfl ?_
          refine j_sipush (x := 256) C dX9_collect_23 (by decide) ?_
          refine j_iload_n (i := 1) C dX9_collect_26 rfl 1 rfl ?_
          refine j_imulN (a := 256) (b := 1) C dX9_collect_27 rfl rfl ?_
          refine j_sipush (x := 154) C dX9_collect_28 (by decide) ?_
          refine j_iaddN (a := (256 * 1)) (b := 154) C dX9_collect_31 rfl rfl ?_
          refine j_iconst (x := 2) C dX9_collect_32 (by decide) ?_
          refine c_V (As := [.int (nI ((256 * 1) + 154)), .int 2]) (rest := []) (st1 := [.long (Q_X9_collect_4 u g a)]) C (c_X9_number ε ad v f u g (nI ((256 * 1) + 154)) 2  (by first | assumption | omega | decide) ⟨_, rfl, by decide⟩) mv_X9_number lm_X9_90 dX9_collect_33 22 wl_22 rfl rfl rfl (by decide) (Nat.le_of_ble_eq_true rfl) rfl ?_
          refine j_l2i C dX9_collect_36 ?_
          refine j_istore_n (i := 2) (lv' := [(2, .int (((Q_X9_collect_4 u g a) : Int64).toInt32)), (0, .ref (ad 22)), (1, .int 1)]) C dX9_collect_37 rfl (by decide) rfl ?_
          refine j_iload_n (i := 2) C dX9_collect_38 rfl 0 rfl ?_
          refine j_aload_n (i := 0) C dX9_collect_39 rfl 1 rfl ?_
          refine g_22_saws C dX9_collect_40 lf_X9_27 ?_
          refine j_iload_n (i := 1) C dX9_collect_43 rfl 2 rfl ?_
          refine aln_41 (q := 1) (F := (g 41)) C dX9_collect_44 (by omega) rfl rfl ?_
          refine j_icmp_ne (tgt := 50) C dX9_collect_45 (by decide) (fun c_11 => ?_) (fun c_11 => ?_)
          · refine j_sipush (x := 256) C dX9_collect_50 (by decide) ?_
            refine j_iload_n (i := 1) C dX9_collect_53 rfl 2 rfl ?_
            refine j_imulN (a := 256) (b := 1) C dX9_collect_54 rfl rfl ?_
            refine j_sipush (x := 156) C dX9_collect_55 (by decide) ?_
            refine j_iaddN (a := (256 * 1)) (b := 156) C dX9_collect_58 rfl rfl ?_
            refine j_bipush (x := 8) C dX9_collect_59 (by decide) ?_
            refine j_aload_n (i := 0) C dX9_collect_61 rfl 1 rfl ?_
            refine g_22_saws C dX9_collect_62 lf_X9_27 ?_
            refine j_iload_n (i := 1) C dX9_collect_65 rfl 2 rfl ?_
            refine aln_41 (q := 1) (F := (g 41)) C dX9_collect_66 (by omega) rfl rfl ?_
            refine j_bipush (x := 8) C dX9_collect_67 (by decide) ?_
            refine j_irem C dX9_collect_69 (by decide) ?_
            refine j_imul C dX9_collect_70 ?_
            refine j_iadd C dX9_collect_71 ?_
            refine j_istore_n (i := 3) (lv' := [(3, .int ((nI ((256 * 1) + 156)) + (8 * (((g 41) 1) - ((g 41) 1) / 8 * 8)))), (2, .int (((Q_X9_collect_4 u g a) : Int64).toInt32)), (0, .ref (ad 22)), (1, .int 1)]) C dX9_collect_72 rfl (by decide) rfl ?_
            refine j_aload_n (i := 0) C dX9_collect_73 rfl 2 rfl ?_
            refine j_iload_n (i := 3) C dX9_collect_74 rfl 0 rfl ?_
            refine j_iconst (x := 4) C dX9_collect_75 (by decide) ?_
            refine c_V (As := [.int ((nI ((256 * 1) + 156)) + (8 * (((g 41) 1) - ((g 41) 1) / 8 * 8))), .int 4]) (rest := []) (st1 := [.long (Q_X9_collect_5 u g a)]) C (c_X9_number ε ad v f u g ((nI ((256 * 1) + 156)) + (8 * (((g 41) 1) - ((g 41) 1) / 8 * 8))) 4  (by first | assumption | omega | decide) ((co_ma (b := 412) (hM.1 1 (by decide)).2.2.2.2 (by decide)).le (by omega))) mv_X9_number lm_X9_90 dX9_collect_76 22 wl_22 rfl rfl rfl (by decide) (Nat.le_of_ble_eq_true rfl) rfl ?_
            refine j_lstore (i := 4) (lv' := [(4, .long (Q_X9_collect_5 u g a)), (3, .int ((nI ((256 * 1) + 156)) + (8 * (((g 41) 1) - ((g 41) 1) / 8 * 8)))), (2, .int (((Q_X9_collect_4 u g a) : Int64).toInt32)), (0, .ref (ad 22)), (1, .int 1)]) C dX9_collect_79 (by decide) rfl ?_
            refine j_aload_n (i := 0) C dX9_collect_81 rfl 3 rfl ?_
            refine g_22_saws C dX9_collect_82 lf_X9_27 ?_
            refine j_iload_n (i := 1) C dX9_collect_85 rfl 4 rfl ?_
            refine j_aload_n (i := 0) C dX9_collect_86 rfl 3 rfl ?_
            refine g_22_saws C dX9_collect_87 lf_X9_27 ?_
            refine j_iload_n (i := 1) C dX9_collect_90 rfl 4 rfl ?_
            refine aln_41 (q := 1) (F := (g 41)) C dX9_collect_91 (by omega) rfl rfl ?_
            refine j_iconst (x := 1) C dX9_collect_92 (by decide) ?_
            refine j_iadd C dX9_collect_93 ?_
            refine j_ldc C dX9_collect_94 li_X9_94 ?_
            refine j_iand C dX9_collect_96 ?_
            refine asn_41 (q := 1) (F2 := (g 41)) (F := (upd (g 41) 1 ((((g 41) 1) + 1) &&& 65535))) C dX9_collect_97 (by omega) rfl rfl rfl ?_
            refine j_lload (i := 4) C dX9_collect_98 0 rfl ?_
            refine j_ldc2 C dX9_collect_100 ll_X9_197 ?_
            refine j_lcmp C dX9_collect_103 ?_
            refine j_if_gt (tgt := 143) C dX9_collect_104 (by decide) (fun c_12 => ?_) (fun c_12 => ?_)
            · refine j_bipush (x := (-3)) C dX9_collect_143 (by decide) ?_
              have hs : S_X9_collect u g a = ((-3), (va_up g 41 (upd (g 41) 1 ((((g 41) 1) + 1) &&& 65535)))) := by unfold S_X9_collect; rw [if_neg c_1, if_neg c_2, if_neg c_3, if_pos c_10, if_neg c_11, if_pos c_12]
              exact j_iret C hQ rfl dX9_collect_145 (dt_ifM hs)
            · refine j_aload_n (i := 0) C dX9_collect_107 rfl 3 rfl ?_
              refine g_22_lent C dX9_collect_108 lf_X9_33 ?_
              refine j_bipush (x := 8) C dX9_collect_111 (by decide) ?_
              refine j_iload_n (i := 1) C dX9_collect_113 rfl 4 rfl ?_
              refine j_imulN (a := 8) (b := 1) C dX9_collect_114 rfl rfl ?_
              refine j_lload (i := 4) C dX9_collect_115 0 rfl ?_
              refine j_l2i C dX9_collect_117 ?_
              refine j_iadd C dX9_collect_118 ?_
              refine al_38 (F := ((va_up g 41 (upd (g 41) 1 ((((g 41) 1) + 1) &&& 65535))) 38)) C dX9_collect_119 (by obtain ⟨k9, h91, h92⟩ := n4 u g ((co_ma (b := 412) (hM.1 1 (by decide)).2.2.2.2 (by decide)).le (M := 4) (by omega)); exact co_in (q := 1) h91 h92 c_12 (by decide)) rfl ?_
              refine j_if_eq (tgt := 143) C dX9_collect_120 (by decide) (fun c_13 => ?_) (fun c_13 => ?_)
              · refine j_bipush (x := (-3)) C dX9_collect_143 (by decide) ?_
                have hs : S_X9_collect u g a = ((-3), (va_up g 41 (upd (g 41) 1 ((((g 41) 1) + 1) &&& 65535)))) := by unfold S_X9_collect; rw [if_neg c_1, if_neg c_2, if_neg c_3, if_pos c_10, if_neg c_11, if_neg c_12, if_pos c_13]
                exact j_iret C hQ rfl dX9_collect_145 (dt_ifM hs)
              · refine j_aload_n (i := 0) C dX9_collect_123 rfl 3 rfl ?_
                refine g_22_heads C dX9_collect_124 lf_X9_37 ?_
                refine j_bipush (x := 8) C dX9_collect_127 (by decide) ?_
                refine j_iload_n (i := 1) C dX9_collect_129 rfl 4 rfl ?_
                refine j_imulN (a := 8) (b := 1) C dX9_collect_130 rfl rfl ?_
                refine j_lload (i := 4) C dX9_collect_131 0 rfl ?_
                refine j_l2i C dX9_collect_133 ?_
                refine j_iadd C dX9_collect_134 ?_
                refine al_39 (F := ((va_up g 41 (upd (g 41) 1 ((((g 41) 1) + 1) &&& 65535))) 39)) C dX9_collect_135 (by obtain ⟨k9, h91, h92⟩ := n4 u g ((co_ma (b := 412) (hM.1 1 (by decide)).2.2.2.2 (by decide)).le (M := 4) (by omega)); exact co_in (q := 1) h91 h92 c_12 (by decide)) rfl ?_
                refine j_i2l C dX9_collect_136 ?_
                refine j_lload (i := 4) C dX9_collect_137 0 rfl ?_
                refine j_lcmp C dX9_collect_139 ?_
                refine j_if_eq (tgt := 146) C dX9_collect_140 (by decide) (fun c_14 => ?_) (fun c_14 => ?_)
                · refine j_aload_n (i := 0) C dX9_collect_146 rfl 3 rfl ?_
                  refine g_22_written C dX9_collect_147 lf_X9_30 ?_
                  refine j_iload_n (i := 1) C dX9_collect_150 rfl 4 rfl ?_
                  refine j_aload_n (i := 0) C dX9_collect_151 rfl 3 rfl ?_
                  refine j_iload_n (i := 3) C dX9_collect_152 rfl 1 rfl ?_
                  refine j_iconst (x := 4) C dX9_collect_153 (by decide) ?_
                  refine j_iadd C dX9_collect_154 ?_
                  refine j_iconst (x := 4) C dX9_collect_155 (by decide) ?_
                  refine c_V (As := [.int (((nI ((256 * 1) + 156)) + (8 * (((g 41) 1) - ((g 41) 1) / 8 * 8))) + 4), .int 4]) (rest := [.int 1, .ref (ad 42)]) (st1 := [.long (Q_X9_collect_6 u g a), .int 1, .ref (ad 42)]) C (c_X9_number ε ad v f u (va_up g 41 (upd (g 41) 1 ((((g 41) 1) + 1) &&& 65535))) (((nI ((256 * 1) + 156)) + (8 * (((g 41) 1) - ((g 41) 1) / 8 * 8))) + 4) 4  (by first | assumption | omega | decide) ((co_ma (b := 412) (hM.1 1 (by decide)).2.2.2.2 (by decide)).sub 4 (by omega))) mv_X9_number lm_X9_90 dX9_collect_156 22 wl_22 rfl rfl rfl (by decide) (Nat.le_of_ble_eq_true rfl) rfl ?_
                  refine j_ldc2 C dX9_collect_159 ll_X9_199 ?_
                  refine j_land C dX9_collect_162 ?_
                  refine j_l2i C dX9_collect_163 ?_
                  refine asn_42 (q := 1) (F2 := ((va_up g 41 (upd (g 41) 1 ((((g 41) 1) + 1) &&& 65535))) 42)) (F := (upd ((va_up g 41 (upd (g 41) 1 ((((g 41) 1) + 1) &&& 65535))) 42) 1 ((((Q_X9_collect_6 u g a) &&& 2147483647) : Int64).toInt32))) C dX9_collect_164 (by omega) rfl rfl rfl ?_
                  refine j_iconst (x := 0) C dX9_collect_165 (by decide) ?_
                  refine j_istore (i := 6) (lv' := [(6, .int 0), (4, .long (Q_X9_collect_5 u g a)), (3, .int ((nI ((256 * 1) + 156)) + (8 * (((g 41) 1) - ((g 41) 1) / 8 * 8)))), (2, .int (((Q_X9_collect_4 u g a) : Int64).toInt32)), (0, .ref (ad 22)), (1, .int 1)]) C dX9_collect_166 (by decide) rfl ?_
                  have hx2 : JW κ 0 0 (WD ε ad v f u (L_X9_collect2 u g a 8)) 242 [(6, .int (nI 8)), (4, .long (Q_X9_collect_5 u g a)), (3, .int ((nI ((256 * 1) + 156)) + (8 * (((g 41) 1) - ((g 41) 1) / 8 * 8)))), (2, .int (((Q_X9_collect_4 u g a) : Int64).toInt32)), (0, .ref (ad 22)), (1, .int 1)] [] := by
                    refine j_lload (i := 4) C dX9_collect_242 1 rfl ?_
                    refine j_l2i C dX9_collect_244 ?_
                    have hs : S_X9_collect u g a = ((((Q_X9_collect_5 u g a) : Int64).toInt32), (L_X9_collect2 u g a 8)) := by unfold S_X9_collect; rw [if_neg c_1, if_neg c_2, if_neg c_3, if_pos c_10, if_neg c_11, if_neg c_12, if_neg c_13, if_pos c_14]
                    exact j_iret C hQ rfl dX9_collect_245 (dt_ifM hs)
                  have lp2 : ∀ d2 i2 : Nat, i2 + d2 = 8 → JW κ 0 0 (WD ε ad v f u (L_X9_collect2 u g a i2)) 168 [(6, .int (nI i2)), (4, .long (Q_X9_collect_5 u g a)), (3, .int ((nI ((256 * 1) + 156)) + (8 * (((g 41) 1) - ((g 41) 1) / 8 * 8)))), (2, .int (((Q_X9_collect_4 u g a) : Int64).toInt32)), (0, .ref (ad 22)), (1, .int 1)] [] := by
                    intro d2
                    induction d2 with
                    | zero =>
                      intro i2 hi
                      have e9 : i2 = 8 := by omega
                      rw [e9]
                      have lf2 : 8 ≤ (nI 8) := Int32.le_refl _
                      refine j_iload (i := 6) C dX9_collect_168 0 rfl ?_
                      refine j_bipush (x := 8) C dX9_collect_170 (by decide) ?_
                      refine j_icmp_ge (tgt := 242) C dX9_collect_172 (by decide) (fun _ => ?_) (fun c9 => absurd lf2 c9)
                      exact hx2
                    | succ d2 ih2 =>
                      intro i2 hi
                      have hlt2 : i2 < 8 := by omega
                      have lf2 : ¬ 8 ≤ (nI i2) := nI_ge (b := 8) hlt2 (by decide)
                      refine j_iload (i := 6) C dX9_collect_168 0 rfl ?_
                      refine j_bipush (x := 8) C dX9_collect_170 (by decide) ?_
                      refine j_icmp_ge (tgt := 242) C dX9_collect_172 (by decide) (fun c9 => absurd c9 lf2) (fun _ => ?_)
                      refine j_aload_n (i := 0) C dX9_collect_175 rfl 4 rfl ?_
                      refine g_22_lent C dX9_collect_176 lf_X9_33 ?_
                      refine j_bipush (x := 8) C dX9_collect_179 (by decide) ?_
                      refine j_iload_n (i := 1) C dX9_collect_181 rfl 5 rfl ?_
                      refine j_imulN (a := 8) (b := 1) C dX9_collect_182 rfl rfl ?_
                      refine j_iload (i := 6) C dX9_collect_183 0 rfl ?_
                      refine j_iaddN (a := (8 * 1)) (b := i2) C dX9_collect_185 rfl rfl ?_
                      refine aln_38 (q := ((8 * 1) + i2)) (F := ((L_X9_collect2 u g a i2) 38)) C dX9_collect_186 (by omega) rfl rfl ?_
                      refine j_if_eq (tgt := 236) C dX9_collect_187 (by decide) (fun c_15 => ?_) (fun c_15 => ?_)
                      · refine j_iinc (y := (nI (i2 + 1))) (lv' := [(6, .int (nI (i2 + 1))), (4, .long (Q_X9_collect_5 u g a)), (3, .int ((nI ((256 * 1) + 156)) + (8 * (((g 41) 1) - ((g 41) 1) / 8 * 8)))), (2, .int (((Q_X9_collect_4 u g a) : Int64).toInt32)), (0, .ref (ad 22)), (1, .int 1)]) C dX9_collect_236 0 rfl (nI_1 _) (by decide) rfl ?_
                        refine j_goto (tgt := 168) C dX9_collect_239 (by decide) ?_
                        refine j_lv (lv' := [(6, .int (nI (i2 + 1))), (4, .long (Q_X9_collect_5 u g a)), (3, .int ((nI ((256 * 1) + 156)) + (8 * (((g 41) 1) - ((g 41) 1) / 8 * 8)))), (2, .int (((Q_X9_collect_4 u g a) : Int64).toInt32)), (0, .ref (ad 22)), (1, .int 1)]) [0, 1, 2, 3, 4, 5] rfl ?_
                        have e8 := ih2 (i2 + 1) (by omega)
                        rw [show L_X9_collect2 u g a (i2 + 1) = (L_X9_collect2 u g a i2) from by rw [L_X9_collect2, if_pos c_15]] at e8
                        try dsimp only at e8
                        exact e8
                      · refine j_aload_n (i := 0) C dX9_collect_190 rfl 4 rfl ?_
                        refine g_22_heads C dX9_collect_191 lf_X9_37 ?_
                        refine j_bipush (x := 8) C dX9_collect_194 (by decide) ?_
                        refine j_iload_n (i := 1) C dX9_collect_196 rfl 5 rfl ?_
                        refine j_imulN (a := 8) (b := 1) C dX9_collect_197 rfl rfl ?_
                        refine j_iload (i := 6) C dX9_collect_198 0 rfl ?_
                        refine j_iaddN (a := (8 * 1)) (b := i2) C dX9_collect_200 rfl rfl ?_
                        refine aln_39 (q := ((8 * 1) + i2)) (F := ((L_X9_collect2 u g a i2) 39)) C dX9_collect_201 (by omega) rfl rfl ?_
                        refine j_i2l C dX9_collect_202 ?_
                        refine j_lload (i := 4) C dX9_collect_203 1 rfl ?_
                        refine j_lcmp C dX9_collect_205 ?_
                        refine j_if_ne (tgt := 236) C dX9_collect_206 (by decide) (fun c_16 => ?_) (fun c_16 => ?_)
                        · refine j_iinc (y := (nI (i2 + 1))) (lv' := [(6, .int (nI (i2 + 1))), (4, .long (Q_X9_collect_5 u g a)), (3, .int ((nI ((256 * 1) + 156)) + (8 * (((g 41) 1) - ((g 41) 1) / 8 * 8)))), (2, .int (((Q_X9_collect_4 u g a) : Int64).toInt32)), (0, .ref (ad 22)), (1, .int 1)]) C dX9_collect_236 0 rfl (nI_1 _) (by decide) rfl ?_
                          refine j_goto (tgt := 168) C dX9_collect_239 (by decide) ?_
                          refine j_lv (lv' := [(6, .int (nI (i2 + 1))), (4, .long (Q_X9_collect_5 u g a)), (3, .int ((nI ((256 * 1) + 156)) + (8 * (((g 41) 1) - ((g 41) 1) / 8 * 8)))), (2, .int (((Q_X9_collect_4 u g a) : Int64).toInt32)), (0, .ref (ad 22)), (1, .int 1)]) [0, 1, 2, 3, 4, 5] rfl ?_
                          have e8 := ih2 (i2 + 1) (by omega)
                          rw [show L_X9_collect2 u g a (i2 + 1) = (L_X9_collect2 u g a i2) from by rw [L_X9_collect2, if_neg c_15, if_neg c_16]] at e8
                          try dsimp only at e8
                          exact e8
                        · refine j_aload_n (i := 0) C dX9_collect_209 rfl 4 rfl ?_
                          refine g_22_lent C dX9_collect_210 lf_X9_33 ?_
                          refine j_bipush (x := 8) C dX9_collect_213 (by decide) ?_
                          refine j_iload_n (i := 1) C dX9_collect_215 rfl 5 rfl ?_
                          refine j_imulN (a := 8) (b := 1) C dX9_collect_216 rfl rfl ?_
                          refine j_iload (i := 6) C dX9_collect_217 0 rfl ?_
                          refine j_iaddN (a := (8 * 1)) (b := i2) C dX9_collect_219 rfl rfl ?_
                          refine j_iconst (x := 0) C dX9_collect_220 (by decide) ?_
                          refine asn_38 (q := ((8 * 1) + i2)) (F2 := ((L_X9_collect2 u g a i2) 38)) (F := (upd ((L_X9_collect2 u g a i2) 38) ((8 * 1) + i2) (vp_nar .boolean 0))) C dX9_collect_221 (by omega) rfl rfl rfl ?_
                          refine j_aload_n (i := 0) C dX9_collect_222 rfl 4 rfl ?_
                          refine g_22_heads C dX9_collect_223 lf_X9_37 ?_
                          refine j_bipush (x := 8) C dX9_collect_226 (by decide) ?_
                          refine j_iload_n (i := 1) C dX9_collect_228 rfl 5 rfl ?_
                          refine j_imulN (a := 8) (b := 1) C dX9_collect_229 rfl rfl ?_
                          refine j_iload (i := 6) C dX9_collect_230 0 rfl ?_
                          refine j_iaddN (a := (8 * 1)) (b := i2) C dX9_collect_232 rfl rfl ?_
                          refine j_bipush (x := (-2)) C dX9_collect_233 (by decide) ?_
                          refine asn_39 (q := ((8 * 1) + i2)) (F2 := ((va_up (L_X9_collect2 u g a i2) 38 (upd ((L_X9_collect2 u g a i2) 38) ((8 * 1) + i2) (vp_nar .boolean 0))) 39)) (F := (upd ((va_up (L_X9_collect2 u g a i2) 38 (upd ((L_X9_collect2 u g a i2) 38) ((8 * 1) + i2) (vp_nar .boolean 0))) 39) ((8 * 1) + i2) (-2))) C dX9_collect_235 (by omega) rfl rfl rfl ?_
                          refine j_iinc (y := (nI (i2 + 1))) (lv' := [(6, .int (nI (i2 + 1))), (4, .long (Q_X9_collect_5 u g a)), (3, .int ((nI ((256 * 1) + 156)) + (8 * (((g 41) 1) - ((g 41) 1) / 8 * 8)))), (2, .int (((Q_X9_collect_4 u g a) : Int64).toInt32)), (0, .ref (ad 22)), (1, .int 1)]) C dX9_collect_236 0 rfl (nI_1 _) (by decide) rfl ?_
                          refine j_goto (tgt := 168) C dX9_collect_239 (by decide) ?_
                          refine j_lv (lv' := [(6, .int (nI (i2 + 1))), (4, .long (Q_X9_collect_5 u g a)), (3, .int ((nI ((256 * 1) + 156)) + (8 * (((g 41) 1) - ((g 41) 1) / 8 * 8)))), (2, .int (((Q_X9_collect_4 u g a) : Int64).toInt32)), (0, .ref (ad 22)), (1, .int 1)]) [0, 1, 2, 3, 4, 5] rfl ?_
                          have e8 := ih2 (i2 + 1) (by omega)
                          rw [show L_X9_collect2 u g a (i2 + 1) = (va_up (va_up (L_X9_collect2 u g a i2) 38 (upd ((L_X9_collect2 u g a i2) 38) ((8 * 1) + i2) (vp_nar .boolean 0))) 39 (upd ((va_up (L_X9_collect2 u g a i2) 38 (upd ((L_X9_collect2 u g a i2) 38) ((8 * 1) + i2) (vp_nar .boolean 0))) 39) ((8 * 1) + i2) (-2))) from by rw [L_X9_collect2, if_neg c_15, if_pos c_16]] at e8
                          try dsimp only at e8
                          exact e8
                  have e7 := lp2 8 0 (by omega)
                  rw [L_X9_collect2] at e7
                  try dsimp only at e7
                  exact e7
                · refine j_bipush (x := (-3)) C dX9_collect_143 (by decide) ?_
                  have hs : S_X9_collect u g a = ((-3), (va_up g 41 (upd (g 41) 1 ((((g 41) 1) + 1) &&& 65535)))) := by unfold S_X9_collect; rw [if_neg c_1, if_neg c_2, if_neg c_3, if_pos c_10, if_neg c_11, if_neg c_12, if_neg c_13, if_neg c_14]
                  exact j_iret C hQ rfl dX9_collect_145 (dt_ifM hs)
          · refine j_iconst (x := (-1)) C dX9_collect_48 (by decide) ?_
            have hs : S_X9_collect u g a = ((-1), g) := by unfold S_X9_collect; rw [if_neg c_1, if_neg c_2, if_neg c_3, if_pos c_10, if_pos c_11]
            exact j_iret C hQ rfl dX9_collect_49 (dt_ifM hs)
        · have c_17 : a = 2 := in2 c_1 c_3 c_10
          refine j_to (lv2 := [(0, .ref (ad 22)), (1, .int 2)]) (st' := []) rfl (by first | rfl | (rw [c_17]; rfl)) (by first | rfl | (rw [c_17]; rfl) | rw [c_17]) ?_
          refine j_aload_n (i := 0) C dX9_collect_22 rfl 0 rfl ?_
          refine j_sipush (x := 256) C dX9_collect_23 (by decide) ?_
          refine j_iload_n (i := 1) C dX9_collect_26 rfl 1 rfl ?_
          refine j_imulN (a := 256) (b := 2) C dX9_collect_27 rfl rfl ?_
          refine j_sipush (x := 154) C dX9_collect_28 (by decide) ?_
          refine j_iaddN (a := (256 * 2)) (b := 154) C dX9_collect_31 rfl rfl ?_
          refine j_iconst (x := 2) C dX9_collect_32 (by decide) ?_
          refine c_V (As := [.int (nI ((256 * 2) + 154)), .int 2]) (rest := []) (st1 := [.long (Q_X9_collect_7 u g a)]) C (c_X9_number ε ad v f u g (nI ((256 * 2) + 154)) 2  (by first | assumption | omega | decide) ⟨_, rfl, by decide⟩) mv_X9_number lm_X9_90 dX9_collect_33 22 wl_22 rfl rfl rfl (by decide) (Nat.le_of_ble_eq_true rfl) rfl ?_
          refine j_l2i C dX9_collect_36 ?_
          refine j_istore_n (i := 2) (lv' := [(2, .int (((Q_X9_collect_7 u g a) : Int64).toInt32)), (0, .ref (ad 22)), (1, .int 2)]) C dX9_collect_37 rfl (by decide) rfl ?_
          refine j_iload_n (i := 2) C dX9_collect_38 rfl 0 rfl ?_
          refine j_aload_n (i := 0) C dX9_collect_39 rfl 1 rfl ?_
          refine g_22_saws C dX9_collect_40 lf_X9_27 ?_
          refine j_iload_n (i := 1) C dX9_collect_43 rfl 2 rfl ?_
          refine aln_41 (q := 2) (F := (g 41)) C dX9_collect_44 (by omega) rfl rfl ?_
          refine j_icmp_ne (tgt := 50) C dX9_collect_45 (by decide) (fun c_18 => ?_) (fun c_18 => ?_)
          · refine j_sipush (x := 256) C dX9_collect_50 (by decide) ?_
            refine j_iload_n (i := 1) C dX9_collect_53 rfl 2 rfl ?_
            refine j_imulN (a := 256) (b := 2) C dX9_collect_54 rfl rfl ?_
            refine j_sipush (x := 156) C dX9_collect_55 (by decide) ?_
            refine j_iaddN (a := (256 * 2)) (b := 156) C dX9_collect_58 rfl rfl ?_
            refine j_bipush (x := 8) C dX9_collect_59 (by decide) ?_
            refine j_aload_n (i := 0) C dX9_collect_61 rfl 1 rfl ?_
            refine g_22_saws C dX9_collect_62 lf_X9_27 ?_
            refine j_iload_n (i := 1) C dX9_collect_65 rfl 2 rfl ?_
            refine aln_41 (q := 2) (F := (g 41)) C dX9_collect_66 (by omega) rfl rfl ?_
            refine j_bipush (x := 8) C dX9_collect_67 (by decide) ?_
            refine j_irem C dX9_collect_69 (by decide) ?_
            refine j_imul C dX9_collect_70 ?_
            refine j_iadd C dX9_collect_71 ?_
            refine j_istore_n (i := 3) (lv' := [(3, .int ((nI ((256 * 2) + 156)) + (8 * (((g 41) 2) - ((g 41) 2) / 8 * 8)))), (2, .int (((Q_X9_collect_7 u g a) : Int64).toInt32)), (0, .ref (ad 22)), (1, .int 2)]) C dX9_collect_72 rfl (by decide) rfl ?_
            refine j_aload_n (i := 0) C dX9_collect_73 rfl 2 rfl ?_
            refine j_iload_n (i := 3) C dX9_collect_74 rfl 0 rfl ?_
            refine j_iconst (x := 4) C dX9_collect_75 (by decide) ?_
            refine c_V (As := [.int ((nI ((256 * 2) + 156)) + (8 * (((g 41) 2) - ((g 41) 2) / 8 * 8))), .int 4]) (rest := []) (st1 := [.long (Q_X9_collect_8 u g a)]) C (c_X9_number ε ad v f u g ((nI ((256 * 2) + 156)) + (8 * (((g 41) 2) - ((g 41) 2) / 8 * 8))) 4  (by first | assumption | omega | decide) ((co_ma (b := 668) (hM.1 2 (by decide)).2.2.2.2 (by decide)).le (by omega))) mv_X9_number lm_X9_90 dX9_collect_76 22 wl_22 rfl rfl rfl (by decide) (Nat.le_of_ble_eq_true rfl) rfl ?_
            refine j_lstore (i := 4) (lv' := [(4, .long (Q_X9_collect_8 u g a)), (3, .int ((nI ((256 * 2) + 156)) + (8 * (((g 41) 2) - ((g 41) 2) / 8 * 8)))), (2, .int (((Q_X9_collect_7 u g a) : Int64).toInt32)), (0, .ref (ad 22)), (1, .int 2)]) C dX9_collect_79 (by decide) rfl ?_
            refine j_aload_n (i := 0) C dX9_collect_81 rfl 3 rfl ?_
            refine g_22_saws C dX9_collect_82 lf_X9_27 ?_
            refine j_iload_n (i := 1) C dX9_collect_85 rfl 4 rfl ?_
            refine j_aload_n (i := 0) C dX9_collect_86 rfl 3 rfl ?_
            refine g_22_saws C dX9_collect_87 lf_X9_27 ?_
            refine j_iload_n (i := 1) C dX9_collect_90 rfl 4 rfl ?_
            refine aln_41 (q := 2) (F := (g 41)) C dX9_collect_91 (by omega) rfl rfl ?_
            refine j_iconst (x := 1) C dX9_collect_92 (by decide) ?_
            refine j_iadd C dX9_collect_93 ?_
            refine j_ldc C dX9_collect_94 li_X9_94 ?_
            refine j_iand C dX9_collect_96 ?_
            refine asn_41 (q := 2) (F2 := (g 41)) (F := (upd (g 41) 2 ((((g 41) 2) + 1) &&& 65535))) C dX9_collect_97 (by omega) rfl rfl rfl ?_
            refine j_lload (i := 4) C dX9_collect_98 0 rfl ?_
            refine j_ldc2 C dX9_collect_100 ll_X9_197 ?_
            refine j_lcmp C dX9_collect_103 ?_
            refine j_if_gt (tgt := 143) C dX9_collect_104 (by decide) (fun c_19 => ?_) (fun c_19 => ?_)
            · refine j_bipush (x := (-3)) C dX9_collect_143 (by decide) ?_
              have hs : S_X9_collect u g a = ((-3), (va_up g 41 (upd (g 41) 2 ((((g 41) 2) + 1) &&& 65535)))) := by unfold S_X9_collect; rw [if_neg c_1, if_neg c_2, if_neg c_3, if_neg c_10, if_neg c_18, if_pos c_19]
              exact j_iret C hQ rfl dX9_collect_145 (dt_ifM hs)
            · refine j_aload_n (i := 0) C dX9_collect_107 rfl 3 rfl ?_
              refine g_22_lent C dX9_collect_108 lf_X9_33 ?_
              refine j_bipush (x := 8) C dX9_collect_111 (by decide) ?_
              refine j_iload_n (i := 1) C dX9_collect_113 rfl 4 rfl ?_
              refine j_imulN (a := 8) (b := 2) C dX9_collect_114 rfl rfl ?_
              refine j_lload (i := 4) C dX9_collect_115 0 rfl ?_
              refine j_l2i C dX9_collect_117 ?_
              refine j_iadd C dX9_collect_118 ?_
              refine al_38 (F := ((va_up g 41 (upd (g 41) 2 ((((g 41) 2) + 1) &&& 65535))) 38)) C dX9_collect_119 (by obtain ⟨k9, h91, h92⟩ := n4 u g ((co_ma (b := 668) (hM.1 2 (by decide)).2.2.2.2 (by decide)).le (M := 4) (by omega)); exact co_in (q := 2) h91 h92 c_19 (by decide)) rfl ?_
              refine j_if_eq (tgt := 143) C dX9_collect_120 (by decide) (fun c_20 => ?_) (fun c_20 => ?_)
              · refine j_bipush (x := (-3)) C dX9_collect_143 (by decide) ?_
                have hs : S_X9_collect u g a = ((-3), (va_up g 41 (upd (g 41) 2 ((((g 41) 2) + 1) &&& 65535)))) := by unfold S_X9_collect; rw [if_neg c_1, if_neg c_2, if_neg c_3, if_neg c_10, if_neg c_18, if_neg c_19, if_pos c_20]
                exact j_iret C hQ rfl dX9_collect_145 (dt_ifM hs)
              · refine j_aload_n (i := 0) C dX9_collect_123 rfl 3 rfl ?_
                refine g_22_heads C dX9_collect_124 lf_X9_37 ?_
                refine j_bipush (x := 8) C dX9_collect_127 (by decide) ?_
                refine j_iload_n (i := 1) C dX9_collect_129 rfl 4 rfl ?_
                refine j_imulN (a := 8) (b := 2) C dX9_collect_130 rfl rfl ?_
                refine j_lload (i := 4) C dX9_collect_131 0 rfl ?_
                refine j_l2i C dX9_collect_133 ?_
                refine j_iadd C dX9_collect_134 ?_
                refine al_39 (F := ((va_up g 41 (upd (g 41) 2 ((((g 41) 2) + 1) &&& 65535))) 39)) C dX9_collect_135 (by obtain ⟨k9, h91, h92⟩ := n4 u g ((co_ma (b := 668) (hM.1 2 (by decide)).2.2.2.2 (by decide)).le (M := 4) (by omega)); exact co_in (q := 2) h91 h92 c_19 (by decide)) rfl ?_
                refine j_i2l C dX9_collect_136 ?_
                refine j_lload (i := 4) C dX9_collect_137 0 rfl ?_
                refine j_lcmp C dX9_collect_139 ?_
                refine j_if_eq (tgt := 146) C dX9_collect_140 (by decide) (fun c_21 => ?_) (fun c_21 => ?_)
                · refine j_aload_n (i := 0) C dX9_collect_146 rfl 3 rfl ?_
                  refine g_22_written C dX9_collect_147 lf_X9_30 ?_
                  refine j_iload_n (i := 1) C dX9_collect_150 rfl 4 rfl ?_
                  refine j_aload_n (i := 0) C dX9_collect_151 rfl 3 rfl ?_
                  refine j_iload_n (i := 3) C dX9_collect_152 rfl 1 rfl ?_
                  refine j_iconst (x := 4) C dX9_collect_153 (by decide) ?_
                  refine j_iadd C dX9_collect_154 ?_
                  refine j_iconst (x := 4) C dX9_collect_155 (by decide) ?_
                  refine c_V (As := [.int (((nI ((256 * 2) + 156)) + (8 * (((g 41) 2) - ((g 41) 2) / 8 * 8))) + 4), .int 4]) (rest := [.int 2, .ref (ad 42)]) (st1 := [.long (Q_X9_collect_9 u g a), .int 2, .ref (ad 42)]) C (c_X9_number ε ad v f u (va_up g 41 (upd (g 41) 2 ((((g 41) 2) + 1) &&& 65535))) (((nI ((256 * 2) + 156)) + (8 * (((g 41) 2) - ((g 41) 2) / 8 * 8))) + 4) 4  (by first | assumption | omega | decide) ((co_ma (b := 668) (hM.1 2 (by decide)).2.2.2.2 (by decide)).sub 4 (by omega))) mv_X9_number lm_X9_90 dX9_collect_156 22 wl_22 rfl rfl rfl (by decide) (Nat.le_of_ble_eq_true rfl) rfl ?_
                  refine j_ldc2 C dX9_collect_159 ll_X9_199 ?_
                  refine j_land C dX9_collect_162 ?_
                  refine j_l2i C dX9_collect_163 ?_
                  refine asn_42 (q := 2) (F2 := ((va_up g 41 (upd (g 41) 2 ((((g 41) 2) + 1) &&& 65535))) 42)) (F := (upd ((va_up g 41 (upd (g 41) 2 ((((g 41) 2) + 1) &&& 65535))) 42) 2 ((((Q_X9_collect_9 u g a) &&& 2147483647) : Int64).toInt32))) C dX9_collect_164 (by omega) rfl rfl rfl ?_
                  refine j_iconst (x := 0) C dX9_collect_165 (by decide) ?_
                  refine j_istore (i := 6) (lv' := [(6, .int 0), (4, .long (Q_X9_collect_8 u g a)), (3, .int ((nI ((256 * 2) + 156)) + (8 * (((g 41) 2) - ((g 41) 2) / 8 * 8)))), (2, .int (((Q_X9_collect_7 u g a) : Int64).toInt32)), (0, .ref (ad 22)), (1, .int 2)]) C dX9_collect_166 (by decide) rfl ?_
                  have hx3 : JW κ 0 0 (WD ε ad v f u (L_X9_collect3 u g a 8)) 242 [(6, .int (nI 8)), (4, .long (Q_X9_collect_8 u g a)), (3, .int ((nI ((256 * 2) + 156)) + (8 * (((g 41) 2) - ((g 41) 2) / 8 * 8)))), (2, .int (((Q_X9_collect_7 u g a) : Int64).toInt32)), (0, .ref (ad 22)), (1, .int 2)] [] := by
                    refine j_lload (i := 4) C dX9_collect_242 1 rfl ?_
                    refine j_l2i C dX9_collect_244 ?_
                    have hs : S_X9_collect u g a = ((((Q_X9_collect_8 u g a) : Int64).toInt32), (L_X9_collect3 u g a 8)) := by unfold S_X9_collect; rw [if_neg c_1, if_neg c_2, if_neg c_3, if_neg c_10, if_neg c_18, if_neg c_19, if_neg c_20, if_pos c_21]
                    exact j_iret C hQ rfl dX9_collect_245 (dt_ifM hs)
                  have lp3 : ∀ d3 i3 : Nat, i3 + d3 = 8 → JW κ 0 0 (WD ε ad v f u (L_X9_collect3 u g a i3)) 168 [(6, .int (nI i3)), (4, .long (Q_X9_collect_8 u g a)), (3, .int ((nI ((256 * 2) + 156)) + (8 * (((g 41) 2) - ((g 41) 2) / 8 * 8)))), (2, .int (((Q_X9_collect_7 u g a) : Int64).toInt32)), (0, .ref (ad 22)), (1, .int 2)] [] := by
                    intro d3
                    induction d3 with
                    | zero =>
                      intro i3 hi
                      have e9 : i3 = 8 := by omega
                      rw [e9]
                      have lf3 : 8 ≤ (nI 8) := Int32.le_refl _
                      refine j_iload (i := 6) C dX9_collect_168 0 rfl ?_
                      refine j_bipush (x := 8) C dX9_collect_170 (by decide) ?_
                      refine j_icmp_ge (tgt := 242) C dX9_collect_172 (by decide) (fun _ => ?_) (fun c9 => absurd lf3 c9)
                      exact hx3
                    | succ d3 ih3 =>
                      intro i3 hi
                      have hlt3 : i3 < 8 := by omega
                      have lf3 : ¬ 8 ≤ (nI i3) := nI_ge (b := 8) hlt3 (by decide)
                      refine j_iload (i := 6) C dX9_collect_168 0 rfl ?_
                      refine j_bipush (x := 8) C dX9_collect_170 (by decide) ?_
                      refine j_icmp_ge (tgt := 242) C dX9_collect_172 (by decide) (fun c9 => absurd c9 lf3) (fun _ => ?_)
                      refine j_aload_n (i := 0) C dX9_collect_175 rfl 4 rfl ?_
                      refine g_22_lent C dX9_collect_176 lf_X9_33 ?_
                      refine j_bipush (x := 8) C dX9_collect_179 (by decide) ?_
                      refine j_iload_n (i := 1) C dX9_collect_181 rfl 5 rfl ?_
                      refine j_imulN (a := 8) (b := 2) C dX9_collect_182 rfl rfl ?_
                      refine j_iload (i := 6) C dX9_collect_183 0 rfl ?_
                      refine j_iaddN (a := (8 * 2)) (b := i3) C dX9_collect_185 rfl rfl ?_
                      refine aln_38 (q := ((8 * 2) + i3)) (F := ((L_X9_collect3 u g a i3) 38)) C dX9_collect_186 (by omega) rfl rfl ?_
                      refine j_if_eq (tgt := 236) C dX9_collect_187 (by decide) (fun c_22 => ?_) (fun c_22 => ?_)
                      · refine j_iinc (y := (nI (i3 + 1))) (lv' := [(6, .int (nI (i3 + 1))), (4, .long (Q_X9_collect_8 u g a)), (3, .int ((nI ((256 * 2) + 156)) + (8 * (((g 41) 2) - ((g 41) 2) / 8 * 8)))), (2, .int (((Q_X9_collect_7 u g a) : Int64).toInt32)), (0, .ref (ad 22)), (1, .int 2)]) C dX9_collect_236 0 rfl (nI_1 _) (by decide) rfl ?_
                        refine j_goto (tgt := 168) C dX9_collect_239 (by decide) ?_
                        refine j_lv (lv' := [(6, .int (nI (i3 + 1))), (4, .long (Q_X9_collect_8 u g a)), (3, .int ((nI ((256 * 2) + 156)) + (8 * (((g 41) 2) - ((g 41) 2) / 8 * 8)))), (2, .int (((Q_X9_collect_7 u g a) : Int64).toInt32)), (0, .ref (ad 22)), (1, .int 2)]) [0, 1, 2, 3, 4, 5] rfl ?_
                        have e8 := ih3 (i3 + 1) (by omega)
                        rw [show L_X9_collect3 u g a (i3 + 1) = (L_X9_collect3 u g a i3) from by rw [L_X9_collect3, if_pos c_22]] at e8
                        try dsimp only at e8
                        exact e8
                      · refine j_aload_n (i := 0) C dX9_collect_190 rfl 4 rfl ?_
                        refine g_22_heads C dX9_collect_191 lf_X9_37 ?_
                        refine j_bipush (x := 8) C dX9_collect_194 (by decide) ?_
                        refine j_iload_n (i := 1) C dX9_collect_196 rfl 5 rfl ?_
                        refine j_imulN (a := 8) (b := 2) C dX9_collect_197 rfl rfl ?_
                        refine j_iload (i := 6) C dX9_collect_198 0 rfl ?_
                        refine j_iaddN (a := (8 * 2)) (b := i3) C dX9_collect_200 rfl rfl ?_
                        refine aln_39 (q := ((8 * 2) + i3)) (F := ((L_X9_collect3 u g a i3) 39)) C dX9_collect_201 (by omega) rfl rfl ?_
                        refine j_i2l C dX9_collect_202 ?_
                        refine j_lload (i := 4) C dX9_collect_203 1 rfl ?_
                        refine j_lcmp C dX9_collect_205 ?_
                        refine j_if_ne (tgt := 236) C dX9_collect_206 (by decide) (fun c_23 => ?_) (fun c_23 => ?_)
                        · refine j_iinc (y := (nI (i3 + 1))) (lv' := [(6, .int (nI (i3 + 1))), (4, .long (Q_X9_collect_8 u g a)), (3, .int ((nI ((256 * 2) + 156)) + (8 * (((g 41) 2) - ((g 41) 2) / 8 * 8)))), (2, .int (((Q_X9_collect_7 u g a) : Int64).toInt32)), (0, .ref (ad 22)), (1, .int 2)]) C dX9_collect_236 0 rfl (nI_1 _) (by decide) rfl ?_
                          refine j_goto (tgt := 168) C dX9_collect_239 (by decide) ?_
                          refine j_lv (lv' := [(6, .int (nI (i3 + 1))), (4, .long (Q_X9_collect_8 u g a)), (3, .int ((nI ((256 * 2) + 156)) + (8 * (((g 41) 2) - ((g 41) 2) / 8 * 8)))), (2, .int (((Q_X9_collect_7 u g a) : Int64).toInt32)), (0, .ref (ad 22)), (1, .int 2)]) [0, 1, 2, 3, 4, 5] rfl ?_
                          have e8 := ih3 (i3 + 1) (by omega)
                          rw [show L_X9_collect3 u g a (i3 + 1) = (L_X9_collect3 u g a i3) from by rw [L_X9_collect3, if_neg c_22, if_neg c_23]] at e8
                          try dsimp only at e8
                          exact e8
                        · refine j_aload_n (i := 0) C dX9_collect_209 rfl 4 rfl ?_
                          refine g_22_lent C dX9_collect_210 lf_X9_33 ?_
                          refine j_bipush (x := 8) C dX9_collect_213 (by decide) ?_
                          refine j_iload_n (i := 1) C dX9_collect_215 rfl 5 rfl ?_
                          refine j_imulN (a := 8) (b := 2) C dX9_collect_216 rfl rfl ?_
                          refine j_iload (i := 6) C dX9_collect_217 0 rfl ?_
                          refine j_iaddN (a := (8 * 2)) (b := i3) C dX9_collect_219 rfl rfl ?_
                          refine j_iconst (x := 0) C dX9_collect_220 (by decide) ?_
                          refine asn_38 (q := ((8 * 2) + i3)) (F2 := ((L_X9_collect3 u g a i3) 38)) (F := (upd ((L_X9_collect3 u g a i3) 38) ((8 * 2) + i3) (vp_nar .boolean 0))) C dX9_collect_221 (by omega) rfl rfl rfl ?_
                          refine j_aload_n (i := 0) C dX9_collect_222 rfl 4 rfl ?_
                          refine g_22_heads C dX9_collect_223 lf_X9_37 ?_
                          refine j_bipush (x := 8) C dX9_collect_226 (by decide) ?_
                          refine j_iload_n (i := 1) C dX9_collect_228 rfl 5 rfl ?_
                          refine j_imulN (a := 8) (b := 2) C dX9_collect_229 rfl rfl ?_
                          refine j_iload (i := 6) C dX9_collect_230 0 rfl ?_
                          refine j_iaddN (a := (8 * 2)) (b := i3) C dX9_collect_232 rfl rfl ?_
                          refine j_bipush (x := (-2)) C dX9_collect_233 (by decide) ?_
                          refine asn_39 (q := ((8 * 2) + i3)) (F2 := ((va_up (L_X9_collect3 u g a i3) 38 (upd ((L_X9_collect3 u g a i3) 38) ((8 * 2) + i3) (vp_nar .boolean 0))) 39)) (F := (upd ((va_up (L_X9_collect3 u g a i3) 38 (upd ((L_X9_collect3 u g a i3) 38) ((8 * 2) + i3) (vp_nar .boolean 0))) 39) ((8 * 2) + i3) (-2))) C dX9_collect_235 (by omega) rfl rfl rfl ?_
                          refine j_iinc (y := (nI (i3 + 1))) (lv' := [(6, .int (nI (i3 + 1))), (4, .long (Q_X9_collect_8 u g a)), (3, .int ((nI ((256 * 2) + 156)) + (8 * (((g 41) 2) - ((g 41) 2) / 8 * 8)))), (2, .int (((Q_X9_collect_7 u g a) : Int64).toInt32)), (0, .ref (ad 22)), (1, .int 2)]) C dX9_collect_236 0 rfl (nI_1 _) (by decide) rfl ?_
                          refine j_goto (tgt := 168) C dX9_collect_239 (by decide) ?_
                          refine j_lv (lv' := [(6, .int (nI (i3 + 1))), (4, .long (Q_X9_collect_8 u g a)), (3, .int ((nI ((256 * 2) + 156)) + (8 * (((g 41) 2) - ((g 41) 2) / 8 * 8)))), (2, .int (((Q_X9_collect_7 u g a) : Int64).toInt32)), (0, .ref (ad 22)), (1, .int 2)]) [0, 1, 2, 3, 4, 5] rfl ?_
                          have e8 := ih3 (i3 + 1) (by omega)
                          rw [show L_X9_collect3 u g a (i3 + 1) = (va_up (va_up (L_X9_collect3 u g a i3) 38 (upd ((L_X9_collect3 u g a i3) 38) ((8 * 2) + i3) (vp_nar .boolean 0))) 39 (upd ((va_up (L_X9_collect3 u g a i3) 38 (upd ((L_X9_collect3 u g a i3) 38) ((8 * 2) + i3) (vp_nar .boolean 0))) 39) ((8 * 2) + i3) (-2))) from by rw [L_X9_collect3, if_neg c_22, if_pos c_23]] at e8
                          try dsimp only at e8
                          exact e8
                  have e7 := lp3 8 0 (by omega)
                  rw [L_X9_collect3] at e7
                  try dsimp only at e7
                  exact e7
                · refine j_bipush (x := (-3)) C dX9_collect_143 (by decide) ?_
                  have hs : S_X9_collect u g a = ((-3), (va_up g 41 (upd (g 41) 2 ((((g 41) 2) + 1) &&& 65535)))) := by unfold S_X9_collect; rw [if_neg c_1, if_neg c_2, if_neg c_3, if_neg c_10, if_neg c_18, if_neg c_19, if_neg c_20, if_neg c_21]
                  exact j_iret C hQ rfl dX9_collect_145 (dt_ifM hs)
          · refine j_iconst (x := (-1)) C dX9_collect_48 (by decide) ?_
            have hs : S_X9_collect u g a = ((-1), g) := by unfold S_X9_collect; rw [if_neg c_1, if_neg c_2, if_neg c_3, if_neg c_10, if_pos c_18]
            exact j_iret C hQ rfl dX9_collect_49 (dt_ifM hs)
    · refine j_bipush (x := (-4)) C dX9_collect_19 (by decide) ?_
      have hs : S_X9_collect u g a = ((-4), g) := by unfold S_X9_collect; rw [if_neg c_1, if_pos c_2]
      exact j_iret C hQ rfl dX9_collect_21 (dt_ifM hs)
  · refine j_bipush (x := (-2)) C dX9_collect_9 (by decide) ?_
    have hs : S_X9_collect u g a = ((-2), g) := by unfold S_X9_collect; rw [if_pos c_1]
    exact j_iret C hQ rfl dX9_collect_11 (dt_ifM hs)

