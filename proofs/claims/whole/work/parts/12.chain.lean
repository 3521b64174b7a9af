theorem vp_i1 {x : Int32} {N : Nat} {M : Int32} (h0 : 0 ≤ x.toInt) (h1 : ¬ M ≤ x) (hM : M.toInt = N) : vp_in x N := by
  rw [vp_in_iff]
  rw [Int32.le_iff_toInt_le] at h1
  omega
theorem inc_pos {x : Int32} (h0 : 0 ≤ x.toInt) (h1 : ¬ (16 : Int32) ≤ x) : 0 ≤ (x + 1).toInt := by
  obtain ⟨j, hj, rfl⟩ := vp_in_of (vp_i1 (N := 16) h0 h1 rfl) (by decide)
  rw [nI_1, nI_toInt (by omega)]; omega
def S_X0_forget (v : Nat → Int32) (f : Nat → Nat → Int32)  : (Nat → Int32) :=
  (upd (upd (upd (upd (upd v 28 0) 29 0) 35 0) 36 0) 33 (-1))
set_option maxHeartbeats 1000000 in
set_option maxRecDepth 100000 in
theorem c_X0_forget (ε : ET) (ad : Nat → Nat) (v : Nat → Int32) (f : Nat → Nat → Int32) (u : Nat → Int32) (g : Nat → Nat → Int32)   : CT ε yX0_forget cX0_forget 1 none 0 0 0 0 [.ref (ad 7)] (WD ε ad v f u g) (DT none (WD ε ad (S_X0_forget v f) f u g)) := by
  refine CT.of (own := RX0) (by decide) rfl (Nat.le_of_ble_eq_true rfl) (fun κ C hQ => ?_)
  refine j_aload_n (i := 0) C dX0_forget_0 rfl 0 rfl ?_
  refine j_iconst (x := 0) C dX0_forget_1 (by decide) ?_
  refine p_7_parts C dX0_forget_2 lf_X0_22 ?_
  refine j_aload_n (i := 0) C dX0_forget_5 rfl 0 rfl ?_
  refine j_iconst (x := 0) C dX0_forget_6 (by decide) ?_
  refine p_7_readParts C dX0_forget_7 lf_X0_26 ?_
  refine j_aload_n (i := 0) C dX0_forget_10 rfl 0 rfl ?_
  refine j_iconst (x := 0) C dX0_forget_11 (by decide) ?_
  refine p_7_readable C dX0_forget_12 lf_X0_29 ?_
  refine j_aload_n (i := 0) C dX0_forget_15 rfl 0 rfl ?_
  refine j_iconst (x := 0) C dX0_forget_16 (by decide) ?_
  refine p_7_writable C dX0_forget_17 lf_X0_32 ?_
  refine j_aload_n (i := 0) C dX0_forget_20 rfl 0 rfl ?_
  refine j_iconst (x := (-1)) C dX0_forget_21 (by decide) ?_
  refine p_7_lastPlace C dX0_forget_22 lf_X0_35 ?_
  have hs : S_X0_forget v f = (upd (upd (upd (upd (upd v 28 0) 29 0) 35 0) 36 0) 33 (-1)) := by unfold S_X0_forget; rfl
  exact j_vret C hQ rfl dX0_forget_25 (dt_nv hs)

def Q_X0_isTable_1 (v : Nat → Int32) (f : Nat → Nat → Int32) (a : Int32) (b : Int32) : Int32 := (S_X8_liesInMemory v f (S_X5_number v f a 8) (S_X5_number v f (a + 8) 4))
def S_X0_isTable (v : Nat → Int32) (f : Nat → Nat → Int32) (a : Int32) (b : Int32) : Int32 :=
  if 16 ≤ (v 28) then 0
  else if (b &&& 1) = 0 then if (lg_cmp (S_X5_number v f (a + 8) 4) 0) ≤ 0 then 0
      else if 0 < (lg_cmp (S_X5_number v f (a + 8) 4) 256) then 0
        else if (lg_cmp ((S_X5_number v f (a + 8) 4) - (S_X5_number v f (a + 8) 4) / 16 * 16) 0) = 0 then if (Q_X0_isTable_1 v f a b) = 0 then 0
            else 1
          else 0
    else 0
set_option maxHeartbeats 1000000 in
set_option maxRecDepth 100000 in
theorem c_X0_isTable (ε : ET) (ad : Nat → Nat) (v : Nat → Int32) (f : Nat → Nat → Int32) (u : Nat → Int32) (g : Nat → Nat → Int32) (a : Int32) (b : Int32)  : CT ε yX0_isTable cX0_isTable 5 (some .boolean) 2 46 0 0 [.ref (ad 7), .int a, .int b] (WD ε ad v f u g) (DT (some (.int (S_X0_isTable v f a b))) (WD ε ad v f u g)) := by
  refine CT.of (own := RX0) (by decide) rfl (Nat.le_of_ble_eq_true rfl) (fun κ C hQ => ?_)
  refine j_aload_n (i := 0) C dX0_isTable_0 rfl 0 rfl ?_
  refine g_7_memory C dX0_isTable_1 lf_X0_9 ?_
  refine j_iload_n (i := 1) C dX0_isTable_4 rfl 1 rfl ?_
  refine j_bipush (x := 8) C dX0_isTable_5 (by decide) ?_
  refine j_iadd C dX0_isTable_7 ?_
  refine j_iconst (x := 4) C dX0_isTable_8 (by decide) ?_
  refine c_V (As := [.int (a + 8), .int 4]) (rest := []) (st1 := [.long (S_X5_number v f (a + 8) 4)]) C (c_X5_number ε ad v f u g (a + 8) 4  (by first | assumption | omega | decide)) mv_X5_number lm_X0_66 dX0_isTable_9 1 wl_1 rfl rfl rfl (by decide) (Nat.le_of_ble_eq_true rfl) rfl ?_
  refine j_lstore_n (i := 3) (lv' := [(3, .long (S_X5_number v f (a + 8) 4)), (0, .ref (ad 7)), (1, .int a), (2, .int b)]) C dX0_isTable_12 rfl (by decide) rfl ?_
  refine j_aload_n (i := 0) C dX0_isTable_13 rfl 1 rfl ?_
  refine g_7_parts (x := (v 28)) C dX0_isTable_14 lf_X0_22 rfl ?_
  refine j_bipush (x := 16) C dX0_isTable_17 (by decide) ?_
  refine j_icmp_ge (tgt := 73) C dX0_isTable_19 (by decide) (fun c_1 => ?_) (fun c_1 => ?_)
  · refine j_iconst (x := 0) C dX0_isTable_73 (by decide) ?_
    have hs : S_X0_isTable v f a b = 0 := by unfold S_X0_isTable; rw [if_pos c_1]
    exact j_zret C hQ rfl rfl dX0_isTable_74 (dt_i hs)
  · refine j_iload_n (i := 2) C dX0_isTable_22 rfl 3 rfl ?_
    refine j_iconst (x := 1) C dX0_isTable_23 (by decide) ?_
    refine j_iand C dX0_isTable_24 ?_
    refine j_if_ne (tgt := 73) C dX0_isTable_25 (by decide) (fun c_2 => ?_) (fun c_2 => ?_)
    · refine j_iconst (x := 0) C dX0_isTable_73 (by decide) ?_
      have hs : S_X0_isTable v f a b = 0 := by unfold S_X0_isTable; rw [if_neg c_1, if_neg c_2]
      exact j_zret C hQ rfl rfl dX0_isTable_74 (dt_i hs)
    · refine j_lload_n (i := 3) C dX0_isTable_28 rfl 0 rfl ?_
      refine j_lconst (x := 0) C dX0_isTable_29 (by decide) ?_
      refine j_lcmp C dX0_isTable_30 ?_
      refine j_if_le (tgt := 73) C dX0_isTable_31 (by decide) (fun c_3 => ?_) (fun c_3 => ?_)
      · refine j_iconst (x := 0) C dX0_isTable_73 (by decide) ?_
        have hs : S_X0_isTable v f a b = 0 := by unfold S_X0_isTable; rw [if_neg c_1, if_pos c_2, if_pos c_3]
        exact j_zret C hQ rfl rfl dX0_isTable_74 (dt_i hs)
      · refine j_lload_n (i := 3) C dX0_isTable_34 rfl 0 rfl ?_
        refine j_ldc2 C dX0_isTable_35 ll_X0_74 ?_
        refine j_lcmp C dX0_isTable_38 ?_
        refine j_if_gt (tgt := 73) C dX0_isTable_39 (by decide) (fun c_4 => ?_) (fun c_4 => ?_)
        · refine j_iconst (x := 0) C dX0_isTable_73 (by decide) ?_
          have hs : S_X0_isTable v f a b = 0 := by unfold S_X0_isTable; rw [if_neg c_1, if_pos c_2, if_neg c_3, if_pos c_4]
          exact j_zret C hQ rfl rfl dX0_isTable_74 (dt_i hs)
        · refine j_lload_n (i := 3) C dX0_isTable_42 rfl 0 rfl ?_
          refine j_ldc2 C dX0_isTable_43 ll_X0_76 ?_
          refine j_lrem C dX0_isTable_46 (by decide) ?_
          refine j_lconst (x := 0) C dX0_isTable_47 (by decide) ?_
          refine j_lcmp C dX0_isTable_48 ?_
          refine j_if_ne (tgt := 73) C dX0_isTable_49 (by decide) (fun c_5 => ?_) (fun c_5 => ?_)
          · refine j_iconst (x := 0) C dX0_isTable_73 (by decide) ?_
            have hs : S_X0_isTable v f a b = 0 := by unfold S_X0_isTable; rw [if_neg c_1, if_pos c_2, if_neg c_3, if_neg c_4, if_neg c_5]
            exact j_zret C hQ rfl rfl dX0_isTable_74 (dt_i hs)
          · refine j_aload_n (i := 0) C dX0_isTable_52 rfl 1 rfl ?_
            refine g_7_memory C dX0_isTable_53 lf_X0_9 ?_
            refine j_iload_n (i := 1) C dX0_isTable_56 rfl 2 rfl ?_
            refine j_bipush (x := 8) C dX0_isTable_57 (by decide) ?_
            refine c_V (As := [.int a, .int 8]) (rest := []) (st1 := [.long (S_X5_number v f a 8)]) C (c_X5_number ε ad v f u g a 8  (by first | assumption | omega | decide)) mv_X5_number lm_X0_66 dX0_isTable_59 1 wl_1 rfl rfl rfl (by decide) (Nat.le_of_ble_eq_true rfl) rfl ?_
            refine j_lload_n (i := 3) C dX0_isTable_62 rfl 0 rfl ?_
            refine c_SN (As := [.long (S_X5_number v f a 8), .long (S_X5_number v f (a + 8) 4)]) (rest := []) (st1 := [.int (Q_X0_isTable_1 v f a b)]) C (c_X8_liesInMemory ε ad v f u g (S_X5_number v f a 8) (S_X5_number v f (a + 8) 4)  ) mt_X8_liesInMemory nw_X0_78 dX0_isTable_63 rfl rfl (by decide) (Nat.le_of_ble_eq_true rfl) rfl ?_
            refine j_if_eq (tgt := 73) C dX0_isTable_66 (by decide) (fun c_6 => ?_) (fun c_6 => ?_)
            · refine j_iconst (x := 0) C dX0_isTable_73 (by decide) ?_
              have hs : S_X0_isTable v f a b = 0 := by unfold S_X0_isTable; rw [if_neg c_1, if_pos c_2, if_neg c_3, if_neg c_4, if_pos c_5, if_pos c_6]
              exact j_zret C hQ rfl rfl dX0_isTable_74 (dt_i hs)
            · refine j_iconst (x := 1) C dX0_isTable_69 (by decide) ?_
              refine j_goto (tgt := 74) C dX0_isTable_70 (by decide) ?_
              have hs : S_X0_isTable v f a b = 1 := by unfold S_X0_isTable; rw [if_neg c_1, if_pos c_2, if_neg c_3, if_neg c_4, if_pos c_5, if_neg c_6]
              exact j_zret C hQ rfl rfl dX0_isTable_74 (dt_i hs)

def Q_X0_addPart_1 (v : Nat → Int32) (f : Nat → Nat → Int32) (a : Int32) (b : Int32) : Int32 := (S_X8_liesInMemory v f (S_X5_number v f a 8) (S_X5_number v f (a + 8) 4))
def S_X0_addPart (v : Nat → Int32) (f : Nat → Nat → Int32) (a : Int32) (b : Int32) : Int32 × (Nat → Int32) × (Nat → Nat → Int32) :=
  if 16 ≤ (v 28) then (0, v, f)
  else if (lg_cmp (S_X5_number v f (a + 8) 4) 0) ≤ 0 then if b = 0 then if (v 28) ≤ (v 29) then (1, (upd (upd (upd v 28 ((v 28) + 1)) 29 ((v 28) + 1)) 35 (((upd (upd v 28 ((v 28) + 1)) 29 ((v 28) + 1)) 35) + (((S_X5_number v f (a + 8) 4) : Int64).toInt32))), (va_up (va_up f 8 (upd (f 8) ((v 28)).toNatClampNeg (((S_X5_number v f a 8) : Int64).toInt32))) 9 (upd ((va_up f 8 (upd (f 8) ((v 28)).toNatClampNeg (((S_X5_number v f a 8) : Int64).toInt32))) 9) ((v 28)).toNatClampNeg (((S_X5_number v f (a + 8) 4) : Int64).toInt32))))
        else (0, v, f)
      else (1, (upd v 28 ((v 28) + 1)), (va_up (va_up f 8 (upd (f 8) ((v 28)).toNatClampNeg (((S_X5_number v f a 8) : Int64).toInt32))) 9 (upd ((va_up f 8 (upd (f 8) ((v 28)).toNatClampNeg (((S_X5_number v f a 8) : Int64).toInt32))) 9) ((v 28)).toNatClampNeg (((S_X5_number v f (a + 8) 4) : Int64).toInt32))))
    else if (Q_X0_addPart_1 v f a b) = 0 then (0, v, f)
      else if b = 0 then if (v 28) ≤ (v 29) then (1, (upd (upd (upd v 28 ((v 28) + 1)) 29 ((v 28) + 1)) 35 (((upd (upd v 28 ((v 28) + 1)) 29 ((v 28) + 1)) 35) + (((S_X5_number v f (a + 8) 4) : Int64).toInt32))), (va_up (va_up f 8 (upd (f 8) ((v 28)).toNatClampNeg (((S_X5_number v f a 8) : Int64).toInt32))) 9 (upd ((va_up f 8 (upd (f 8) ((v 28)).toNatClampNeg (((S_X5_number v f a 8) : Int64).toInt32))) 9) ((v 28)).toNatClampNeg (((S_X5_number v f (a + 8) 4) : Int64).toInt32))))
          else (0, v, f)
        else (1, (upd (upd (upd v 28 ((v 28) + 1)) 36 (((upd v 28 ((v 28) + 1)) 36) + (((S_X5_number v f (a + 8) 4) : Int64).toInt32))) 33 (((((S_X5_number v f a 8) + (S_X5_number v f (a + 8) 4)) : Int64).toInt32) - 1)), (va_up (va_up f 8 (upd (f 8) ((v 28)).toNatClampNeg (((S_X5_number v f a 8) : Int64).toInt32))) 9 (upd ((va_up f 8 (upd (f 8) ((v 28)).toNatClampNeg (((S_X5_number v f a 8) : Int64).toInt32))) 9) ((v 28)).toNatClampNeg (((S_X5_number v f (a + 8) 4) : Int64).toInt32))))
set_option maxHeartbeats 1000000 in
set_option maxRecDepth 100000 in
theorem c_X0_addPart (ε : ET) (ad : Nat → Nat) (v : Nat → Int32) (f : Nat → Nat → Int32) (u : Nat → Int32) (g : Nat → Nat → Int32) (a : Int32) (b : Int32) (hp : 0 ≤ (v 28).toInt) : CT ε yX0_addPart cX0_addPart 7 (some .boolean) 2 46 0 0 [.ref (ad 7), .int a, .int b] (WD ε ad v f u g) (DT (some (.int ((S_X0_addPart v f a b).1))) (WD ε ad ((S_X0_addPart v f a b).2.1) ((S_X0_addPart v f a b).2.2) u g)) := by
  refine CT.of (own := RX0) (by decide) rfl (Nat.le_of_ble_eq_true rfl) (fun κ C hQ => ?_)
  refine j_aload_n (i := 0) C dX0_addPart_0 rfl 0 rfl ?_
  refine g_7_memory C dX0_addPart_1 lf_X0_9 ?_
  refine j_iload_n (i := 1) C dX0_addPart_4 rfl 1 rfl ?_
  refine j_bipush (x := 8) C dX0_addPart_5 (by decide) ?_
  refine c_V (As := [.int a, .int 8]) (rest := []) (st1 := [.long (S_X5_number v f a 8)]) C (c_X5_number ε ad v f u g a 8  (by first | assumption | omega | decide)) mv_X5_number lm_X0_66 dX0_addPart_7 1 wl_1 rfl rfl rfl (by decide) (Nat.le_of_ble_eq_true rfl) rfl ?_
  refine j_lstore_n (i := 3) (lv' := [(3, .long (S_X5_number v f a 8)), (0, .ref (ad 7)), (1, .int a), (2, .int b)]) C dX0_addPart_10 rfl (by decide) rfl ?_
  refine j_aload_n (i := 0) C dX0_addPart_11 rfl 1 rfl ?_
  refine g_7_memory C dX0_addPart_12 lf_X0_9 ?_
  refine j_iload_n (i := 1) C dX0_addPart_15 rfl 2 rfl ?_
  refine j_bipush (x := 8) C dX0_addPart_16 (by decide) ?_
  refine j_iadd C dX0_addPart_18 ?_
  refine j_iconst (x := 4) C dX0_addPart_19 (by decide) ?_
  refine c_V (As := [.int (a + 8), .int 4]) (rest := []) (st1 := [.long (S_X5_number v f (a + 8) 4)]) C (c_X5_number ε ad v f u g (a + 8) 4  (by first | assumption | omega | decide)) mv_X5_number lm_X0_66 dX0_addPart_20 1 wl_1 rfl rfl rfl (by decide) (Nat.le_of_ble_eq_true rfl) rfl ?_
  refine j_lstore (i := 5) (lv' := [(5, .long (S_X5_number v f (a + 8) 4)), (3, .long (S_X5_number v f a 8)), (0, .ref (ad 7)), (1, .int a), (2, .int b)]) C dX0_addPart_23 (by decide) rfl ?_
  refine j_aload_n (i := 0) C dX0_addPart_25 rfl 2 rfl ?_
  refine g_7_parts (x := (v 28)) C dX0_addPart_26 lf_X0_22 rfl ?_
  refine j_bipush (x := 16) C dX0_addPart_29 (by decide) ?_
  refine j_icmp_ge (tgt := 50) C dX0_addPart_31 (by decide) (fun c_1 => ?_) (fun c_1 => ?_)
  · refine j_iconst (x := 0) C dX0_addPart_50 (by decide) ?_
    have hs : S_X0_addPart v f a b = (0, v, f) := by unfold S_X0_addPart; rw [if_pos c_1]
    exact j_zret C hQ rfl rfl dX0_addPart_51 (dt_ivf hs)
  · refine j_lload (i := 5) C dX0_addPart_34 0 rfl ?_
    refine j_lconst (x := 0) C dX0_addPart_36 (by decide) ?_
    refine j_lcmp C dX0_addPart_37 ?_
    refine j_if_le (tgt := 52) C dX0_addPart_38 (by decide) (fun c_2 => ?_) (fun c_2 => ?_)
    · refine j_iload_n (i := 2) C dX0_addPart_52 rfl 4 rfl ?_
      refine j_if_ne (tgt := 69) C dX0_addPart_53 (by decide) (fun c_3 => ?_) (fun c_3 => ?_)
      · refine j_aload_n (i := 0) C dX0_addPart_69 rfl 2 rfl ?_
        refine g_7_addresses C dX0_addPart_70 lf_X0_15 ?_
        refine j_aload_n (i := 0) C dX0_addPart_73 rfl 2 rfl ?_
        refine g_7_parts (x := (v 28)) C dX0_addPart_74 lf_X0_22 rfl ?_
        refine j_lload_n (i := 3) C dX0_addPart_77 rfl 1 rfl ?_
        refine j_l2i C dX0_addPart_78 ?_
        refine as_8 (F2 := (f 8)) (F := (upd (f 8) ((v 28)).toNatClampNeg (((S_X5_number v f a 8) : Int64).toInt32))) C dX0_addPart_79 (vp_i1 hp c_1 rfl) rfl rfl ?_
        refine j_aload_n (i := 0) C dX0_addPart_80 rfl 2 rfl ?_
        refine g_7_lengths C dX0_addPart_81 lf_X0_19 ?_
        refine j_aload_n (i := 0) C dX0_addPart_84 rfl 2 rfl ?_
        refine g_7_parts (x := (v 28)) C dX0_addPart_85 lf_X0_22 rfl ?_
        refine j_lload (i := 5) C dX0_addPart_88 0 rfl ?_
        refine j_l2i C dX0_addPart_90 ?_
        refine as_9 (F2 := ((va_up f 8 (upd (f 8) ((v 28)).toNatClampNeg (((S_X5_number v f a 8) : Int64).toInt32))) 9)) (F := (upd ((va_up f 8 (upd (f 8) ((v 28)).toNatClampNeg (((S_X5_number v f a 8) : Int64).toInt32))) 9) ((v 28)).toNatClampNeg (((S_X5_number v f (a + 8) 4) : Int64).toInt32))) C dX0_addPart_91 (vp_i1 hp c_1 rfl) rfl rfl ?_
        refine j_aload_n (i := 0) C dX0_addPart_92 rfl 2 rfl ?_
        refine j_dup C dX0_addPart_93 rfl ?_
        refine g_7_parts (x := (v 28)) C dX0_addPart_94 lf_X0_22 rfl ?_
        refine j_iconst (x := 1) C dX0_addPart_97 (by decide) ?_
        refine j_iadd C dX0_addPart_98 ?_
        refine p_7_parts C dX0_addPart_99 lf_X0_22 ?_
        refine j_iload_n (i := 2) C dX0_addPart_102 rfl 4 rfl ?_
        refine j_if_ne (tgt := 129) C dX0_addPart_103 (by decide) (fun _ => ?_) (fun c9 => absurd c9 c_3)
        refine j_lload (i := 5) C dX0_addPart_129 0 rfl ?_
        refine j_lconst (x := 0) C dX0_addPart_131 (by decide) ?_
        refine j_lcmp C dX0_addPart_132 ?_
        refine j_if_le (tgt := 159) C dX0_addPart_133 (by decide) (fun _ => ?_) (fun c9 => absurd c_2 c9)
        refine j_iconst (x := 1) C dX0_addPart_159 (by decide) ?_
        have hs : S_X0_addPart v f a b = (1, (upd v 28 ((v 28) + 1)), (va_up (va_up f 8 (upd (f 8) ((v 28)).toNatClampNeg (((S_X5_number v f a 8) : Int64).toInt32))) 9 (upd ((va_up f 8 (upd (f 8) ((v 28)).toNatClampNeg (((S_X5_number v f a 8) : Int64).toInt32))) 9) ((v 28)).toNatClampNeg (((S_X5_number v f (a + 8) 4) : Int64).toInt32)))) := by unfold S_X0_addPart; rw [if_neg c_1, if_pos c_2, if_neg c_3]
        exact j_zret C hQ rfl rfl dX0_addPart_160 (dt_ivf hs)
      · refine j_aload_n (i := 0) C dX0_addPart_56 rfl 2 rfl ?_
        refine g_7_readParts (x := (v 29)) C dX0_addPart_57 lf_X0_26 rfl ?_
        refine j_aload_n (i := 0) C dX0_addPart_60 rfl 2 rfl ?_
        refine g_7_parts (x := (v 28)) C dX0_addPart_61 lf_X0_22 rfl ?_
        refine j_icmp_ge (tgt := 69) C dX0_addPart_64 (by decide) (fun c_4 => ?_) (fun c_4 => ?_)
        · refine j_aload_n (i := 0) C dX0_addPart_69 rfl 2 rfl ?_
          refine g_7_addresses C dX0_addPart_70 lf_X0_15 ?_
          refine j_aload_n (i := 0) C dX0_addPart_73 rfl 2 rfl ?_
          refine g_7_parts (x := (v 28)) C dX0_addPart_74 lf_X0_22 rfl ?_
          refine j_lload_n (i := 3) C dX0_addPart_77 rfl 1 rfl ?_
          refine j_l2i C dX0_addPart_78 ?_
          refine as_8 (F2 := (f 8)) (F := (upd (f 8) ((v 28)).toNatClampNeg (((S_X5_number v f a 8) : Int64).toInt32))) C dX0_addPart_79 (vp_i1 hp c_1 rfl) rfl rfl ?_
          refine j_aload_n (i := 0) C dX0_addPart_80 rfl 2 rfl ?_
          refine g_7_lengths C dX0_addPart_81 lf_X0_19 ?_
          refine j_aload_n (i := 0) C dX0_addPart_84 rfl 2 rfl ?_
          refine g_7_parts (x := (v 28)) C dX0_addPart_85 lf_X0_22 rfl ?_
          refine j_lload (i := 5) C dX0_addPart_88 0 rfl ?_
          refine j_l2i C dX0_addPart_90 ?_
          refine as_9 (F2 := ((va_up f 8 (upd (f 8) ((v 28)).toNatClampNeg (((S_X5_number v f a 8) : Int64).toInt32))) 9)) (F := (upd ((va_up f 8 (upd (f 8) ((v 28)).toNatClampNeg (((S_X5_number v f a 8) : Int64).toInt32))) 9) ((v 28)).toNatClampNeg (((S_X5_number v f (a + 8) 4) : Int64).toInt32))) C dX0_addPart_91 (vp_i1 hp c_1 rfl) rfl rfl ?_
          refine j_aload_n (i := 0) C dX0_addPart_92 rfl 2 rfl ?_
          refine j_dup C dX0_addPart_93 rfl ?_
          refine g_7_parts (x := (v 28)) C dX0_addPart_94 lf_X0_22 rfl ?_
          refine j_iconst (x := 1) C dX0_addPart_97 (by decide) ?_
          refine j_iadd C dX0_addPart_98 ?_
          refine p_7_parts C dX0_addPart_99 lf_X0_22 ?_
          refine j_iload_n (i := 2) C dX0_addPart_102 rfl 4 rfl ?_
          refine j_if_ne (tgt := 129) C dX0_addPart_103 (by decide) (fun c9 => absurd c_3 c9) (fun _ => ?_)
          refine j_aload_n (i := 0) C dX0_addPart_106 rfl 2 rfl ?_
          refine j_aload_n (i := 0) C dX0_addPart_107 rfl 2 rfl ?_
          refine g_7_parts (x := ((v 28) + 1)) C dX0_addPart_108 lf_X0_22 rfl ?_
          refine p_7_readParts C dX0_addPart_111 lf_X0_26 ?_
          refine j_aload_n (i := 0) C dX0_addPart_114 rfl 2 rfl ?_
          refine j_dup C dX0_addPart_115 rfl ?_
          refine g_7_readable (x := ((upd (upd v 28 ((v 28) + 1)) 29 ((v 28) + 1)) 35)) C dX0_addPart_116 lf_X0_29 rfl ?_
          refine j_lload (i := 5) C dX0_addPart_119 0 rfl ?_
          refine j_l2i C dX0_addPart_121 ?_
          refine j_iadd C dX0_addPart_122 ?_
          refine p_7_readable C dX0_addPart_123 lf_X0_29 ?_
          refine j_goto (tgt := 159) C dX0_addPart_126 (by decide) ?_
          refine j_iconst (x := 1) C dX0_addPart_159 (by decide) ?_
          have hs : S_X0_addPart v f a b = (1, (upd (upd (upd v 28 ((v 28) + 1)) 29 ((v 28) + 1)) 35 (((upd (upd v 28 ((v 28) + 1)) 29 ((v 28) + 1)) 35) + (((S_X5_number v f (a + 8) 4) : Int64).toInt32))), (va_up (va_up f 8 (upd (f 8) ((v 28)).toNatClampNeg (((S_X5_number v f a 8) : Int64).toInt32))) 9 (upd ((va_up f 8 (upd (f 8) ((v 28)).toNatClampNeg (((S_X5_number v f a 8) : Int64).toInt32))) 9) ((v 28)).toNatClampNeg (((S_X5_number v f (a + 8) 4) : Int64).toInt32)))) := by unfold S_X0_addPart; rw [if_neg c_1, if_pos c_2, if_pos c_3, if_pos c_4]
          exact j_zret C hQ rfl rfl dX0_addPart_160 (dt_ivf hs)
        · refine j_iconst (x := 0) C dX0_addPart_67 (by decide) ?_
          have hs : S_X0_addPart v f a b = (0, v, f) := by unfold S_X0_addPart; rw [if_neg c_1, if_pos c_2, if_pos c_3, if_neg c_4]
          exact j_zret C hQ rfl rfl dX0_addPart_68 (dt_ivf hs)
    · refine j_lload_n (i := 3) C dX0_addPart_41 rfl 1 rfl ?_
      refine j_lload (i := 5) C dX0_addPart_42 0 rfl ?_
      refine c_SN (As := [.long (S_X5_number v f a 8), .long (S_X5_number v f (a + 8) 4)]) (rest := []) (st1 := [.int (Q_X0_addPart_1 v f a b)]) C (c_X8_liesInMemory ε ad v f u g (S_X5_number v f a 8) (S_X5_number v f (a + 8) 4)  ) mt_X8_liesInMemory nw_X0_78 dX0_addPart_44 rfl rfl (by decide) (Nat.le_of_ble_eq_true rfl) rfl ?_
      refine j_if_ne (tgt := 52) C dX0_addPart_47 (by decide) (fun c_5 => ?_) (fun c_5 => ?_)
      · refine j_iload_n (i := 2) C dX0_addPart_52 rfl 4 rfl ?_
        refine j_if_ne (tgt := 69) C dX0_addPart_53 (by decide) (fun c_6 => ?_) (fun c_6 => ?_)
        · refine j_aload_n (i := 0) C dX0_addPart_69 rfl 2 rfl ?_
          refine g_7_addresses C dX0_addPart_70 lf_X0_15 ?_
          refine j_aload_n (i := 0) C dX0_addPart_73 rfl 2 rfl ?_
          refine g_7_parts (x := (v 28)) C dX0_addPart_74 lf_X0_22 rfl ?_
          refine j_lload_n (i := 3) C dX0_addPart_77 rfl 1 rfl ?_
          refine j_l2i C dX0_addPart_78 ?_
          refine as_8 (F2 := (f 8)) (F := (upd (f 8) ((v 28)).toNatClampNeg (((S_X5_number v f a 8) : Int64).toInt32))) C dX0_addPart_79 (vp_i1 hp c_1 rfl) rfl rfl ?_
          refine j_aload_n (i := 0) C dX0_addPart_80 rfl 2 rfl ?_
          refine g_7_lengths C dX0_addPart_81 lf_X0_19 ?_
          refine j_aload_n (i := 0) C dX0_addPart_84 rfl 2 rfl ?_
          refine g_7_parts (x := (v 28)) C dX0_addPart_85 lf_X0_22 rfl ?_
          refine j_lload (i := 5) C dX0_addPart_88 0 rfl ?_
          refine j_l2i C dX0_addPart_90 ?_
          refine as_9 (F2 := ((va_up f 8 (upd (f 8) ((v 28)).toNatClampNeg (((S_X5_number v f a 8) : Int64).toInt32))) 9)) (F := (upd ((va_up f 8 (upd (f 8) ((v 28)).toNatClampNeg (((S_X5_number v f a 8) : Int64).toInt32))) 9) ((v 28)).toNatClampNeg (((S_X5_number v f (a + 8) 4) : Int64).toInt32))) C dX0_addPart_91 (vp_i1 hp c_1 rfl) rfl rfl ?_
          refine j_aload_n (i := 0) C dX0_addPart_92 rfl 2 rfl ?_
          refine j_dup C dX0_addPart_93 rfl ?_
          refine g_7_parts (x := (v 28)) C dX0_addPart_94 lf_X0_22 rfl ?_
          refine j_iconst (x := 1) C dX0_addPart_97 (by decide) ?_
          refine j_iadd C dX0_addPart_98 ?_
          refine p_7_parts C dX0_addPart_99 lf_X0_22 ?_
          refine j_iload_n (i := 2) C dX0_addPart_102 rfl 4 rfl ?_
          refine j_if_ne (tgt := 129) C dX0_addPart_103 (by decide) (fun _ => ?_) (fun c9 => absurd c9 c_6)
          refine j_lload (i := 5) C dX0_addPart_129 0 rfl ?_
          refine j_lconst (x := 0) C dX0_addPart_131 (by decide) ?_
          refine j_lcmp C dX0_addPart_132 ?_
          refine j_if_le (tgt := 159) C dX0_addPart_133 (by decide) (fun c9 => absurd c9 c_2) (fun _ => ?_)
          refine j_aload_n (i := 0) C dX0_addPart_136 rfl 2 rfl ?_
          refine j_dup C dX0_addPart_137 rfl ?_
          refine g_7_writable (x := ((upd v 28 ((v 28) + 1)) 36)) C dX0_addPart_138 lf_X0_32 rfl ?_
          refine j_lload (i := 5) C dX0_addPart_141 0 rfl ?_
          refine j_l2i C dX0_addPart_143 ?_
          refine j_iadd C dX0_addPart_144 ?_
          refine p_7_writable C dX0_addPart_145 lf_X0_32 ?_
          refine j_aload_n (i := 0) C dX0_addPart_148 rfl 2 rfl ?_
          refine j_lload_n (i := 3) C dX0_addPart_149 rfl 1 rfl ?_
          refine j_lload (i := 5) C dX0_addPart_150 0 rfl ?_
          refine j_ladd C dX0_addPart_152 ?_
          refine j_l2i C dX0_addPart_153 ?_
          refine j_iconst (x := 1) C dX0_addPart_154 (by decide) ?_
          refine j_isub C dX0_addPart_155 ?_
          refine p_7_lastPlace C dX0_addPart_156 lf_X0_35 ?_
          refine j_iconst (x := 1) C dX0_addPart_159 (by decide) ?_
          have hs : S_X0_addPart v f a b = (1, (upd (upd (upd v 28 ((v 28) + 1)) 36 (((upd v 28 ((v 28) + 1)) 36) + (((S_X5_number v f (a + 8) 4) : Int64).toInt32))) 33 (((((S_X5_number v f a 8) + (S_X5_number v f (a + 8) 4)) : Int64).toInt32) - 1)), (va_up (va_up f 8 (upd (f 8) ((v 28)).toNatClampNeg (((S_X5_number v f a 8) : Int64).toInt32))) 9 (upd ((va_up f 8 (upd (f 8) ((v 28)).toNatClampNeg (((S_X5_number v f a 8) : Int64).toInt32))) 9) ((v 28)).toNatClampNeg (((S_X5_number v f (a + 8) 4) : Int64).toInt32)))) := by unfold S_X0_addPart; rw [if_neg c_1, if_neg c_2, if_neg c_5, if_neg c_6]
          exact j_zret C hQ rfl rfl dX0_addPart_160 (dt_ivf hs)
        · refine j_aload_n (i := 0) C dX0_addPart_56 rfl 2 rfl ?_
          refine g_7_readParts (x := (v 29)) C dX0_addPart_57 lf_X0_26 rfl ?_
          refine j_aload_n (i := 0) C dX0_addPart_60 rfl 2 rfl ?_
          refine g_7_parts (x := (v 28)) C dX0_addPart_61 lf_X0_22 rfl ?_
          refine j_icmp_ge (tgt := 69) C dX0_addPart_64 (by decide) (fun c_7 => ?_) (fun c_7 => ?_)
          · refine j_aload_n (i := 0) C dX0_addPart_69 rfl 2 rfl ?_
            refine g_7_addresses C dX0_addPart_70 lf_X0_15 ?_
            refine j_aload_n (i := 0) C dX0_addPart_73 rfl 2 rfl ?_
            refine g_7_parts (x := (v 28)) C dX0_addPart_74 lf_X0_22 rfl ?_
            refine j_lload_n (i := 3) C dX0_addPart_77 rfl 1 rfl ?_
            refine j_l2i C dX0_addPart_78 ?_
            refine as_8 (F2 := (f 8)) (F := (upd (f 8) ((v 28)).toNatClampNeg (((S_X5_number v f a 8) : Int64).toInt32))) C dX0_addPart_79 (vp_i1 hp c_1 rfl) rfl rfl ?_
            refine j_aload_n (i := 0) C dX0_addPart_80 rfl 2 rfl ?_
            refine g_7_lengths C dX0_addPart_81 lf_X0_19 ?_
            refine j_aload_n (i := 0) C dX0_addPart_84 rfl 2 rfl ?_
            refine g_7_parts (x := (v 28)) C dX0_addPart_85 lf_X0_22 rfl ?_
            refine j_lload (i := 5) C dX0_addPart_88 0 rfl ?_
            refine j_l2i C dX0_addPart_90 ?_
            refine as_9 (F2 := ((va_up f 8 (upd (f 8) ((v 28)).toNatClampNeg (((S_X5_number v f a 8) : Int64).toInt32))) 9)) (F := (upd ((va_up f 8 (upd (f 8) ((v 28)).toNatClampNeg (((S_X5_number v f a 8) : Int64).toInt32))) 9) ((v 28)).toNatClampNeg (((S_X5_number v f (a + 8) 4) : Int64).toInt32))) C dX0_addPart_91 (vp_i1 hp c_1 rfl) rfl rfl ?_
            refine j_aload_n (i := 0) C dX0_addPart_92 rfl 2 rfl ?_
            refine j_dup C dX0_addPart_93 rfl ?_
            refine g_7_parts (x := (v 28)) C dX0_addPart_94 lf_X0_22 rfl ?_
            refine j_iconst (x := 1) C dX0_addPart_97 (by decide) ?_
            refine j_iadd C dX0_addPart_98 ?_
            refine p_7_parts C dX0_addPart_99 lf_X0_22 ?_
            refine j_iload_n (i := 2) C dX0_addPart_102 rfl 4 rfl ?_
            refine j_if_ne (tgt := 129) C dX0_addPart_103 (by decide) (fun c9 => absurd c_6 c9) (fun _ => ?_)
            refine j_aload_n (i := 0) C dX0_addPart_106 rfl 2 rfl ?_
            refine j_aload_n (i := 0) C dX0_addPart_107 rfl 2 rfl ?_
            refine g_7_parts (x := ((v 28) + 1)) C dX0_addPart_108 lf_X0_22 rfl ?_
            refine p_7_readParts C dX0_addPart_111 lf_X0_26 ?_
            refine j_aload_n (i := 0) C dX0_addPart_114 rfl 2 rfl ?_
            refine j_dup C dX0_addPart_115 rfl ?_
            refine g_7_readable (x := ((upd (upd v 28 ((v 28) + 1)) 29 ((v 28) + 1)) 35)) C dX0_addPart_116 lf_X0_29 rfl ?_
            refine j_lload (i := 5) C dX0_addPart_119 0 rfl ?_
            refine j_l2i C dX0_addPart_121 ?_
            refine j_iadd C dX0_addPart_122 ?_
            refine p_7_readable C dX0_addPart_123 lf_X0_29 ?_
            refine j_goto (tgt := 159) C dX0_addPart_126 (by decide) ?_
            refine j_iconst (x := 1) C dX0_addPart_159 (by decide) ?_
            have hs : S_X0_addPart v f a b = (1, (upd (upd (upd v 28 ((v 28) + 1)) 29 ((v 28) + 1)) 35 (((upd (upd v 28 ((v 28) + 1)) 29 ((v 28) + 1)) 35) + (((S_X5_number v f (a + 8) 4) : Int64).toInt32))), (va_up (va_up f 8 (upd (f 8) ((v 28)).toNatClampNeg (((S_X5_number v f a 8) : Int64).toInt32))) 9 (upd ((va_up f 8 (upd (f 8) ((v 28)).toNatClampNeg (((S_X5_number v f a 8) : Int64).toInt32))) 9) ((v 28)).toNatClampNeg (((S_X5_number v f (a + 8) 4) : Int64).toInt32)))) := by unfold S_X0_addPart; rw [if_neg c_1, if_neg c_2, if_neg c_5, if_pos c_6, if_pos c_7]
            exact j_zret C hQ rfl rfl dX0_addPart_160 (dt_ivf hs)
          · refine j_iconst (x := 0) C dX0_addPart_67 (by decide) ?_
            have hs : S_X0_addPart v f a b = (0, v, f) := by unfold S_X0_addPart; rw [if_neg c_1, if_neg c_2, if_neg c_5, if_pos c_6, if_neg c_7]
            exact j_zret C hQ rfl rfl dX0_addPart_68 (dt_ivf hs)
      · refine j_iconst (x := 0) C dX0_addPart_50 (by decide) ?_
        have hs : S_X0_addPart v f a b = (0, v, f) := by unfold S_X0_addPart; rw [if_neg c_1, if_neg c_2, if_pos c_5]
        exact j_zret C hQ rfl rfl dX0_addPart_51 (dt_ivf hs)
theorem ap_pos (v : Nat → Int32) (f : Nat → Nat → Int32) (a b : Int32) (hp : 0 ≤ (v 28).toInt) : 0 ≤ ((S_X0_addPart v f a b).2.1 28).toInt := by
  unfold S_X0_addPart
  repeat' split
  all_goals first | exact hp | exact inc_pos hp (by assumption)

def S_X0_toReads (v : Nat → Int32) (f : Nat → Nat → Int32)  : (Nat → Int32) :=
  (upd (upd (upd v 30 0) 32 0) 31 ((upd (upd v 30 0) 32 0) 29))
set_option maxHeartbeats 1000000 in
set_option maxRecDepth 100000 in
theorem c_X0_toReads (ε : ET) (ad : Nat → Nat) (v : Nat → Int32) (f : Nat → Nat → Int32) (u : Nat → Int32) (g : Nat → Nat → Int32)   : CT ε yX0_toReads cX0_toReads 1 none 0 0 0 0 [.ref (ad 7)] (WD ε ad v f u g) (DT none (WD ε ad (S_X0_toReads v f) f u g)) := by
  refine CT.of (own := RX0) (by decide) rfl (Nat.le_of_ble_eq_true rfl) (fun κ C hQ => ?_)
  refine j_aload_n (i := 0) C dX0_toReads_0 rfl 0 rfl ?_
  refine j_iconst (x := 0) C dX0_toReads_1 (by decide) ?_
  refine p_7_part C dX0_toReads_2 lf_X0_82 ?_
  refine j_aload_n (i := 0) C dX0_toReads_5 rfl 0 rfl ?_
  refine j_iconst (x := 0) C dX0_toReads_6 (by decide) ?_
  refine p_7_offset C dX0_toReads_7 lf_X0_85 ?_
  refine j_aload_n (i := 0) C dX0_toReads_10 rfl 0 rfl ?_
  refine j_aload_n (i := 0) C dX0_toReads_11 rfl 0 rfl ?_
  refine g_7_readParts (x := ((upd (upd v 30 0) 32 0) 29)) C dX0_toReads_12 lf_X0_26 rfl ?_
  refine p_7_end C dX0_toReads_15 lf_X0_88 ?_
  have hs : S_X0_toReads v f = (upd (upd (upd v 30 0) 32 0) 31 ((upd (upd v 30 0) 32 0) 29)) := by unfold S_X0_toReads; rfl
  exact j_vret C hQ rfl dX0_toReads_18 (dt_nv hs)

def S_X0_toWrites (v : Nat → Int32) (f : Nat → Nat → Int32)  : (Nat → Int32) :=
  (upd (upd (upd v 30 (v 29)) 32 0) 31 ((upd (upd v 30 (v 29)) 32 0) 28))
set_option maxHeartbeats 1000000 in
set_option maxRecDepth 100000 in
theorem c_X0_toWrites (ε : ET) (ad : Nat → Nat) (v : Nat → Int32) (f : Nat → Nat → Int32) (u : Nat → Int32) (g : Nat → Nat → Int32)   : CT ε yX0_toWrites cX0_toWrites 1 none 0 0 0 0 [.ref (ad 7)] (WD ε ad v f u g) (DT none (WD ε ad (S_X0_toWrites v f) f u g)) := by
  refine CT.of (own := RX0) (by decide) rfl (Nat.le_of_ble_eq_true rfl) (fun κ C hQ => ?_)
  refine j_aload_n (i := 0) C dX0_toWrites_0 rfl 0 rfl ?_
  refine j_aload_n (i := 0) C dX0_toWrites_1 rfl 0 rfl ?_
  refine g_7_readParts (x := (v 29)) C dX0_toWrites_2 lf_X0_26 rfl ?_
  refine p_7_part C dX0_toWrites_5 lf_X0_82 ?_
  refine j_aload_n (i := 0) C dX0_toWrites_8 rfl 0 rfl ?_
  refine j_iconst (x := 0) C dX0_toWrites_9 (by decide) ?_
  refine p_7_offset C dX0_toWrites_10 lf_X0_85 ?_
  refine j_aload_n (i := 0) C dX0_toWrites_13 rfl 0 rfl ?_
  refine j_aload_n (i := 0) C dX0_toWrites_14 rfl 0 rfl ?_
  refine g_7_parts (x := ((upd (upd v 30 (v 29)) 32 0) 28)) C dX0_toWrites_15 lf_X0_22 rfl ?_
  refine p_7_end C dX0_toWrites_18 lf_X0_88 ?_
  have hs : S_X0_toWrites v f = (upd (upd (upd v 30 (v 29)) 32 0) 31 ((upd (upd v 30 (v 29)) 32 0) 28)) := by unfold S_X0_toWrites; rfl
  exact j_vret C hQ rfl dX0_toWrites_21 (dt_nv hs)

def L_X0_nextPlace (v : Nat → Int32) (f : Nat → Nat → Int32)  : Nat → (Nat → Int32) → Int32 × (Nat → Int32)
  | 0, v1 => (0, v1)
  | d1 + 1, v1 =>
    if (v1 31) ≤ (v1 30) then ((-1), v1)
    else if 16 ≤ (v1 30) then ((-1), v1)
      else if ((f 9) ((v1 30)).toNatClampNeg) ≤ (v1 32) then (L_X0_nextPlace v f d1 (upd (upd v1 30 ((v1 30) + 1)) 32 0))
        else (((((f 8) (((upd v1 32 ((v1 32) + 1)) 30)).toNatClampNeg) + ((v1 32) + 1)) - 1), (upd v1 32 ((v1 32) + 1)))
def S_X0_nextPlace (v : Nat → Int32) (f : Nat → Nat → Int32)  : Int32 × (Nat → Int32) :=
  (L_X0_nextPlace v f (17 : Nat) v)
theorem np_ms {x : Int32} {d : Nat} (h0 : 0 ≤ x.toInt) (h1 : ¬ (16 : Int32) ≤ x) (hm : (16 - x.toInt).toNat < d + 1) : (16 - (x + 1).toInt).toNat < d := by
  obtain ⟨j, hj, rfl⟩ := vp_in_of (vp_i1 (N := 16) h0 h1 rfl) (by decide)
  rw [nI_toInt (by omega)] at hm
  rw [nI_1, nI_toInt (by omega)]; omega
set_option maxHeartbeats 1000000 in
set_option maxRecDepth 100000 in
theorem c_X0_nextPlace (ε : ET) (ad : Nat → Nat) (v : Nat → Int32) (f : Nat → Nat → Int32) (u : Nat → Int32) (g : Nat → Nat → Int32)  (hp : 0 ≤ (v 30).toInt) : CT ε yX0_nextPlace cX0_nextPlace 1 (some .int) 0 0 0 0 [.ref (ad 7)] (WD ε ad v f u g) (DT (some (.int ((S_X0_nextPlace v f).1))) (WD ε ad ((S_X0_nextPlace v f).2) f u g)) := by
  refine CT.of (own := RX0) (by decide) rfl (Nat.le_of_ble_eq_true rfl) (fun κ C hQ => ?_)
  have hw1 : ∀ (d1 : Nat) (v1 : (Nat → Int32)), (0 ≤ (v1 30).toInt) → (16 - (v1 30).toInt).toNat < d1 → L_X0_nextPlace v f d1 v1 = S_X0_nextPlace v f → JW κ 0 0 (WD ε ad v1 f u g) 0 [(0, .ref (ad 7))] [] := by
    intro d1
    induction d1 with
    | zero => intro v1 hp1 hm9 _; exact absurd hm9 (Nat.not_lt_zero _)
    | succ d1 ih1 =>
      intro v1 hp1 hm1 hS1
      refine j_aload_n (i := 0) C dX0_nextPlace_0 rfl 0 rfl ?_
      refine g_7_part (x := (v1 30)) C dX0_nextPlace_1 lf_X0_82 rfl ?_
      refine j_aload_n (i := 0) C dX0_nextPlace_4 rfl 0 rfl ?_
      refine g_7_end (x := (v1 31)) C dX0_nextPlace_5 lf_X0_88 rfl ?_
      refine j_icmp_ge (tgt := 81) C dX0_nextPlace_8 (by decide) (fun c_1 => ?_) (fun c_1 => ?_)
      · refine j_iconst (x := (-1)) C dX0_nextPlace_81 (by decide) ?_
        have hs : S_X0_nextPlace v f = ((-1), v1) := by rw [← hS1, L_X0_nextPlace]; rw [if_pos c_1]
        exact j_iret C hQ rfl dX0_nextPlace_82 (dt_iv hs)
      · refine j_aload_n (i := 0) C dX0_nextPlace_11 rfl 0 rfl ?_
        refine g_7_part (x := (v1 30)) C dX0_nextPlace_12 lf_X0_82 rfl ?_
        refine j_bipush (x := 16) C dX0_nextPlace_15 (by decide) ?_
        refine j_icmp_ge (tgt := 81) C dX0_nextPlace_17 (by decide) (fun c_2 => ?_) (fun c_2 => ?_)
        · refine j_iconst (x := (-1)) C dX0_nextPlace_81 (by decide) ?_
          have hs : S_X0_nextPlace v f = ((-1), v1) := by rw [← hS1, L_X0_nextPlace]; rw [if_neg c_1, if_pos c_2]
          exact j_iret C hQ rfl dX0_nextPlace_82 (dt_iv hs)
        · refine j_aload_n (i := 0) C dX0_nextPlace_20 rfl 0 rfl ?_
          refine g_7_offset (x := (v1 32)) C dX0_nextPlace_21 lf_X0_85 rfl ?_
          refine j_aload_n (i := 0) C dX0_nextPlace_24 rfl 0 rfl ?_
          refine g_7_lengths C dX0_nextPlace_25 lf_X0_19 ?_
          refine j_aload_n (i := 0) C dX0_nextPlace_28 rfl 0 rfl ?_
          refine g_7_part (x := (v1 30)) C dX0_nextPlace_29 lf_X0_82 rfl ?_
          refine al_9 (F := (f 9)) C dX0_nextPlace_32 (vp_i1 hp1 c_2 rfl) rfl ?_
          refine j_icmp_ge (tgt := 63) C dX0_nextPlace_33 (by decide) (fun c_3 => ?_) (fun c_3 => ?_)
          · refine j_aload_n (i := 0) C dX0_nextPlace_63 rfl 0 rfl ?_
            refine j_dup C dX0_nextPlace_64 rfl ?_
            refine g_7_part (x := (v1 30)) C dX0_nextPlace_65 lf_X0_82 rfl ?_
            refine j_iconst (x := 1) C dX0_nextPlace_68 (by decide) ?_
            refine j_iadd C dX0_nextPlace_69 ?_
            refine p_7_part C dX0_nextPlace_70 lf_X0_82 ?_
            refine j_aload_n (i := 0) C dX0_nextPlace_73 rfl 0 rfl ?_
            refine j_iconst (x := 0) C dX0_nextPlace_74 (by decide) ?_
            refine p_7_offset C dX0_nextPlace_75 lf_X0_85 ?_
            refine j_goto (tgt := 0) C dX0_nextPlace_78 (by decide) ?_
            refine j_lv (lv' := [(0, .ref (ad 7))]) [0] rfl ?_
            exact ih1 (upd (upd v1 30 ((v1 30) + 1)) 32 0) (inc_pos hp1 c_2) (np_ms hp1 c_2 hm1) (by rw [← hS1, L_X0_nextPlace]; rw [if_neg c_1, if_neg c_2, if_pos c_3])
          · refine j_aload_n (i := 0) C dX0_nextPlace_36 rfl 0 rfl ?_
            refine j_dup C dX0_nextPlace_37 rfl ?_
            refine g_7_offset (x := (v1 32)) C dX0_nextPlace_38 lf_X0_85 rfl ?_
            refine j_iconst (x := 1) C dX0_nextPlace_41 (by decide) ?_
            refine j_iadd C dX0_nextPlace_42 ?_
            refine p_7_offset C dX0_nextPlace_43 lf_X0_85 ?_
            refine j_aload_n (i := 0) C dX0_nextPlace_46 rfl 0 rfl ?_
            refine g_7_addresses C dX0_nextPlace_47 lf_X0_15 ?_
            refine j_aload_n (i := 0) C dX0_nextPlace_50 rfl 0 rfl ?_
            refine g_7_part (x := ((upd v1 32 ((v1 32) + 1)) 30)) C dX0_nextPlace_51 lf_X0_82 rfl ?_
            refine al_8 (F := (f 8)) C dX0_nextPlace_54 (vp_i1 hp1 c_2 rfl) rfl ?_
            refine j_aload_n (i := 0) C dX0_nextPlace_55 rfl 0 rfl ?_
            refine g_7_offset (x := ((v1 32) + 1)) C dX0_nextPlace_56 lf_X0_85 rfl ?_
            refine j_iadd C dX0_nextPlace_59 ?_
            refine j_iconst (x := 1) C dX0_nextPlace_60 (by decide) ?_
            refine j_isub C dX0_nextPlace_61 ?_
            have hs : S_X0_nextPlace v f = (((((f 8) (((upd v1 32 ((v1 32) + 1)) 30)).toNatClampNeg) + ((v1 32) + 1)) - 1), (upd v1 32 ((v1 32) + 1))) := by rw [← hS1, L_X0_nextPlace]; rw [if_neg c_1, if_neg c_2, if_neg c_3]
            exact j_iret C hQ rfl dX0_nextPlace_62 (dt_iv hs)
  exact hw1 (17 : Nat) v hp (by omega) rfl
theorem np_pos (v : Nat → Int32) (f : Nat → Nat → Int32) (hp : 0 ≤ (v 30).toInt) : 0 ≤ ((S_X0_nextPlace v f).2 30).toInt := by
  have h : ∀ (d : Nat) (w : Nat → Int32), 0 ≤ (w 30).toInt → 0 ≤ ((L_X0_nextPlace v f d w).2 30).toInt := by
    intro d
    induction d with
    | zero => intro w hw; exact hw
    | succ d ih =>
      intro w hw
      rw [L_X0_nextPlace]
      repeat' split
      all_goals first | exact hw | exact ih _ (inc_pos hw (by assumption))
  exact h 17 v hp

def Q_X0_nextByte_1 (v : Nat → Int32) (f : Nat → Nat → Int32) : Int32 := (S_X5_at ((S_X0_nextPlace v f).2) f ((S_X0_nextPlace v f).1))
def S_X0_nextByte (v : Nat → Int32) (f : Nat → Nat → Int32)  : Int32 × (Nat → Int32) :=
  ((Q_X0_nextByte_1 v f), ((S_X0_nextPlace v f).2))
set_option maxHeartbeats 1000000 in
set_option maxRecDepth 100000 in
theorem c_X0_nextByte (ε : ET) (ad : Nat → Nat) (v : Nat → Int32) (f : Nat → Nat → Int32) (u : Nat → Int32) (g : Nat → Nat → Int32)  (hp : 0 ≤ (v 30).toInt) : CT ε yX0_nextByte cX0_nextByte 1 (some .int) 1 21 0 0 [.ref (ad 7)] (WD ε ad v f u g) (DT (some (.int ((S_X0_nextByte v f).1))) (WD ε ad ((S_X0_nextByte v f).2) f u g)) := by
  refine CT.of (own := RX0) (by decide) rfl (Nat.le_of_ble_eq_true rfl) (fun κ C hQ => ?_)
  refine j_aload_n (i := 0) C dX0_nextByte_0 rfl 0 rfl ?_
  refine g_7_memory C dX0_nextByte_1 lf_X0_9 ?_
  refine j_aload_n (i := 0) C dX0_nextByte_4 rfl 0 rfl ?_
  refine c_V (As := []) (rest := [.ref (ad 1)]) (st1 := [.int ((S_X0_nextPlace v f).1), .ref (ad 1)]) C (c_X0_nextPlace ε ad v f u g   hp) mv_X0_nextPlace lm_X0_91 dX0_nextByte_5 7 wl_7 rfl rfl rfl (by decide) (Nat.le_of_ble_eq_true rfl) rfl ?_
  refine c_V (As := [.int ((S_X0_nextPlace v f).1)]) (rest := []) (st1 := [.int (Q_X0_nextByte_1 v f)]) C (c_X5_at ε ad ((S_X0_nextPlace v f).2) f u g ((S_X0_nextPlace v f).1)  ) mv_X5_at lm_X0_94 dX0_nextByte_8 1 wl_1 rfl rfl rfl (by decide) (Nat.le_of_ble_eq_true rfl) rfl ?_
  have hs : S_X0_nextByte v f = ((Q_X0_nextByte_1 v f), ((S_X0_nextPlace v f).2)) := by unfold S_X0_nextByte; rfl
  exact j_iret C hQ rfl dX0_nextByte_11 (dt_iv hs)

def Q_X0_putByte_1 (v : Nat → Int32) (f : Nat → Nat → Int32) (a : Int32) : (Nat → Nat → Int32) := (S_X5_set ((S_X0_nextPlace v f).2) f ((S_X0_nextPlace v f).1) a)
def S_X0_putByte (v : Nat → Int32) (f : Nat → Nat → Int32) (a : Int32) : (Nat → Int32) × (Nat → Nat → Int32) :=
  (((S_X0_nextPlace v f).2), (Q_X0_putByte_1 v f a))
set_option maxHeartbeats 1000000 in
set_option maxRecDepth 100000 in
theorem c_X0_putByte (ε : ET) (ad : Nat → Nat) (v : Nat → Int32) (f : Nat → Nat → Int32) (u : Nat → Int32) (g : Nat → Nat → Int32) (a : Int32) (hp : 0 ≤ (v 30).toInt) : CT ε yX0_putByte cX0_putByte 2 none 1 22 0 0 [.ref (ad 7), .int a] (WD ε ad v f u g) (DT none (WD ε ad ((S_X0_putByte v f a).1) ((S_X0_putByte v f a).2) u g)) := by
  refine CT.of (own := RX0) (by decide) rfl (Nat.le_of_ble_eq_true rfl) (fun κ C hQ => ?_)
  refine j_aload_n (i := 0) C dX0_putByte_0 rfl 0 rfl ?_
  refine g_7_memory C dX0_putByte_1 lf_X0_9 ?_
  refine j_aload_n (i := 0) C dX0_putByte_4 rfl 0 rfl ?_
  refine c_V (As := []) (rest := [.ref (ad 1)]) (st1 := [.int ((S_X0_nextPlace v f).1), .ref (ad 1)]) C (c_X0_nextPlace ε ad v f u g   hp) mv_X0_nextPlace lm_X0_91 dX0_putByte_5 7 wl_7 rfl rfl rfl (by decide) (Nat.le_of_ble_eq_true rfl) rfl ?_
  refine j_iload_n (i := 1) C dX0_putByte_8 rfl 1 rfl ?_
  refine c_V (As := [.int ((S_X0_nextPlace v f).1), .int a]) (rest := []) (st1 := []) (ω1 := (WD ε ad ((S_X0_nextPlace v f).2) (Q_X0_putByte_1 v f a) u g)) C (c_X5_set ε ad ((S_X0_nextPlace v f).2) f u g ((S_X0_nextPlace v f).1) a  ) mv_X5_set lm_X0_100 dX0_putByte_9 1 wl_1 rfl rfl rfl (by decide) (Nat.le_of_ble_eq_true rfl) rfl ?_
  have hs : S_X0_putByte v f a = (((S_X0_nextPlace v f).2), (Q_X0_putByte_1 v f a)) := by unfold S_X0_putByte; rfl
  exact j_vret C hQ rfl dX0_putByte_12 (dt_nvf hs)

def S_X0_putLast (v : Nat → Int32) (f : Nat → Nat → Int32) (a : Int32) : (Nat → Nat → Int32) :=
  (S_X5_set v f (v 33) a)
set_option maxHeartbeats 1000000 in
set_option maxRecDepth 100000 in
theorem c_X0_putLast (ε : ET) (ad : Nat → Nat) (v : Nat → Int32) (f : Nat → Nat → Int32) (u : Nat → Int32) (g : Nat → Nat → Int32) (a : Int32)  : CT ε yX0_putLast cX0_putLast 2 none 1 22 0 0 [.ref (ad 7), .int a] (WD ε ad v f u g) (DT none (WD ε ad v (S_X0_putLast v f a) u g)) := by
  refine CT.of (own := RX0) (by decide) rfl (Nat.le_of_ble_eq_true rfl) (fun κ C hQ => ?_)
  refine j_aload_n (i := 0) C dX0_putLast_0 rfl 0 rfl ?_
  refine g_7_memory C dX0_putLast_1 lf_X0_9 ?_
  refine j_aload_n (i := 0) C dX0_putLast_4 rfl 0 rfl ?_
  refine g_7_lastPlace (x := (v 33)) C dX0_putLast_5 lf_X0_35 rfl ?_
  refine j_iload_n (i := 1) C dX0_putLast_8 rfl 1 rfl ?_
  refine c_V (As := [.int (v 33), .int a]) (rest := []) (st1 := []) C (c_X5_set ε ad v f u g (v 33) a  ) mv_X5_set lm_X0_100 dX0_putLast_9 1 wl_1 rfl rfl rfl (by decide) (Nat.le_of_ble_eq_true rfl) rfl ?_
  have hs : S_X0_putLast v f a = (S_X5_set v f (v 33) a) := by unfold S_X0_putLast; rfl
  exact j_vret C hQ rfl dX0_putLast_12 (dt_nf hs)

def L_X0_nextNumber (v : Nat → Int32) (f : Nat → Nat → Int32) (N : Nat) : Nat → Int64 × (Nat → Int32)
  | 0 => (0, v)
  | i1 + 1 =>
    ((((L_X0_nextNumber v f N i1).1) ||| (((((S_X0_nextByte ((L_X0_nextNumber v f N i1).2) f).1) : Int32).toInt64) <<< (((8 * (nI i1)) : Int32).toInt64 &&& 63))), ((S_X0_nextByte ((L_X0_nextNumber v f N i1).2) f).2))
def S_X0_nextNumber (v : Nat → Int32) (f : Nat → Nat → Int32) (N : Nat) : Int64 × (Nat → Int32) :=
  (((L_X0_nextNumber v f N N).1), ((L_X0_nextNumber v f N N).2))
theorem ln_pos (v : Nat → Int32) (f : Nat → Nat → Int32) (N : Nat) (hp : 0 ≤ (v 30).toInt) : ∀ i : Nat, 0 ≤ ((L_X0_nextNumber v f N i).2 30).toInt
  | 0 => hp
  | i + 1 => np_pos _ _ (ln_pos v f N hp i)
set_option maxHeartbeats 1000000 in
set_option maxRecDepth 100000 in
theorem c_X0_nextNumber (ε : ET) (ad : Nat → Nat) (v : Nat → Int32) (f : Nat → Nat → Int32) (u : Nat → Int32) (g : Nat → Nat → Int32) (N : Nat) (hN : N < 2 ^ 31) (hp : 0 ≤ (v 30).toInt) : CT ε yX0_nextNumber cX0_nextNumber 5 (some .long) 2 41 0 0 [.ref (ad 7), .int (nI N)] (WD ε ad v f u g) (DT (some (.long ((S_X0_nextNumber v f N).1))) (WD ε ad ((S_X0_nextNumber v f N).2) f u g)) := by
  refine CT.of (own := RX0) (by decide) rfl (Nat.le_of_ble_eq_true rfl) (fun κ C hQ => ?_)
  refine j_lconst (x := 0) C dX0_nextNumber_0 (by decide) ?_
  refine j_lstore_n (i := 2) (lv' := [(2, .long 0), (0, .ref (ad 7)), (1, .int (nI N))]) C dX0_nextNumber_1 rfl (by decide) rfl ?_
  refine j_iconst (x := 0) C dX0_nextNumber_2 (by decide) ?_
  refine j_istore (i := 4) (lv' := [(4, .int 0), (2, .long 0), (0, .ref (ad 7)), (1, .int (nI N))]) C dX0_nextNumber_3 (by decide) rfl ?_
  have hx1 : JW κ 0 0 (WD ε ad ((L_X0_nextNumber v f N N).2) f u g) 31 [(4, .int (nI N)), (2, .long ((L_X0_nextNumber v f N N).1)), (0, .ref (ad 7)), (1, .int (nI N))] [] := by
    refine j_lload_n (i := 2) C dX0_nextNumber_31 rfl 1 rfl ?_
    have hs : S_X0_nextNumber v f N = (((L_X0_nextNumber v f N N).1), ((L_X0_nextNumber v f N N).2)) := by unfold S_X0_nextNumber; rfl
    exact j_lret C hQ rfl dX0_nextNumber_32 (dt_lv hs)
  have lp1 : ∀ d1 i1 : Nat, i1 + d1 = N → JW κ 0 0 (WD ε ad ((L_X0_nextNumber v f N i1).2) f u g) 5 [(4, .int (nI i1)), (2, .long ((L_X0_nextNumber v f N i1).1)), (0, .ref (ad 7)), (1, .int (nI N))] [] := by
    intro d1
    induction d1 with
    | zero =>
      intro i1 hi
      have e9 : i1 = N := by omega
      rw [e9]
      have lf1 : (nI N) ≤ (nI N) := Int32.le_refl _
      refine j_iload (i := 4) C dX0_nextNumber_5 0 rfl ?_
      refine j_iload_n (i := 1) C dX0_nextNumber_7 rfl 3 rfl ?_
      refine j_icmp_ge (tgt := 31) C dX0_nextNumber_8 (by decide) (fun _ => ?_) (fun c9 => absurd lf1 c9)
      exact hx1
    | succ d1 ih1 =>
      intro i1 hi
      have hlt1 : i1 < N := by omega
      have lf1 : ¬ (nI N) ≤ (nI i1) := nI_ge hlt1 (by omega)
      refine j_iload (i := 4) C dX0_nextNumber_5 0 rfl ?_
      refine j_iload_n (i := 1) C dX0_nextNumber_7 rfl 3 rfl ?_
      refine j_icmp_ge (tgt := 31) C dX0_nextNumber_8 (by decide) (fun c9 => absurd c9 lf1) (fun _ => ?_)
      refine j_lload_n (i := 2) C dX0_nextNumber_11 rfl 1 rfl ?_
      refine j_aload_n (i := 0) C dX0_nextNumber_12 rfl 2 rfl ?_
      refine c_V (As := []) (rest := [.long ((L_X0_nextNumber v f N i1).1)]) (st1 := [.int ((S_X0_nextByte ((L_X0_nextNumber v f N i1).2) f).1), .long ((L_X0_nextNumber v f N i1).1)]) C (c_X0_nextByte ε ad ((L_X0_nextNumber v f N i1).2) f u g   (ln_pos v f N hp i1)) mv_X0_nextByte lm_X0_97 dX0_nextNumber_13 7 wl_7 rfl rfl rfl (by decide) (Nat.le_of_ble_eq_true rfl) rfl ?_
      refine j_i2l C dX0_nextNumber_16 ?_
      refine j_bipush (x := 8) C dX0_nextNumber_17 (by decide) ?_
      refine j_iload (i := 4) C dX0_nextNumber_19 0 rfl ?_
      refine j_imul C dX0_nextNumber_21 ?_
      refine j_lshl C dX0_nextNumber_22 ?_
      refine j_lor C dX0_nextNumber_23 ?_
      refine j_lstore_n (i := 2) (lv' := [(2, .long (((L_X0_nextNumber v f N i1).1) ||| (((((S_X0_nextByte ((L_X0_nextNumber v f N i1).2) f).1) : Int32).toInt64) <<< (((8 * (nI i1)) : Int32).toInt64 &&& 63)))), (4, .int (nI i1)), (0, .ref (ad 7)), (1, .int (nI N))]) C dX0_nextNumber_24 rfl (by decide) rfl ?_
      refine j_iinc (y := (nI (i1 + 1))) (lv' := [(4, .int (nI (i1 + 1))), (2, .long (((L_X0_nextNumber v f N i1).1) ||| (((((S_X0_nextByte ((L_X0_nextNumber v f N i1).2) f).1) : Int32).toInt64) <<< (((8 * (nI i1)) : Int32).toInt64 &&& 63)))), (0, .ref (ad 7)), (1, .int (nI N))]) C dX0_nextNumber_25 1 rfl (nI_1 _) (by decide) rfl ?_
      refine j_goto (tgt := 5) C dX0_nextNumber_28 (by decide) ?_
      refine j_lv (lv' := [(4, .int (nI (i1 + 1))), (2, .long (((L_X0_nextNumber v f N i1).1) ||| (((((S_X0_nextByte ((L_X0_nextNumber v f N i1).2) f).1) : Int32).toInt64) <<< (((8 * (nI i1)) : Int32).toInt64 &&& 63)))), (0, .ref (ad 7)), (1, .int (nI N))]) [0, 1, 2, 3] rfl ?_
      have e8 := ih1 (i1 + 1) (by omega)
      rw [L_X0_nextNumber] at e8
      try dsimp only at e8
      exact e8
  have e7 := lp1 N 0 (by omega)
  rw [L_X0_nextNumber] at e7
  try dsimp only at e7
  exact e7

def L_X0_skip (v : Nat → Int32) (f : Nat → Nat → Int32) (N : Nat) : Nat → (Nat → Int32)
  | 0 => v
  | i1 + 1 =>
    ((S_X0_nextPlace (L_X0_skip v f N i1) f).2)
def S_X0_skip (v : Nat → Int32) (f : Nat → Nat → Int32) (N : Nat) : (Nat → Int32) :=
  (L_X0_skip v f N N)
theorem ls_pos (v : Nat → Int32) (f : Nat → Nat → Int32) (N : Nat) (hp : 0 ≤ (v 30).toInt) : ∀ i : Nat, 0 ≤ ((L_X0_skip v f N i) 30).toInt
  | 0 => hp
  | i + 1 => np_pos _ _ (ls_pos v f N hp i)
set_option maxHeartbeats 1000000 in
set_option maxRecDepth 100000 in
theorem c_X0_skip (ε : ET) (ad : Nat → Nat) (v : Nat → Int32) (f : Nat → Nat → Int32) (u : Nat → Int32) (g : Nat → Nat → Int32) (N : Nat) (hN : N < 2 ^ 31) (hp : 0 ≤ (v 30).toInt) : CT ε yX0_skip cX0_skip 3 none 1 20 0 0 [.ref (ad 7), .int (nI N)] (WD ε ad v f u g) (DT none (WD ε ad (S_X0_skip v f N) f u g)) := by
  refine CT.of (own := RX0) (by decide) rfl (Nat.le_of_ble_eq_true rfl) (fun κ C hQ => ?_)
  refine j_iconst (x := 0) C dX0_skip_0 (by decide) ?_
  refine j_istore_n (i := 2) (lv' := [(2, .int 0), (0, .ref (ad 7)), (1, .int (nI N))]) C dX0_skip_1 rfl (by decide) rfl ?_
  have hx1 : JW κ 0 0 (WD ε ad (L_X0_skip v f N N) f u g) 18 [(2, .int (nI N)), (0, .ref (ad 7)), (1, .int (nI N))] [] := by
    have hs : S_X0_skip v f N = (L_X0_skip v f N N) := by unfold S_X0_skip; rfl
    exact j_vret C hQ rfl dX0_skip_18 (dt_nv hs)
  have lp1 : ∀ d1 i1 : Nat, i1 + d1 = N → JW κ 0 0 (WD ε ad (L_X0_skip v f N i1) f u g) 2 [(2, .int (nI i1)), (0, .ref (ad 7)), (1, .int (nI N))] [] := by
    intro d1
    induction d1 with
    | zero =>
      intro i1 hi
      have e9 : i1 = N := by omega
      rw [e9]
      have lf1 : (nI N) ≤ (nI N) := Int32.le_refl _
      refine j_iload_n (i := 2) C dX0_skip_2 rfl 0 rfl ?_
      refine j_iload_n (i := 1) C dX0_skip_3 rfl 2 rfl ?_
      refine j_icmp_ge (tgt := 18) C dX0_skip_4 (by decide) (fun _ => ?_) (fun c9 => absurd lf1 c9)
      exact hx1
    | succ d1 ih1 =>
      intro i1 hi
      have hlt1 : i1 < N := by omega
      have lf1 : ¬ (nI N) ≤ (nI i1) := nI_ge hlt1 (by omega)
      refine j_iload_n (i := 2) C dX0_skip_2 rfl 0 rfl ?_
      refine j_iload_n (i := 1) C dX0_skip_3 rfl 2 rfl ?_
      refine j_icmp_ge (tgt := 18) C dX0_skip_4 (by decide) (fun c9 => absurd c9 lf1) (fun _ => ?_)
      refine j_aload_n (i := 0) C dX0_skip_7 rfl 1 rfl ?_
      refine c_V (As := []) (rest := []) (st1 := [.int ((S_X0_nextPlace (L_X0_skip v f N i1) f).1)]) C (c_X0_nextPlace ε ad (L_X0_skip v f N i1) f u g   (ls_pos v f N hp i1)) mv_X0_nextPlace lm_X0_91 dX0_skip_8 7 wl_7 rfl rfl rfl (by decide) (Nat.le_of_ble_eq_true rfl) rfl ?_
      refine j_pop C dX0_skip_11 rfl ?_
      refine j_iinc (y := (nI (i1 + 1))) (lv' := [(2, .int (nI (i1 + 1))), (0, .ref (ad 7)), (1, .int (nI N))]) C dX0_skip_12 0 rfl (nI_1 _) (by decide) rfl ?_
      refine j_goto (tgt := 2) C dX0_skip_15 (by decide) ?_
      refine j_lv (lv' := [(2, .int (nI (i1 + 1))), (0, .ref (ad 7)), (1, .int (nI N))]) [0, 1, 2] rfl ?_
      have e8 := ih1 (i1 + 1) (by omega)
      rw [L_X0_skip] at e8
      try dsimp only at e8
      exact e8
  have e7 := lp1 N 0 (by omega)
  rw [L_X0_skip] at e7
  try dsimp only at e7
  exact e7

