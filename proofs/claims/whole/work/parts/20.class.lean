theorem isq2 {v : Nat → Int32} {f : Nat → Nat → Int32} {a : Int32} (h : ¬ (S_X8_isQueue v f a) = 0) (h0 : ¬ a = 0) (h1 : ¬ a = 1) : a = 2 := by
  unfold S_X8_isQueue at h
  split at h
  · exact absurd rfl h
  · split at h
    · exact absurd rfl h
    · rename_i q1 q2
      rw [Int32.lt_iff_toInt_lt] at q1
      rw [Int32.le_iff_toInt_le] at q2
      have e0 : (0 : Int32).toInt = 0 := rfl
      have e3 : (3 : Int32).toInt = 3 := rfl
      have n0 : a.toInt ≠ 0 := fun q => h0 (Int32.toInt_inj.mp (by rw [q]; rfl))
      have n1 : a.toInt ≠ 1 := fun q => h1 (Int32.toInt_inj.mp (by rw [q]; rfl))
      exact Int32.toInt_inj.mp (by have : (2 : Int32).toInt = 2 := rfl; omega)
def Q_X8_start_1 (v : Nat → Int32) (f : Nat → Nat → Int32) (a : Int32) : Int32 := (S_X8_descriptorsOf (S_X1_switchOff v (S_X5_clear v f) a) (S_X5_clear v f) 0)
def Q_X8_start_2 (v : Nat → Int32) (f : Nat → Nat → Int32) (a : Int32) : Int32 := (S_X8_availableOf (S_X1_switchOff v (S_X5_clear v f) a) (S_X5_clear v f) 0)
def Q_X8_start_3 (v : Nat → Int32) (f : Nat → Nat → Int32) (a : Int32) : Int32 := (S_X8_usedOf (S_X1_switchOff v (S_X5_clear v f) a) (S_X5_clear v f) 0)
def Q_X8_start_4 (v : Nat → Int32) (f : Nat → Nat → Int32) (a : Int32) : (Nat → Int32) := (S_X6_lay_4 (S_X1_switchOff v (S_X5_clear v f) a) (S_X5_clear v f) 8 (Q_X8_start_1 v f a) (Q_X8_start_2 v f a) (Q_X8_start_3 v f a))
def Q_X8_start_5 (v : Nat → Int32) (f : Nat → Nat → Int32) (a : Int32) : Int32 := (S_X8_descriptorsOf (Q_X8_start_4 v f a) (S_X5_clear v f) 1)
def Q_X8_start_6 (v : Nat → Int32) (f : Nat → Nat → Int32) (a : Int32) : Int32 := (S_X8_availableOf (Q_X8_start_4 v f a) (S_X5_clear v f) 1)
def Q_X8_start_7 (v : Nat → Int32) (f : Nat → Nat → Int32) (a : Int32) : Int32 := (S_X8_usedOf (Q_X8_start_4 v f a) (S_X5_clear v f) 1)
def Q_X8_start_8 (v : Nat → Int32) (f : Nat → Nat → Int32) (a : Int32) : (Nat → Int32) := (S_X6_lay_5 (Q_X8_start_4 v f a) (S_X5_clear v f) 8 (Q_X8_start_5 v f a) (Q_X8_start_6 v f a) (Q_X8_start_7 v f a))
def Q_X8_start_9 (v : Nat → Int32) (f : Nat → Nat → Int32) (a : Int32) : Int32 := (S_X8_descriptorsOf (Q_X8_start_8 v f a) (S_X5_clear v f) 2)
def Q_X8_start_10 (v : Nat → Int32) (f : Nat → Nat → Int32) (a : Int32) : Int32 := (S_X8_availableOf (Q_X8_start_8 v f a) (S_X5_clear v f) 2)
def Q_X8_start_11 (v : Nat → Int32) (f : Nat → Nat → Int32) (a : Int32) : Int32 := (S_X8_usedOf (Q_X8_start_8 v f a) (S_X5_clear v f) 2)
def Q_X8_start_12 (v : Nat → Int32) (f : Nat → Nat → Int32) (a : Int32) : (Nat → Int32) := (S_X6_lay_6 (Q_X8_start_8 v f a) (S_X5_clear v f) 8 (Q_X8_start_9 v f a) (Q_X8_start_10 v f a) (Q_X8_start_11 v f a))
def Q_X8_start_13 (v : Nat → Int32) (f : Nat → Nat → Int32) (a : Int32) : (Nat → Int32) := ((S_X3_begin (upd (Q_X8_start_12 v f a) 0 1) (S_X5_clear v f) a).1)
def Q_X8_start_14 (v : Nat → Int32) (f : Nat → Nat → Int32) (a : Int32) : (Nat → Nat → Int32) := ((S_X3_begin (upd (Q_X8_start_12 v f a) 0 1) (S_X5_clear v f) a).2)
def S_X8_start (v : Nat → Int32) (f : Nat → Nat → Int32) (a : Int32) : Int32 × (Nat → Int32) × (Nat → Nat → Int32) :=
  (0, (Q_X8_start_13 v f a), (Q_X8_start_14 v f a))
set_option maxHeartbeats 1000000 in
set_option maxRecDepth 100000 in
theorem c_X8_start (ε : ET) (ad : Nat → Nat) (v : Nat → Int32) (f : Nat → Nat → Int32) (u : Nat → Int32) (g : Nat → Nat → Int32) (a : Int32) (hb : a = 0 ∨ a = 1) : CT ε yX8_start cX8_start 3 (some .int) 4 84 0 0 [.ref (ad 0), .int a] (WD ε ad v f u g) (DT (some (.int ((S_X8_start v f a).1))) (WD ε ad ((S_X8_start v f a).2.1) ((S_X8_start v f a).2.2) u g)) := by
  refine CT.of (own := RX8) (by decide) rfl (Nat.le_of_ble_eq_true rfl) (fun κ C hQ => ?_)
  refine j_aload_n (i := 0) C dX8_start_0 rfl 0 rfl ?_
  refine g_0_memory C dX8_start_1 lf_X8_10 ?_
  refine c_V (As := []) (rest := []) (st1 := []) C (c_X5_clear ε ad v f u g   ) mv_X5_clear lm_X8_32 dX8_start_4 1 wl_1 rfl rfl rfl (by decide) (Nat.le_of_ble_eq_true rfl) rfl ?_
  refine j_aload_n (i := 0) C dX8_start_7 rfl 0 rfl ?_
  refine g_0_device C dX8_start_8 lf_X8_21 ?_
  refine j_iload_n (i := 1) C dX8_start_11 rfl 1 rfl ?_
  refine c_V (As := [.int a]) (rest := []) (st1 := []) C (c_X1_switchOff ε ad v (S_X5_clear v f) u g a  (by first | assumption | omega | decide)) mv_X1_switchOff lm_X8_35 dX8_start_12 3 wl_3 rfl rfl rfl (by decide) (Nat.le_of_ble_eq_true rfl) rfl ?_
  refine j_iconst (x := 0) C dX8_start_15 (by decide) ?_
  refine j_istore_n (i := 2) (lv' := [(2, .int 0), (0, .ref (ad 0)), (1, .int a)]) C dX8_start_16 rfl (by decide) rfl ?_
  refine j_iload_n (i := 2) C dX8_start_17 rfl 0 rfl ?_
  refine j_iconst (x := 3) C dX8_start_18 (by decide) ?_
  refine j_icmp_ge (tgt := 53) C dX8_start_19 (by decide) (fun c9 => absurd c9 (by decide)) (fun _ => ?_)
  refine j_aload_n (i := 0) C dX8_start_22 rfl 1 rfl ?_
  refine g_0_device C dX8_start_23 lf_X8_21 ?_
  refine j_iload_n (i := 2) C dX8_start_26 rfl 0 rfl ?_
  refine c_V (As := [.int 0]) (rest := []) (st1 := [.ref (ad 4)]) C (c_X1_ringOf_0 ε ad (S_X1_switchOff v (S_X5_clear v f) a) (S_X5_clear v f) u g   ) mv_X1_ringOf lm_X8_39 dX8_start_27 3 wl_3 rfl rfl rfl (by decide) (Nat.le_of_ble_eq_true rfl) rfl ?_
  refine j_bipush (x := 8) C dX8_start_30 (by decide) ?_
  refine j_iload_n (i := 2) C dX8_start_32 rfl 0 rfl ?_
  refine c_S (As := [.int 0]) (rest := [.int 8, .ref (ad 4)]) (st1 := [.int (Q_X8_start_1 v f a), .int 8, .ref (ad 4)]) C (c_X8_descriptorsOf ε ad (S_X1_switchOff v (S_X5_clear v f) a) (S_X5_clear v f) u g 0  ) mt_X8_descriptorsOf lm_X8_43 dX8_start_33 rfl rfl (by decide) (Nat.le_of_ble_eq_true rfl) rfl ?_
  refine j_iload_n (i := 2) C dX8_start_36 rfl 0 rfl ?_
  refine c_S (As := [.int 0]) (rest := [.int (Q_X8_start_1 v f a), .int 8, .ref (ad 4)]) (st1 := [.int (Q_X8_start_2 v f a), .int (Q_X8_start_1 v f a), .int 8, .ref (ad 4)]) C (c_X8_availableOf ε ad (S_X1_switchOff v (S_X5_clear v f) a) (S_X5_clear v f) u g 0  ) mt_X8_availableOf lm_X8_47 dX8_start_37 rfl rfl (by decide) (Nat.le_of_ble_eq_true rfl) rfl ?_
  refine j_iload_n (i := 2) C dX8_start_40 rfl 0 rfl ?_
  refine c_S (As := [.int 0]) (rest := [.int (Q_X8_start_2 v f a), .int (Q_X8_start_1 v f a), .int 8, .ref (ad 4)]) (st1 := [.int (Q_X8_start_3 v f a), .int (Q_X8_start_2 v f a), .int (Q_X8_start_1 v f a), .int 8, .ref (ad 4)]) C (c_X8_usedOf ε ad (S_X1_switchOff v (S_X5_clear v f) a) (S_X5_clear v f) u g 0  ) mt_X8_usedOf lm_X8_50 dX8_start_41 rfl rfl (by decide) (Nat.le_of_ble_eq_true rfl) rfl ?_
  refine c_V (As := [.int 8, .int (Q_X8_start_1 v f a), .int (Q_X8_start_2 v f a), .int (Q_X8_start_3 v f a)]) (rest := []) (st1 := []) (ω1 := (WD ε ad (Q_X8_start_4 v f a) (S_X5_clear v f) u g)) C (c_X6_lay_4 ε ad (S_X1_switchOff v (S_X5_clear v f) a) (S_X5_clear v f) u g 8 (Q_X8_start_1 v f a) (Q_X8_start_2 v f a) (Q_X8_start_3 v f a)  ) mv_X6_lay lm_X8_53 dX8_start_44 4 wl_4 rfl rfl rfl (by decide) (Nat.le_of_ble_eq_true rfl) rfl ?_
  refine j_iinc (y := 1) (lv' := [(2, .int 1), (0, .ref (ad 0)), (1, .int a)]) C dX8_start_47 0 rfl (by decide) (by decide) rfl ?_
  refine j_goto (tgt := 17) C dX8_start_50 (by decide) ?_
  refine j_iload_n (i := 2) C dX8_start_17 rfl 0 rfl ?_
  refine j_iconst (x := 3) C dX8_start_18 (by decide) ?_
  refine j_icmp_ge (tgt := 53) C dX8_start_19 (by decide) (fun c9 => absurd c9 (by decide)) (fun _ => ?_)
  refine j_aload_n (i := 0) C dX8_start_22 rfl 1 rfl ?_
  refine g_0_device C dX8_start_23 lf_X8_21 ?_
  refine j_iload_n (i := 2) C dX8_start_26 rfl 0 rfl ?_
  refine c_V (As := [.int 1]) (rest := []) (st1 := [.ref (ad 5)]) C (c_X1_ringOf_1 ε ad (Q_X8_start_4 v f a) (S_X5_clear v f) u g   ) mv_X1_ringOf lm_X8_39 dX8_start_27 3 wl_3 rfl rfl rfl (by decide) (Nat.le_of_ble_eq_true rfl) rfl ?_
  refine j_bipush (x := 8) C dX8_start_30 (by decide) ?_
  refine j_iload_n (i := 2) C dX8_start_32 rfl 0 rfl ?_
  refine c_S (As := [.int 1]) (rest := [.int 8, .ref (ad 5)]) (st1 := [.int (Q_X8_start_5 v f a), .int 8, .ref (ad 5)]) C (c_X8_descriptorsOf ε ad (Q_X8_start_4 v f a) (S_X5_clear v f) u g 1  ) mt_X8_descriptorsOf lm_X8_43 dX8_start_33 rfl rfl (by decide) (Nat.le_of_ble_eq_true rfl) rfl ?_
  refine j_iload_n (i := 2) C dX8_start_36 rfl 0 rfl ?_
  refine c_S (As := [.int 1]) (rest := [.int (Q_X8_start_5 v f a), .int 8, .ref (ad 5)]) (st1 := [.int (Q_X8_start_6 v f a), .int (Q_X8_start_5 v f a), .int 8, .ref (ad 5)]) C (c_X8_availableOf ε ad (Q_X8_start_4 v f a) (S_X5_clear v f) u g 1  ) mt_X8_availableOf lm_X8_47 dX8_start_37 rfl rfl (by decide) (Nat.le_of_ble_eq_true rfl) rfl ?_
  refine j_iload_n (i := 2) C dX8_start_40 rfl 0 rfl ?_
  refine c_S (As := [.int 1]) (rest := [.int (Q_X8_start_6 v f a), .int (Q_X8_start_5 v f a), .int 8, .ref (ad 5)]) (st1 := [.int (Q_X8_start_7 v f a), .int (Q_X8_start_6 v f a), .int (Q_X8_start_5 v f a), .int 8, .ref (ad 5)]) C (c_X8_usedOf ε ad (Q_X8_start_4 v f a) (S_X5_clear v f) u g 1  ) mt_X8_usedOf lm_X8_50 dX8_start_41 rfl rfl (by decide) (Nat.le_of_ble_eq_true rfl) rfl ?_
  refine c_V (As := [.int 8, .int (Q_X8_start_5 v f a), .int (Q_X8_start_6 v f a), .int (Q_X8_start_7 v f a)]) (rest := []) (st1 := []) (ω1 := (WD ε ad (Q_X8_start_8 v f a) (S_X5_clear v f) u g)) C (c_X6_lay_5 ε ad (Q_X8_start_4 v f a) (S_X5_clear v f) u g 8 (Q_X8_start_5 v f a) (Q_X8_start_6 v f a) (Q_X8_start_7 v f a)  ) mv_X6_lay lm_X8_53 dX8_start_44 5 wl_5 rfl rfl rfl (by decide) (Nat.le_of_ble_eq_true rfl) rfl ?_
  refine j_iinc (y := 2) (lv' := [(2, .int 2), (0, .ref (ad 0)), (1, .int a)]) C dX8_start_47 0 rfl (by decide) (by decide) rfl ?_
  refine j_goto (tgt := 17) C dX8_start_50 (by decide) ?_
  refine j_iload_n (i := 2) C dX8_start_17 rfl 0 rfl ?_
  refine j_iconst (x := 3) C dX8_start_18 (by decide) ?_
  refine j_icmp_ge (tgt := 53) C dX8_start_19 (by decide) (fun c9 => absurd c9 (by decide)) (fun _ => ?_)
  refine j_aload_n (i := 0) C dX8_start_22 rfl 1 rfl ?_
  refine g_0_device C dX8_start_23 lf_X8_21 ?_
  refine j_iload_n (i := 2) C dX8_start_26 rfl 0 rfl ?_
  refine c_V (As := [.int 2]) (rest := []) (st1 := [.ref (ad 6)]) C (c_X1_ringOf_2 ε ad (Q_X8_start_8 v f a) (S_X5_clear v f) u g   ) mv_X1_ringOf lm_X8_39 dX8_start_27 3 wl_3 rfl rfl rfl (by decide) (Nat.le_of_ble_eq_true rfl) rfl ?_
  refine j_bipush (x := 8) C dX8_start_30 (by decide) ?_
  refine j_iload_n (i := 2) C dX8_start_32 rfl 0 rfl ?_
  refine c_S (As := [.int 2]) (rest := [.int 8, .ref (ad 6)]) (st1 := [.int (Q_X8_start_9 v f a), .int 8, .ref (ad 6)]) C (c_X8_descriptorsOf ε ad (Q_X8_start_8 v f a) (S_X5_clear v f) u g 2  ) mt_X8_descriptorsOf lm_X8_43 dX8_start_33 rfl rfl (by decide) (Nat.le_of_ble_eq_true rfl) rfl ?_
  refine j_iload_n (i := 2) C dX8_start_36 rfl 0 rfl ?_
  refine c_S (As := [.int 2]) (rest := [.int (Q_X8_start_9 v f a), .int 8, .ref (ad 6)]) (st1 := [.int (Q_X8_start_10 v f a), .int (Q_X8_start_9 v f a), .int 8, .ref (ad 6)]) C (c_X8_availableOf ε ad (Q_X8_start_8 v f a) (S_X5_clear v f) u g 2  ) mt_X8_availableOf lm_X8_47 dX8_start_37 rfl rfl (by decide) (Nat.le_of_ble_eq_true rfl) rfl ?_
  refine j_iload_n (i := 2) C dX8_start_40 rfl 0 rfl ?_
  refine c_S (As := [.int 2]) (rest := [.int (Q_X8_start_10 v f a), .int (Q_X8_start_9 v f a), .int 8, .ref (ad 6)]) (st1 := [.int (Q_X8_start_11 v f a), .int (Q_X8_start_10 v f a), .int (Q_X8_start_9 v f a), .int 8, .ref (ad 6)]) C (c_X8_usedOf ε ad (Q_X8_start_8 v f a) (S_X5_clear v f) u g 2  ) mt_X8_usedOf lm_X8_50 dX8_start_41 rfl rfl (by decide) (Nat.le_of_ble_eq_true rfl) rfl ?_
  refine c_V (As := [.int 8, .int (Q_X8_start_9 v f a), .int (Q_X8_start_10 v f a), .int (Q_X8_start_11 v f a)]) (rest := []) (st1 := []) (ω1 := (WD ε ad (Q_X8_start_12 v f a) (S_X5_clear v f) u g)) C (c_X6_lay_6 ε ad (Q_X8_start_8 v f a) (S_X5_clear v f) u g 8 (Q_X8_start_9 v f a) (Q_X8_start_10 v f a) (Q_X8_start_11 v f a)  ) mv_X6_lay lm_X8_53 dX8_start_44 6 wl_6 rfl rfl rfl (by decide) (Nat.le_of_ble_eq_true rfl) rfl ?_
  refine j_iinc (y := 3) (lv' := [(2, .int 3), (0, .ref (ad 0)), (1, .int a)]) C dX8_start_47 0 rfl (by decide) (by decide) rfl ?_
  refine j_goto (tgt := 17) C dX8_start_50 (by decide) ?_
  refine j_iload_n (i := 2) C dX8_start_17 rfl 0 rfl ?_
  refine j_iconst (x := 3) C dX8_start_18 (by decide) ?_
  refine j_icmp_ge (tgt := 53) C dX8_start_19 (by decide) (fun _ => ?_) (fun c9 => absurd c9 (by decide))
  refine j_aload_n (i := 0) C dX8_start_53 rfl 1 rfl ?_
  refine g_0_device C dX8_start_54 lf_X8_21 ?_
  refine j_iconst (x := 1) C dX8_start_57 (by decide) ?_
  refine p_3_state C dX8_start_58 lf_X8_59 ?_
  refine j_aload_n (i := 0) C dX8_start_61 rfl 1 rfl ?_
  refine g_0_driver C dX8_start_62 lf_X8_28 ?_
  refine j_iload_n (i := 1) C dX8_start_65 rfl 2 rfl ?_
  refine c_V (As := [.int a]) (rest := []) (st1 := []) (ω1 := (WD ε ad (Q_X8_start_13 v f a) (Q_X8_start_14 v f a) u g)) C (c_X3_begin ε ad (upd (Q_X8_start_12 v f a) 0 1) (S_X5_clear v f) u g a  (by first | assumption | omega | decide)) mv_X3_begin lm_X8_63 dX8_start_66 15 wl_15 rfl rfl rfl (by decide) (Nat.le_of_ble_eq_true rfl) rfl ?_
  refine j_iconst (x := 0) C dX8_start_69 (by decide) ?_
  have hs : S_X8_start v f a = (0, (Q_X8_start_13 v f a), (Q_X8_start_14 v f a)) := by unfold S_X8_start; rfl
  exact j_iret C hQ rfl dX8_start_70 (dt_ivf hs)

def S_X8_reset (v : Nat → Int32) (f : Nat → Nat → Int32) (a : Int32) : Int32 × (Nat → Int32) × (Nat → Nat → Int32) :=
  (0, ((S_X3_stop (S_X1_switchOff v f a) f).1), ((S_X3_stop (S_X1_switchOff v f a) f).2))
set_option maxHeartbeats 1000000 in
set_option maxRecDepth 100000 in
theorem c_X8_reset (ε : ET) (ad : Nat → Nat) (v : Nat → Int32) (f : Nat → Nat → Int32) (u : Nat → Int32) (g : Nat → Nat → Int32) (a : Int32) (hb : a = 0 ∨ a = 1) : CT ε yX8_reset cX8_reset 2 (some .int) 3 63 0 0 [.ref (ad 0), .int a] (WD ε ad v f u g) (DT (some (.int ((S_X8_reset v f a).1))) (WD ε ad ((S_X8_reset v f a).2.1) ((S_X8_reset v f a).2.2) u g)) := by
  refine CT.of (own := RX8) (by decide) rfl (Nat.le_of_ble_eq_true rfl) (fun κ C hQ => ?_)
  refine j_aload_n (i := 0) C dX8_reset_0 rfl 0 rfl ?_
  refine g_0_device C dX8_reset_1 lf_X8_21 ?_
  refine j_iload_n (i := 1) C dX8_reset_4 rfl 1 rfl ?_
  refine c_V (As := [.int a]) (rest := []) (st1 := []) C (c_X1_switchOff ε ad v f u g a  (by first | assumption | omega | decide)) mv_X1_switchOff lm_X8_35 dX8_reset_5 3 wl_3 rfl rfl rfl (by decide) (Nat.le_of_ble_eq_true rfl) rfl ?_
  refine j_aload_n (i := 0) C dX8_reset_8 rfl 0 rfl ?_
  refine g_0_driver C dX8_reset_9 lf_X8_28 ?_
  refine c_V (As := []) (rest := []) (st1 := []) C (c_X3_stop ε ad (S_X1_switchOff v f a) f u g   ) mv_X3_stop lm_X8_66 dX8_reset_12 15 wl_15 rfl rfl rfl (by decide) (Nat.le_of_ble_eq_true rfl) rfl ?_
  refine j_iconst (x := 0) C dX8_reset_15 (by decide) ?_
  have hs : S_X8_reset v f a = (0, ((S_X3_stop (S_X1_switchOff v f a) f).1), ((S_X3_stop (S_X1_switchOff v f a) f).2)) := by unfold S_X8_reset; rfl
  exact j_iret C hQ rfl dX8_reset_16 (dt_ivf hs)

def S_X8_queue (v : Nat → Int32) (f : Nat → Nat → Int32) (a : Int32) (b : Int32) (c : Int32) (d : Int32) (e : Int32) : Int32 × (Nat → Int32) :=
  if (S_X8_isQueue v f a) = 0 then ((-2), v)
  else if (v 0) = 0 then if a = 0 then if (v 4) = 0 then if (S_X8_isSize v f b) = 0 then ((-2), v)
          else if (S_X8_isPlace v f c 16 (16 * b)) = 0 then ((-2), v)
            else if (S_X8_isPlace v f d 2 (4 + (2 * b))) = 0 then ((-2), v)
              else if (S_X8_isPlace v f e 4 (4 + (8 * b))) = 0 then ((-2), v)
                else (0, (S_X6_lay_4 v f b c d e))
        else ((-2), v)
      else if a = 1 then if (v 12) = 0 then if (S_X8_isSize v f b) = 0 then ((-2), v)
            else if (S_X8_isPlace v f c 16 (16 * b)) = 0 then ((-2), v)
              else if (S_X8_isPlace v f d 2 (4 + (2 * b))) = 0 then ((-2), v)
                else if (S_X8_isPlace v f e 4 (4 + (8 * b))) = 0 then ((-2), v)
                  else (0, (S_X6_lay_5 v f b c d e))
          else ((-2), v)
        else if (v 20) = 0 then if (S_X8_isSize v f b) = 0 then ((-2), v)
            else if (S_X8_isPlace v f c 16 (16 * b)) = 0 then ((-2), v)
              else if (S_X8_isPlace v f d 2 (4 + (2 * b))) = 0 then ((-2), v)
                else if (S_X8_isPlace v f e 4 (4 + (8 * b))) = 0 then ((-2), v)
                  else (0, (S_X6_lay_6 v f b c d e))
          else ((-2), v)
    else ((-2), v)
set_option maxHeartbeats 1000000 in
set_option maxRecDepth 100000 in
theorem c_X8_queue (ε : ET) (ad : Nat → Nat) (v : Nat → Int32) (f : Nat → Nat → Int32) (u : Nat → Int32) (g : Nat → Nat → Int32) (a : Int32) (b : Int32) (c : Int32) (d : Int32) (e : Int32)  : CT ε yX8_queue cX8_queue 6 (some .int) 2 45 0 0 [.ref (ad 0), .int a, .int b, .int c, .int d, .int e] (WD ε ad v f u g) (DT (some (.int ((S_X8_queue v f a b c d e).1))) (WD ε ad ((S_X8_queue v f a b c d e).2) f u g)) := by
  refine CT.of (own := RX8) (by decide) rfl (Nat.le_of_ble_eq_true rfl) (fun κ C hQ => ?_)
  refine j_iload_n (i := 1) C dX8_queue_0 rfl 1 rfl ?_
  refine c_S (As := [.int a]) (rest := []) (st1 := [.int (S_X8_isQueue v f a)]) C (c_X8_isQueue ε ad v f u g a  ) mt_X8_isQueue lm_X8_69 dX8_queue_1 rfl rfl (by decide) (Nat.le_of_ble_eq_true rfl) rfl ?_
  refine j_if_eq (tgt := 38) C dX8_queue_4 (by decide) (fun c_1 => ?_) (fun c_1 => ?_)
  · refine j_bipush (x := (-2)) C dX8_queue_38 (by decide) ?_
    have hs : S_X8_queue v f a b c d e = ((-2), v) := by unfold S_X8_queue; rw [if_pos c_1]
    exact j_iret C hQ rfl dX8_queue_40 (dt_iv hs)
  · refine j_aload_n (i := 0) C dX8_queue_7 rfl 0 rfl ?_
    refine g_0_device C dX8_queue_8 lf_X8_21 ?_
    refine g_3_state (x := (v 0)) C dX8_queue_11 lf_X8_59 rfl ?_
    refine j_if_ne (tgt := 38) C dX8_queue_14 (by decide) (fun c_2 => ?_) (fun c_2 => ?_)
    · refine j_bipush (x := (-2)) C dX8_queue_38 (by decide) ?_
      have hs : S_X8_queue v f a b c d e = ((-2), v) := by unfold S_X8_queue; rw [if_neg c_1, if_neg c_2]
      exact j_iret C hQ rfl dX8_queue_40 (dt_iv hs)
    · refine j_aload_n (i := 0) C dX8_queue_17 rfl 0 rfl ?_
      refine g_0_device C dX8_queue_18 lf_X8_21 ?_
      refine j_iload_n (i := 1) C dX8_queue_21 rfl 1 rfl ?_
      by_cases c_3 : a = 0
      · refine j_to (lv2 := [(0, .ref (ad 0)), (1, .int 0), (2, .int b), (3, .int c), (4, .int d), (5, .int e)]) (st' := [.int 0, .ref (ad 3)]) rfl (by first | rfl | (rw [c_3]; rfl)) (by first | rfl | (rw [c_3]; rfl) | rw [c_3]) ?_
        refine c_V (As := [.int 0]) (rest := []) (st1 := [.ref (ad 4)]) C (c_X1_ringOf_0 ε ad v f u g   ) mv_X1_ringOf lm_X8_39 dX8_queue_22 3 wl_3 rfl rfl rfl (by decide) (Nat.le_of_ble_eq_true rfl) rfl ?_
        refine g_4_laid (x := (v 4)) C dX8_queue_25 lf_X8_73 rfl ?_
        refine j_if_ne (tgt := 38) C dX8_queue_28 (by decide) (fun c_4 => ?_) (fun c_4 => ?_)
        · refine j_bipush (x := (-2)) C dX8_queue_38 (by decide) ?_
          have hs : S_X8_queue v f a b c d e = ((-2), v) := by unfold S_X8_queue; rw [if_neg c_1, if_pos c_2, if_pos c_3, if_neg c_4]
          exact j_iret C hQ rfl dX8_queue_40 (dt_iv hs)
        · refine j_iload_n (i := 2) C dX8_queue_31 rfl 2 rfl ?_
          refine c_S (As := [.int b]) (rest := []) (st1 := [.int (S_X8_isSize v f b)]) C (c_X8_isSize ε ad v f u g b  ) mt_X8_isSize lm_X8_77 dX8_queue_32 rfl rfl (by decide) (Nat.le_of_ble_eq_true rfl) rfl ?_
          refine j_if_ne (tgt := 41) C dX8_queue_35 (by decide) (fun c_5 => ?_) (fun c_5 => ?_)
          · refine j_iload_n (i := 3) C dX8_queue_41 rfl 3 rfl ?_
            refine j_bipush (x := 16) C dX8_queue_42 (by decide) ?_
            refine j_bipush (x := 16) C dX8_queue_44 (by decide) ?_
            refine j_iload_n (i := 2) C dX8_queue_46 rfl 2 rfl ?_
            refine j_imul C dX8_queue_47 ?_
            refine c_S (As := [.int c, .int 16, .int (16 * b)]) (rest := []) (st1 := [.int (S_X8_isPlace v f c 16 (16 * b))]) C (c_X8_isPlace ε ad v f u g c 16 (16 * b)  ) mt_X8_isPlace lm_X8_80 dX8_queue_48 rfl rfl (by decide) (Nat.le_of_ble_eq_true rfl) rfl ?_
            refine j_if_eq (tgt := 83) C dX8_queue_51 (by decide) (fun c_6 => ?_) (fun c_6 => ?_)
            · refine j_bipush (x := (-2)) C dX8_queue_83 (by decide) ?_
              have hs : S_X8_queue v f a b c d e = ((-2), v) := by unfold S_X8_queue; rw [if_neg c_1, if_pos c_2, if_pos c_3, if_pos c_4, if_neg c_5, if_pos c_6]
              exact j_iret C hQ rfl dX8_queue_85 (dt_iv hs)
            · refine j_iload (i := 4) C dX8_queue_54 4 rfl ?_
              refine j_iconst (x := 2) C dX8_queue_56 (by decide) ?_
              refine j_iconst (x := 4) C dX8_queue_57 (by decide) ?_
              refine j_iconst (x := 2) C dX8_queue_58 (by decide) ?_
              refine j_iload_n (i := 2) C dX8_queue_59 rfl 2 rfl ?_
              refine j_imul C dX8_queue_60 ?_
              refine j_iadd C dX8_queue_61 ?_
              refine c_S (As := [.int d, .int 2, .int (4 + (2 * b))]) (rest := []) (st1 := [.int (S_X8_isPlace v f d 2 (4 + (2 * b)))]) C (c_X8_isPlace ε ad v f u g d 2 (4 + (2 * b))  ) mt_X8_isPlace lm_X8_80 dX8_queue_62 rfl rfl (by decide) (Nat.le_of_ble_eq_true rfl) rfl ?_
              refine j_if_eq (tgt := 83) C dX8_queue_65 (by decide) (fun c_7 => ?_) (fun c_7 => ?_)
              · refine j_bipush (x := (-2)) C dX8_queue_83 (by decide) ?_
                have hs : S_X8_queue v f a b c d e = ((-2), v) := by unfold S_X8_queue; rw [if_neg c_1, if_pos c_2, if_pos c_3, if_pos c_4, if_neg c_5, if_neg c_6, if_pos c_7]
                exact j_iret C hQ rfl dX8_queue_85 (dt_iv hs)
              · refine j_iload (i := 5) C dX8_queue_68 5 rfl ?_
                refine j_iconst (x := 4) C dX8_queue_70 (by decide) ?_
                refine j_iconst (x := 4) C dX8_queue_71 (by decide) ?_
                refine j_bipush (x := 8) C dX8_queue_72 (by decide) ?_
                refine j_iload_n (i := 2) C dX8_queue_74 rfl 2 rfl ?_
                refine j_imul C dX8_queue_75 ?_
                refine j_iadd C dX8_queue_76 ?_
                refine c_S (As := [.int e, .int 4, .int (4 + (8 * b))]) (rest := []) (st1 := [.int (S_X8_isPlace v f e 4 (4 + (8 * b)))]) C (c_X8_isPlace ε ad v f u g e 4 (4 + (8 * b))  ) mt_X8_isPlace lm_X8_80 dX8_queue_77 rfl rfl (by decide) (Nat.le_of_ble_eq_true rfl) rfl ?_
                refine j_if_ne (tgt := 86) C dX8_queue_80 (by decide) (fun c_8 => ?_) (fun c_8 => ?_)
                · refine j_aload_n (i := 0) C dX8_queue_86 rfl 0 rfl ?_
                  refine g_0_device C dX8_queue_87 lf_X8_21 ?_
                  refine j_iload_n (i := 1) C dX8_queue_90 rfl 1 rfl ?_
                  refine c_V (As := [.int 0]) (rest := []) (st1 := [.ref (ad 4)]) C (c_X1_ringOf_0 ε ad v f u g   ) mv_X1_ringOf lm_X8_39 dX8_queue_91 3 wl_3 rfl rfl rfl (by decide) (Nat.le_of_ble_eq_true rfl) rfl ?_
                  refine j_iload_n (i := 2) C dX8_queue_94 rfl 2 rfl ?_
                  refine j_iload_n (i := 3) C dX8_queue_95 rfl 3 rfl ?_
                  refine j_iload (i := 4) C dX8_queue_96 4 rfl ?_
                  refine j_iload (i := 5) C dX8_queue_98 5 rfl ?_
                  refine c_V (As := [.int b, .int c, .int d, .int e]) (rest := []) (st1 := []) C (c_X6_lay_4 ε ad v f u g b c d e  ) mv_X6_lay lm_X8_53 dX8_queue_100 4 wl_4 rfl rfl rfl (by decide) (Nat.le_of_ble_eq_true rfl) rfl ?_
                  refine j_iconst (x := 0) C dX8_queue_103 (by decide) ?_
                  have hs : S_X8_queue v f a b c d e = (0, (S_X6_lay_4 v f b c d e)) := by unfold S_X8_queue; rw [if_neg c_1, if_pos c_2, if_pos c_3, if_pos c_4, if_neg c_5, if_neg c_6, if_neg c_7, if_neg c_8]
                  exact j_iret C hQ rfl dX8_queue_104 (dt_iv hs)
                · refine j_bipush (x := (-2)) C dX8_queue_83 (by decide) ?_
                  have hs : S_X8_queue v f a b c d e = ((-2), v) := by unfold S_X8_queue; rw [if_neg c_1, if_pos c_2, if_pos c_3, if_pos c_4, if_neg c_5, if_neg c_6, if_neg c_7, if_pos c_8]
                  exact j_iret C hQ rfl dX8_queue_85 (dt_iv hs)
          · refine j_bipush (x := (-2)) C dX8_queue_38 (by decide) ?_
            have hs : S_X8_queue v f a b c d e = ((-2), v) := by unfold S_X8_queue; rw [if_neg c_1, if_pos c_2, if_pos c_3, if_pos c_4, if_pos c_5]
            exact j_iret C hQ rfl dX8_queue_40 (dt_iv hs)
      · by_cases c_9 : a = 1
        · refine j_to (lv2 := [(0, .ref (ad 0)), (1, .int 1), (2, .int b), (3, .int c), (4, .int d), (5, .int e)]) (st' := [.int 1, .ref (ad 3)]) rfl (by first | rfl | (rw [c_9]; rfl)) (by first | rfl | (rw [c_9]; rfl) | rw [c_9]) ?_
          refine c_V (As := [.int 1]) (rest := []) (st1 := [.ref (ad 5)]) C (c_X1_ringOf_1 ε ad v f u g   ) mv_X1_ringOf lm_X8_39 dX8_queue_22 3 wl_3 rfl rfl rfl (by decide) (Nat.le_of_ble_eq_true rfl) rfl ?_
          refine g_5_laid (x := (v 12)) C dX8_queue_25 lf_X8_73 rfl ?_
          refine j_if_ne (tgt := 38) C dX8_queue_28 (by decide) (fun c_10 => ?_) (fun c_10 => ?_)
          · refine j_bipush (x := (-2)) C dX8_queue_38 (by decide) ?_
            have hs : S_X8_queue v f a b c d e = ((-2), v) := by unfold S_X8_queue; rw [if_neg c_1, if_pos c_2, if_neg c_3, if_pos c_9, if_neg c_10]
            exact j_iret C hQ rfl dX8_queue_40 (dt_iv hs)
          · refine j_iload_n (i := 2) C dX8_queue_31 rfl 2 rfl ?_
            refine c_S (As := [.int b]) (rest := []) (st1 := [.int (S_X8_isSize v f b)]) C (c_X8_isSize ε ad v f u g b  ) mt_X8_isSize lm_X8_77 dX8_queue_32 rfl rfl (by decide) (Nat.le_of_ble_eq_true rfl) rfl ?_
            refine j_if_ne (tgt := 41) C dX8_queue_35 (by decide) (fun c_11 => ?_) (fun c_11 => ?_)
            · refine j_iload_n (i := 3) C dX8_queue_41 rfl 3 rfl ?_
              refine j_bipush (x := 16) C dX8_queue_42 (by decide) ?_
              refine j_bipush (x := 16) C dX8_queue_44 (by decide) ?_
              refine j_iload_n (i := 2) C dX8_queue_46 rfl 2 rfl ?_
              refine j_imul C dX8_queue_47 ?_
              refine c_S (As := [.int c, .int 16, .int (16 * b)]) (rest := []) (st1 := [.int (S_X8_isPlace v f c 16 (16 * b))]) C (c_X8_isPlace ε ad v f u g c 16 (16 * b)  ) mt_X8_isPlace lm_X8_80 dX8_queue_48 rfl rfl (by decide) (Nat.le_of_ble_eq_true rfl) rfl ?_
              refine j_if_eq (tgt := 83) C dX8_queue_51 (by decide) (fun c_12 => ?_) (fun c_12 => ?_)
              · refine j_bipush (x := (-2)) C dX8_queue_83 (by decide) ?_
                have hs : S_X8_queue v f a b c d e = ((-2), v) := by unfold S_X8_queue; rw [if_neg c_1, if_pos c_2, if_neg c_3, if_pos c_9, if_pos c_10, if_neg c_11, if_pos c_12]
                exact j_iret C hQ rfl dX8_queue_85 (dt_iv hs)
              · refine j_iload (i := 4) C dX8_queue_54 4 rfl ?_
                refine j_iconst (x := 2) C dX8_queue_56 (by decide) ?_
                refine j_iconst (x := 4) C dX8_queue_57 (by decide) ?_
                refine j_iconst (x := 2) C dX8_queue_58 (by decide) ?_
                refine j_iload_n (i := 2) C dX8_queue_59 rfl 2 rfl ?_
                refine j_imul C dX8_queue_60 ?_
                refine j_iadd C dX8_queue_61 ?_
                refine c_S (As := [.int d, .int 2, .int (4 + (2 * b))]) (rest := []) (st1 := [.int (S_X8_isPlace v f d 2 (4 + (2 * b)))]) C (c_X8_isPlace ε ad v f u g d 2 (4 + (2 * b))  ) mt_X8_isPlace lm_X8_80 dX8_queue_62 rfl rfl (by decide) (Nat.le_of_ble_eq_true rfl) rfl ?_
                refine j_if_eq (tgt := 83) C dX8_queue_65 (by decide) (fun c_13 => ?_) (fun c_13 => ?_)
                · refine j_bipush (x := (-2)) C dX8_queue_83 (by decide) ?_
                  have hs : S_X8_queue v f a b c d e = ((-2), v) := by unfold S_X8_queue; rw [if_neg c_1, if_pos c_2, if_neg c_3, if_pos c_9, if_pos c_10, if_neg c_11, if_neg c_12, if_pos c_13]
                  exact j_iret C hQ rfl dX8_queue_85 (dt_iv hs)
                · refine j_iload (i := 5) C dX8_queue_68 5 rfl ?_
                  refine j_iconst (x := 4) C dX8_queue_70 (by decide) ?_
                  refine j_iconst (x := 4) C dX8_queue_71 (by decide) ?_
                  refine j_bipush (x := 8) C dX8_queue_72 (by decide) ?_
                  refine j_iload_n (i := 2) C dX8_queue_74 rfl 2 rfl ?_
                  refine j_imul C dX8_queue_75 ?_
                  refine j_iadd C dX8_queue_76 ?_
                  refine c_S (As := [.int e, .int 4, .int (4 + (8 * b))]) (rest := []) (st1 := [.int (S_X8_isPlace v f e 4 (4 + (8 * b)))]) C (c_X8_isPlace ε ad v f u g e 4 (4 + (8 * b))  ) mt_X8_isPlace lm_X8_80 dX8_queue_77 rfl rfl (by decide) (Nat.le_of_ble_eq_true rfl) rfl ?_
                  refine j_if_ne (tgt := 86) C dX8_queue_80 (by decide) (fun c_14 => ?_) (fun c_14 => ?_)
                  · refine j_aload_n (i := 0) C dX8_queue_86 rfl 0 rfl ?_
                    refine g_0_device C dX8_queue_87 lf_X8_21 ?_
                    refine j_iload_n (i := 1) C dX8_queue_90 rfl 1 rfl ?_
                    refine c_V (As := [.int 1]) (rest := []) (st1 := [.ref (ad 5)]) C (c_X1_ringOf_1 ε ad v f u g   ) mv_X1_ringOf lm_X8_39 dX8_queue_91 3 wl_3 rfl rfl rfl (by decide) (Nat.le_of_ble_eq_true rfl) rfl ?_
                    refine j_iload_n (i := 2) C dX8_queue_94 rfl 2 rfl ?_
                    refine j_iload_n (i := 3) C dX8_queue_95 rfl 3 rfl ?_
                    refine j_iload (i := 4) C dX8_queue_96 4 rfl ?_
                    refine j_iload (i := 5) C dX8_queue_98 5 rfl ?_
                    refine c_V (As := [.int b, .int c, .int d, .int e]) (rest := []) (st1 := []) C (c_X6_lay_5 ε ad v f u g b c d e  ) mv_X6_lay lm_X8_53 dX8_queue_100 5 wl_5 rfl rfl rfl (by decide) (Nat.le_of_ble_eq_true rfl) rfl ?_
                    refine j_iconst (x := 0) C dX8_queue_103 (by decide) ?_
                    have hs : S_X8_queue v f a b c d e = (0, (S_X6_lay_5 v f b c d e)) := by unfold S_X8_queue; rw [if_neg c_1, if_pos c_2, if_neg c_3, if_pos c_9, if_pos c_10, if_neg c_11, if_neg c_12, if_neg c_13, if_neg c_14]
                    exact j_iret C hQ rfl dX8_queue_104 (dt_iv hs)
                  · refine j_bipush (x := (-2)) C dX8_queue_83 (by decide) ?_
                    have hs : S_X8_queue v f a b c d e = ((-2), v) := by unfold S_X8_queue; rw [if_neg c_1, if_pos c_2, if_neg c_3, if_pos c_9, if_pos c_10, if_neg c_11, if_neg c_12, if_neg c_13, if_pos c_14]
                    exact j_iret C hQ rfl dX8_queue_85 (dt_iv hs)
            · refine j_bipush (x := (-2)) C dX8_queue_38 (by decide) ?_
              have hs : S_X8_queue v f a b c d e = ((-2), v) := by unfold S_X8_queue; rw [if_neg c_1, if_pos c_2, if_neg c_3, if_pos c_9, if_pos c_10, if_pos c_11]
              exact j_iret C hQ rfl dX8_queue_40 (dt_iv hs)
        · have c_15 : a = 2 := isq2 c_1 c_3 c_9
          refine j_to (lv2 := [(0, .ref (ad 0)), (1, .int 2), (2, .int b), (3, .int c), (4, .int d), (5, .int e)]) (st' := [.int 2, .ref (ad 3)]) rfl (by first | rfl | (rw [c_15]; rfl)) (by first | rfl | (rw [c_15]; rfl) | rw [c_15]) ?_
          refine c_V (As := [.int 2]) (rest := []) (st1 := [.ref (ad 6)]) C (c_X1_ringOf_2 ε ad v f u g   ) mv_X1_ringOf lm_X8_39 dX8_queue_22 3 wl_3 rfl rfl rfl (by decide) (Nat.le_of_ble_eq_true rfl) rfl ?_
          refine g_6_laid (x := (v 20)) C dX8_queue_25 lf_X8_73 rfl ?_
          refine j_if_ne (tgt := 38) C dX8_queue_28 (by decide) (fun c_16 => ?_) (fun c_16 => ?_)
          · refine j_bipush (x := (-2)) C dX8_queue_38 (by decide) ?_
            have hs : S_X8_queue v f a b c d e = ((-2), v) := by unfold S_X8_queue; rw [if_neg c_1, if_pos c_2, if_neg c_3, if_neg c_9, if_neg c_16]
            exact j_iret C hQ rfl dX8_queue_40 (dt_iv hs)
          · refine j_iload_n (i := 2) C dX8_queue_31 rfl 2 rfl ?_
            refine c_S (As := [.int b]) (rest := []) (st1 := [.int (S_X8_isSize v f b)]) C (c_X8_isSize ε ad v f u g b  ) mt_X8_isSize lm_X8_77 dX8_queue_32 rfl rfl (by decide) (Nat.le_of_ble_eq_true rfl) rfl ?_
            refine j_if_ne (tgt := 41) C dX8_queue_35 (by decide) (fun c_17 => ?_) (fun c_17 => ?_)
            · refine j_iload_n (i := 3) C dX8_queue_41 rfl 3 rfl ?_
              refine j_bipush (x := 16) C dX8_queue_42 (by decide) ?_
              refine j_bipush (x := 16) C dX8_queue_44 (by decide) ?_
              refine j_iload_n (i := 2) C dX8_queue_46 rfl 2 rfl ?_
              refine j_imul C dX8_queue_47 ?_
              refine c_S (As := [.int c, .int 16, .int (16 * b)]) (rest := []) (st1 := [.int (S_X8_isPlace v f c 16 (16 * b))]) C (c_X8_isPlace ε ad v f u g c 16 (16 * b)  ) mt_X8_isPlace lm_X8_80 dX8_queue_48 rfl rfl (by decide) (Nat.le_of_ble_eq_true rfl) rfl ?_
              refine j_if_eq (tgt := 83) C dX8_queue_51 (by decide) (fun c_18 => ?_) (fun c_18 => ?_)
              · refine j_bipush (x := (-2)) C dX8_queue_83 (by decide) ?_
                have hs : S_X8_queue v f a b c d e = ((-2), v) := by unfold S_X8_queue; rw [if_neg c_1, if_pos c_2, if_neg c_3, if_neg c_9, if_pos c_16, if_neg c_17, if_pos c_18]
                exact j_iret C hQ rfl dX8_queue_85 (dt_iv hs)
              · refine j_iload (i := 4) C dX8_queue_54 4 rfl ?_
                refine j_iconst (x := 2) C dX8_queue_56 (by decide) ?_
                refine j_iconst (x := 4) C dX8_queue_57 (by decide) ?_
                refine j_iconst (x := 2) C dX8_queue_58 (by decide) ?_
                refine j_iload_n (i := 2) C dX8_queue_59 rfl 2 rfl ?_
                refine j_imul C dX8_queue_60 ?_
                refine j_iadd C dX8_queue_61 ?_
                refine c_S (As := [.int d, .int 2, .int (4 + (2 * b))]) (rest := []) (st1 := [.int (S_X8_isPlace v f d 2 (4 + (2 * b)))]) C (c_X8_isPlace ε ad v f u g d 2 (4 + (2 * b))  ) mt_X8_isPlace lm_X8_80 dX8_queue_62 rfl rfl (by decide) (Nat.le_of_ble_eq_true rfl) rfl ?_
                refine j_if_eq (tgt := 83) C dX8_queue_65 (by decide) (fun c_19 => ?_) (fun c_19 => ?_)
                · refine j_bipush (x := (-2)) C dX8_queue_83 (by decide) ?_
                  have hs : S_X8_queue v f a b c d e = ((-2), v) := by unfold S_X8_queue; rw [if_neg c_1, if_pos c_2, if_neg c_3, if_neg c_9, if_pos c_16, if_neg c_17, if_neg c_18, if_pos c_19]
                  exact j_iret C hQ rfl dX8_queue_85 (dt_iv hs)
                · refine j_iload (i := 5) C dX8_queue_68 5 rfl ?_
                  refine j_iconst (x := 4) C dX8_queue_70 (by decide) ?_
                  refine j_iconst (x := 4) C dX8_queue_71 (by decide) ?_
                  refine j_bipush (x := 8) C dX8_queue_72 (by decide) ?_
                  refine j_iload_n (i := 2) C dX8_queue_74 rfl 2 rfl ?_
                  refine j_imul C dX8_queue_75 ?_
                  refine j_iadd C dX8_queue_76 ?_
                  refine c_S (As := [.int e, .int 4, .int (4 + (8 * b))]) (rest := []) (st1 := [.int (S_X8_isPlace v f e 4 (4 + (8 * b)))]) C (c_X8_isPlace ε ad v f u g e 4 (4 + (8 * b))  ) mt_X8_isPlace lm_X8_80 dX8_queue_77 rfl rfl (by decide) (Nat.le_of_ble_eq_true rfl) rfl ?_
                  refine j_if_ne (tgt := 86) C dX8_queue_80 (by decide) (fun c_20 => ?_) (fun c_20 => ?_)
                  · refine j_aload_n (i := 0) C dX8_queue_86 rfl 0 rfl ?_
                    refine g_0_device C dX8_queue_87 lf_X8_21 ?_
                    refine j_iload_n (i := 1) C dX8_queue_90 rfl 1 rfl ?_
                    refine c_V (As := [.int 2]) (rest := []) (st1 := [.ref (ad 6)]) C (c_X1_ringOf_2 ε ad v f u g   ) mv_X1_ringOf lm_X8_39 dX8_queue_91 3 wl_3 rfl rfl rfl (by decide) (Nat.le_of_ble_eq_true rfl) rfl ?_
                    refine j_iload_n (i := 2) C dX8_queue_94 rfl 2 rfl ?_
                    refine j_iload_n (i := 3) C dX8_queue_95 rfl 3 rfl ?_
                    refine j_iload (i := 4) C dX8_queue_96 4 rfl ?_
                    refine j_iload (i := 5) C dX8_queue_98 5 rfl ?_
                    refine c_V (As := [.int b, .int c, .int d, .int e]) (rest := []) (st1 := []) C (c_X6_lay_6 ε ad v f u g b c d e  ) mv_X6_lay lm_X8_53 dX8_queue_100 6 wl_6 rfl rfl rfl (by decide) (Nat.le_of_ble_eq_true rfl) rfl ?_
                    refine j_iconst (x := 0) C dX8_queue_103 (by decide) ?_
                    have hs : S_X8_queue v f a b c d e = (0, (S_X6_lay_6 v f b c d e)) := by unfold S_X8_queue; rw [if_neg c_1, if_pos c_2, if_neg c_3, if_neg c_9, if_pos c_16, if_neg c_17, if_neg c_18, if_neg c_19, if_neg c_20]
                    exact j_iret C hQ rfl dX8_queue_104 (dt_iv hs)
                  · refine j_bipush (x := (-2)) C dX8_queue_83 (by decide) ?_
                    have hs : S_X8_queue v f a b c d e = ((-2), v) := by unfold S_X8_queue; rw [if_neg c_1, if_pos c_2, if_neg c_3, if_neg c_9, if_pos c_16, if_neg c_17, if_neg c_18, if_neg c_19, if_pos c_20]
                    exact j_iret C hQ rfl dX8_queue_85 (dt_iv hs)
            · refine j_bipush (x := (-2)) C dX8_queue_38 (by decide) ?_
              have hs : S_X8_queue v f a b c d e = ((-2), v) := by unfold S_X8_queue; rw [if_neg c_1, if_pos c_2, if_neg c_3, if_neg c_9, if_pos c_16, if_pos c_17]
              exact j_iret C hQ rfl dX8_queue_40 (dt_iv hs)

def S_X8_run (v : Nat → Int32) (f : Nat → Nat → Int32)  : Int32 × (Nat → Int32) :=
  if (v 0) = 0 then (0, (upd v 0 1))
  else ((-2), v)
set_option maxHeartbeats 1000000 in
set_option maxRecDepth 100000 in
theorem c_X8_run (ε : ET) (ad : Nat → Nat) (v : Nat → Int32) (f : Nat → Nat → Int32) (u : Nat → Int32) (g : Nat → Nat → Int32)   : CT ε yX8_run cX8_run 1 (some .int) 0 0 0 0 [.ref (ad 0)] (WD ε ad v f u g) (DT (some (.int ((S_X8_run v f).1))) (WD ε ad ((S_X8_run v f).2) f u g)) := by
  refine CT.of (own := RX8) (by decide) rfl (Nat.le_of_ble_eq_true rfl) (fun κ C hQ => ?_)
  refine j_aload_n (i := 0) C dX8_run_0 rfl 0 rfl ?_
  refine g_0_device C dX8_run_1 lf_X8_21 ?_
  refine g_3_state (x := (v 0)) C dX8_run_4 lf_X8_59 rfl ?_
  refine j_if_eq (tgt := 13) C dX8_run_7 (by decide) (fun c_1 => ?_) (fun c_1 => ?_)
  · refine j_aload_n (i := 0) C dX8_run_13 rfl 0 rfl ?_
    refine g_0_device C dX8_run_14 lf_X8_21 ?_
    refine j_iconst (x := 1) C dX8_run_17 (by decide) ?_
    refine p_3_state C dX8_run_18 lf_X8_59 ?_
    refine j_iconst (x := 0) C dX8_run_21 (by decide) ?_
    have hs : S_X8_run v f = (0, (upd v 0 1)) := by unfold S_X8_run; rw [if_pos c_1]
    exact j_iret C hQ rfl dX8_run_22 (dt_iv hs)
  · refine j_bipush (x := (-2)) C dX8_run_10 (by decide) ?_
    have hs : S_X8_run v f = ((-2), v) := by unfold S_X8_run; rw [if_neg c_1]
    exact j_iret C hQ rfl dX8_run_12 (dt_iv hs)

def S_X8_poke (v : Nat → Int32) (f : Nat → Nat → Int32) (a : Int32) (b : Int32) : Int32 × (Nat → Nat → Int32) :=
  if (S_X8_isAddress v f a) = 0 then ((-2), f)
  else if b < 0 then ((-2), f)
    else if b ≤ 255 then ((S_X5_at v f a), (S_X5_set v f a b))
      else ((-2), f)
set_option maxHeartbeats 1000000 in
set_option maxRecDepth 100000 in
theorem c_X8_poke (ε : ET) (ad : Nat → Nat) (v : Nat → Int32) (f : Nat → Nat → Int32) (u : Nat → Int32) (g : Nat → Nat → Int32) (a : Int32) (b : Int32)  : CT ε yX8_poke cX8_poke 4 (some .int) 1 22 0 0 [.ref (ad 0), .int a, .int b] (WD ε ad v f u g) (DT (some (.int ((S_X8_poke v f a b).1))) (WD ε ad v ((S_X8_poke v f a b).2) u g)) := by
  refine CT.of (own := RX8) (by decide) rfl (Nat.le_of_ble_eq_true rfl) (fun κ C hQ => ?_)
  refine j_iload_n (i := 1) C dX8_poke_0 rfl 1 rfl ?_
  refine c_S (As := [.int a]) (rest := []) (st1 := [.int (S_X8_isAddress v f a)]) C (c_X8_isAddress ε ad v f u g a  ) mt_X8_isAddress lm_X8_84 dX8_poke_1 rfl rfl (by decide) (Nat.le_of_ble_eq_true rfl) rfl ?_
  refine j_if_eq (tgt := 18) C dX8_poke_4 (by decide) (fun c_1 => ?_) (fun c_1 => ?_)
  · refine j_bipush (x := (-2)) C dX8_poke_18 (by decide) ?_
    have hs : S_X8_poke v f a b = ((-2), f) := by unfold S_X8_poke; rw [if_pos c_1]
    exact j_iret C hQ rfl dX8_poke_20 (dt_if hs)
  · refine j_iload_n (i := 2) C dX8_poke_7 rfl 2 rfl ?_
    refine j_if_lt (tgt := 18) C dX8_poke_8 (by decide) (fun c_2 => ?_) (fun c_2 => ?_)
    · refine j_bipush (x := (-2)) C dX8_poke_18 (by decide) ?_
      have hs : S_X8_poke v f a b = ((-2), f) := by unfold S_X8_poke; rw [if_neg c_1, if_pos c_2]
      exact j_iret C hQ rfl dX8_poke_20 (dt_if hs)
    · refine j_iload_n (i := 2) C dX8_poke_11 rfl 2 rfl ?_
      refine j_sipush (x := 255) C dX8_poke_12 (by decide) ?_
      refine j_icmp_le (tgt := 21) C dX8_poke_15 (by decide) (fun c_3 => ?_) (fun c_3 => ?_)
      · refine j_aload_n (i := 0) C dX8_poke_21 rfl 0 rfl ?_
        refine g_0_memory C dX8_poke_22 lf_X8_10 ?_
        refine j_iload_n (i := 1) C dX8_poke_25 rfl 1 rfl ?_
        refine c_V (As := [.int a]) (rest := []) (st1 := [.int (S_X5_at v f a)]) C (c_X5_at ε ad v f u g a  ) mv_X5_at lm_X8_87 dX8_poke_26 1 wl_1 rfl rfl rfl (by decide) (Nat.le_of_ble_eq_true rfl) rfl ?_
        refine j_istore_n (i := 3) (lv' := [(3, .int (S_X5_at v f a)), (0, .ref (ad 0)), (1, .int a), (2, .int b)]) C dX8_poke_29 rfl (by decide) rfl ?_
        refine j_aload_n (i := 0) C dX8_poke_30 rfl 1 rfl ?_
        refine g_0_memory C dX8_poke_31 lf_X8_10 ?_
        refine j_iload_n (i := 1) C dX8_poke_34 rfl 2 rfl ?_
        refine j_iload_n (i := 2) C dX8_poke_35 rfl 3 rfl ?_
        refine c_V (As := [.int a, .int b]) (rest := []) (st1 := []) C (c_X5_set ε ad v f u g a b  ) mv_X5_set lm_X8_90 dX8_poke_36 1 wl_1 rfl rfl rfl (by decide) (Nat.le_of_ble_eq_true rfl) rfl ?_
        refine j_iload_n (i := 3) C dX8_poke_39 rfl 0 rfl ?_
        have hs : S_X8_poke v f a b = ((S_X5_at v f a), (S_X5_set v f a b)) := by unfold S_X8_poke; rw [if_neg c_1, if_neg c_2, if_pos c_3]
        exact j_iret C hQ rfl dX8_poke_40 (dt_if hs)
      · refine j_bipush (x := (-2)) C dX8_poke_18 (by decide) ?_
        have hs : S_X8_poke v f a b = ((-2), f) := by unfold S_X8_poke; rw [if_neg c_1, if_neg c_2, if_neg c_3]
        exact j_iret C hQ rfl dX8_poke_20 (dt_if hs)

def S_X8_peek (v : Nat → Int32) (f : Nat → Nat → Int32) (a : Int32) : Int32 :=
  if (S_X8_isAddress v f a) = 0 then (-2)
  else (S_X5_at v f a)
set_option maxHeartbeats 1000000 in
set_option maxRecDepth 100000 in
theorem c_X8_peek (ε : ET) (ad : Nat → Nat) (v : Nat → Int32) (f : Nat → Nat → Int32) (u : Nat → Int32) (g : Nat → Nat → Int32) (a : Int32)  : CT ε yX8_peek cX8_peek 2 (some .int) 1 21 0 0 [.ref (ad 0), .int a] (WD ε ad v f u g) (DT (some (.int (S_X8_peek v f a))) (WD ε ad v f u g)) := by
  refine CT.of (own := RX8) (by decide) rfl (Nat.le_of_ble_eq_true rfl) (fun κ C hQ => ?_)
  refine j_iload_n (i := 1) C dX8_peek_0 rfl 1 rfl ?_
  refine c_S (As := [.int a]) (rest := []) (st1 := [.int (S_X8_isAddress v f a)]) C (c_X8_isAddress ε ad v f u g a  ) mt_X8_isAddress lm_X8_84 dX8_peek_1 rfl rfl (by decide) (Nat.le_of_ble_eq_true rfl) rfl ?_
  refine j_if_eq (tgt := 18) C dX8_peek_4 (by decide) (fun c_1 => ?_) (fun c_1 => ?_)
  · refine j_bipush (x := (-2)) C dX8_peek_18 (by decide) ?_
    have hs : S_X8_peek v f a = (-2) := by unfold S_X8_peek; rw [if_pos c_1]
    exact j_iret C hQ rfl dX8_peek_20 (dt_i hs)
  · refine j_aload_n (i := 0) C dX8_peek_7 rfl 0 rfl ?_
    refine g_0_memory C dX8_peek_8 lf_X8_10 ?_
    refine j_iload_n (i := 1) C dX8_peek_11 rfl 1 rfl ?_
    refine c_V (As := [.int a]) (rest := []) (st1 := [.int (S_X5_at v f a)]) C (c_X5_at ε ad v f u g a  ) mv_X5_at lm_X8_87 dX8_peek_12 1 wl_1 rfl rfl rfl (by decide) (Nat.le_of_ble_eq_true rfl) rfl ?_
    refine j_goto (tgt := 20) C dX8_peek_15 (by decide) ?_
    have hs : S_X8_peek v f a = (S_X5_at v f a) := by unfold S_X8_peek; rw [if_neg c_1]
    exact j_iret C hQ rfl dX8_peek_20 (dt_i hs)

def S_X8_step (v : Nat → Int32) (f : Nat → Nat → Int32) (a : Int32) : Int32 × (Nat → Int32) × (Nat → Nat → Int32) :=
  if a = 0 then (((S_X1_doChain_0 v f).1), ((S_X1_doChain_0 v f).2.1), ((S_X1_doChain_0 v f).2.2))
  else if a = 2 then (((S_X1_doChain_2 v f).1), ((S_X1_doChain_2 v f).2.1), ((S_X1_doChain_2 v f).2.2))
    else ((-2), v, f)
set_option maxHeartbeats 1000000 in
set_option maxRecDepth 100000 in
theorem c_X8_step (ε : ET) (ad : Nat → Nat) (v : Nat → Int32) (f : Nat → Nat → Int32) (u : Nat → Int32) (g : Nat → Nat → Int32) (a : Int32)  : CT ε yX8_step cX8_step 2 (some .int) 8 181 0 0 [.ref (ad 0), .int a] (WD ε ad v f u g) (DT (some (.int ((S_X8_step v f a).1))) (WD ε ad ((S_X8_step v f a).2.1) ((S_X8_step v f a).2.2) u g)) := by
  refine CT.of (own := RX8) (by decide) rfl (Nat.le_of_ble_eq_true rfl) (fun κ C hQ => ?_)
  refine j_iload_n (i := 1) C dX8_step_0 rfl 1 rfl ?_
  refine j_if_eq (tgt := 12) C dX8_step_1 (by decide) (fun c_1 => ?_) (fun c_1 => ?_)
  · refine j_aload_n (i := 0) C dX8_step_12 rfl 0 rfl ?_
    refine g_0_device C dX8_step_13 lf_X8_21 ?_
    refine j_iload_n (i := 1) C dX8_step_16 rfl 1 rfl ?_
    refine j_to (lv2 := [(0, .ref (ad 0)), (1, .int 0)]) (st' := [.int 0, .ref (ad 3)]) rfl (by first | rfl | (rw [c_1]; rfl)) (by first | rfl | (rw [c_1]; rfl) | rw [c_1]) ?_
    refine c_V (As := [.int 0]) (rest := []) (st1 := [.int ((S_X1_doChain_0 v f).1)]) C (c_X1_doChain_0 ε ad v f u g   ) mv_X1_doChain lm_X8_94 dX8_step_17 3 wl_3 rfl rfl rfl (by decide) (Nat.le_of_ble_eq_true rfl) rfl ?_
    have hs : S_X8_step v f a = (((S_X1_doChain_0 v f).1), ((S_X1_doChain_0 v f).2.1), ((S_X1_doChain_0 v f).2.2)) := by unfold S_X8_step; rw [if_pos c_1]
    exact j_iret C hQ rfl dX8_step_20 (dt_ivf hs)
  · refine j_iload_n (i := 1) C dX8_step_4 rfl 1 rfl ?_
    refine j_iconst (x := 2) C dX8_step_5 (by decide) ?_
    refine j_icmp_eq (tgt := 12) C dX8_step_6 (by decide) (fun c_2 => ?_) (fun c_2 => ?_)
    · refine j_aload_n (i := 0) C dX8_step_12 rfl 0 rfl ?_
      refine g_0_device C dX8_step_13 lf_X8_21 ?_
      refine j_iload_n (i := 1) C dX8_step_16 rfl 1 rfl ?_
      refine j_to (lv2 := [(0, .ref (ad 0)), (1, .int 2)]) (st' := [.int 2, .ref (ad 3)]) rfl (by first | rfl | (rw [c_2]; rfl)) (by first | rfl | (rw [c_2]; rfl) | rw [c_2]) ?_
      refine c_V (As := [.int 2]) (rest := []) (st1 := [.int ((S_X1_doChain_2 v f).1)]) C (c_X1_doChain_2 ε ad v f u g   ) mv_X1_doChain lm_X8_94 dX8_step_17 3 wl_3 rfl rfl rfl (by decide) (Nat.le_of_ble_eq_true rfl) rfl ?_
      have hs : S_X8_step v f a = (((S_X1_doChain_2 v f).1), ((S_X1_doChain_2 v f).2.1), ((S_X1_doChain_2 v f).2.2)) := by unfold S_X8_step; rw [if_neg c_1, if_pos c_2]
      exact j_iret C hQ rfl dX8_step_20 (dt_ivf hs)
    · refine j_bipush (x := (-2)) C dX8_step_9 (by decide) ?_
      have hs : S_X8_step v f a = ((-2), v, f) := by unfold S_X8_step; rw [if_neg c_1, if_neg c_2]
      exact j_iret C hQ rfl dX8_step_11 (dt_ivf hs)

def S_X8_arrive (v : Nat → Int32) (f : Nat → Nat → Int32) (a : Int32) (b : Int64) : Int32 × (Nat → Int32) × (Nat → Nat → Int32) :=
  if (S_X8_isFrame v f a) = 0 then ((-2), v, f)
  else (((S_X1_frameComes v f a b).1), ((S_X1_frameComes v f a b).2.1), ((S_X1_frameComes v f a b).2.2))
set_option maxHeartbeats 1000000 in
set_option maxRecDepth 100000 in
theorem c_X8_arrive (ε : ET) (ad : Nat → Nat) (v : Nat → Int32) (f : Nat → Nat → Int32) (u : Nat → Int32) (g : Nat → Nat → Int32) (a : Int32) (b : Int64)  : CT ε yX8_arrive cX8_arrive 4 (some .int) 6 147 0 0 [.ref (ad 0), .int a, .long b] (WD ε ad v f u g) (DT (some (.int ((S_X8_arrive v f a b).1))) (WD ε ad ((S_X8_arrive v f a b).2.1) ((S_X8_arrive v f a b).2.2) u g)) := by
  refine CT.of (own := RX8) (by decide) rfl (Nat.le_of_ble_eq_true rfl) (fun κ C hQ => ?_)
  refine j_iload_n (i := 1) C dX8_arrive_0 rfl 1 rfl ?_
  refine c_S (As := [.int a]) (rest := []) (st1 := [.int (S_X8_isFrame v f a)]) C (c_X8_isFrame ε ad v f u g a  ) mt_X8_isFrame lm_X8_97 dX8_arrive_1 rfl rfl (by decide) (Nat.le_of_ble_eq_true rfl) rfl ?_
  refine j_if_eq (tgt := 19) C dX8_arrive_4 (by decide) (fun c_1 => ?_) (fun c_1 => ?_)
  · refine j_bipush (x := (-2)) C dX8_arrive_19 (by decide) ?_
    have hs : S_X8_arrive v f a b = ((-2), v, f) := by unfold S_X8_arrive; rw [if_pos c_1]
    exact j_iret C hQ rfl dX8_arrive_21 (dt_ivf hs)
  · refine j_aload_n (i := 0) C dX8_arrive_7 rfl 0 rfl ?_
    refine g_0_device C dX8_arrive_8 lf_X8_21 ?_
    refine j_iload_n (i := 1) C dX8_arrive_11 rfl 1 rfl ?_
    refine j_lload_n (i := 2) C dX8_arrive_12 rfl 2 rfl ?_
    refine c_V (As := [.int a, .long b]) (rest := []) (st1 := [.int ((S_X1_frameComes v f a b).1)]) C (c_X1_frameComes ε ad v f u g a b  ) mv_X1_frameComes lm_X8_100 dX8_arrive_13 3 wl_3 rfl rfl rfl (by decide) (Nat.le_of_ble_eq_true rfl) rfl ?_
    refine j_goto (tgt := 21) C dX8_arrive_16 (by decide) ?_
    have hs : S_X8_arrive v f a b = (((S_X1_frameComes v f a b).1), ((S_X1_frameComes v f a b).2.1), ((S_X1_frameComes v f a b).2.2)) := by unfold S_X8_arrive; rw [if_neg c_1]
    exact j_iret C hQ rfl dX8_arrive_21 (dt_ivf hs)

def S_X8_read (v : Nat → Int32) (f : Nat → Nat → Int32) (a : Int32) : Int32 × (Nat → Int32) × (Nat → Nat → Int32) :=
  if (S_X8_isSector v f a) = 0 then ((-2), v, f)
  else (((S_X3_ask v f 0 a 0).1), ((S_X3_ask v f 0 a 0).2.1), ((S_X3_ask v f 0 a 0).2.2))
set_option maxHeartbeats 1000000 in
set_option maxRecDepth 100000 in
theorem c_X8_read (ε : ET) (ad : Nat → Nat) (v : Nat → Int32) (f : Nat → Nat → Int32) (u : Nat → Int32) (g : Nat → Nat → Int32) (a : Int32)  : CT ε yX8_read cX8_read 2 (some .int) 5 128 0 0 [.ref (ad 0), .int a] (WD ε ad v f u g) (DT (some (.int ((S_X8_read v f a).1))) (WD ε ad ((S_X8_read v f a).2.1) ((S_X8_read v f a).2.2) u g)) := by
  refine CT.of (own := RX8) (by decide) rfl (Nat.le_of_ble_eq_true rfl) (fun κ C hQ => ?_)
  refine j_iload_n (i := 1) C dX8_read_0 rfl 1 rfl ?_
  refine c_S (As := [.int a]) (rest := []) (st1 := [.int (S_X8_isSector v f a)]) C (c_X8_isSector ε ad v f u g a  ) mt_X8_isSector lm_X8_104 dX8_read_1 rfl rfl (by decide) (Nat.le_of_ble_eq_true rfl) rfl ?_
  refine j_if_eq (tgt := 20) C dX8_read_4 (by decide) (fun c_1 => ?_) (fun c_1 => ?_)
  · refine j_bipush (x := (-2)) C dX8_read_20 (by decide) ?_
    have hs : S_X8_read v f a = ((-2), v, f) := by unfold S_X8_read; rw [if_pos c_1]
    exact j_iret C hQ rfl dX8_read_22 (dt_ivf hs)
  · refine j_aload_n (i := 0) C dX8_read_7 rfl 0 rfl ?_
    refine g_0_driver C dX8_read_8 lf_X8_28 ?_
    refine j_iconst (x := 0) C dX8_read_11 (by decide) ?_
    refine j_iload_n (i := 1) C dX8_read_12 rfl 1 rfl ?_
    refine j_lconst (x := 0) C dX8_read_13 (by decide) ?_
    refine c_V (As := [.int 0, .int a, .long 0]) (rest := []) (st1 := [.int ((S_X3_ask v f 0 a 0).1)]) C (c_X3_ask ε ad v f u g 0 a 0  ) mv_X3_ask lm_X8_107 dX8_read_14 15 wl_15 rfl rfl rfl (by decide) (Nat.le_of_ble_eq_true rfl) rfl ?_
    refine j_goto (tgt := 22) C dX8_read_17 (by decide) ?_
    have hs : S_X8_read v f a = (((S_X3_ask v f 0 a 0).1), ((S_X3_ask v f 0 a 0).2.1), ((S_X3_ask v f 0 a 0).2.2)) := by unfold S_X8_read; rw [if_neg c_1]
    exact j_iret C hQ rfl dX8_read_22 (dt_ivf hs)

def S_X8_write (v : Nat → Int32) (f : Nat → Nat → Int32) (a : Int32) (b : Int64) : Int32 × (Nat → Int32) × (Nat → Nat → Int32) :=
  if (S_X8_isSector v f a) = 0 then ((-2), v, f)
  else (((S_X3_ask v f 1 a b).1), ((S_X3_ask v f 1 a b).2.1), ((S_X3_ask v f 1 a b).2.2))
set_option maxHeartbeats 1000000 in
set_option maxRecDepth 100000 in
theorem c_X8_write (ε : ET) (ad : Nat → Nat) (v : Nat → Int32) (f : Nat → Nat → Int32) (u : Nat → Int32) (g : Nat → Nat → Int32) (a : Int32) (b : Int64)  : CT ε yX8_write cX8_write 4 (some .int) 5 128 0 0 [.ref (ad 0), .int a, .long b] (WD ε ad v f u g) (DT (some (.int ((S_X8_write v f a b).1))) (WD ε ad ((S_X8_write v f a b).2.1) ((S_X8_write v f a b).2.2) u g)) := by
  refine CT.of (own := RX8) (by decide) rfl (Nat.le_of_ble_eq_true rfl) (fun κ C hQ => ?_)
  refine j_iload_n (i := 1) C dX8_write_0 rfl 1 rfl ?_
  refine c_S (As := [.int a]) (rest := []) (st1 := [.int (S_X8_isSector v f a)]) C (c_X8_isSector ε ad v f u g a  ) mt_X8_isSector lm_X8_104 dX8_write_1 rfl rfl (by decide) (Nat.le_of_ble_eq_true rfl) rfl ?_
  refine j_if_eq (tgt := 20) C dX8_write_4 (by decide) (fun c_1 => ?_) (fun c_1 => ?_)
  · refine j_bipush (x := (-2)) C dX8_write_20 (by decide) ?_
    have hs : S_X8_write v f a b = ((-2), v, f) := by unfold S_X8_write; rw [if_pos c_1]
    exact j_iret C hQ rfl dX8_write_22 (dt_ivf hs)
  · refine j_aload_n (i := 0) C dX8_write_7 rfl 0 rfl ?_
    refine g_0_driver C dX8_write_8 lf_X8_28 ?_
    refine j_iconst (x := 1) C dX8_write_11 (by decide) ?_
    refine j_iload_n (i := 1) C dX8_write_12 rfl 1 rfl ?_
    refine j_lload_n (i := 2) C dX8_write_13 rfl 2 rfl ?_
    refine c_V (As := [.int 1, .int a, .long b]) (rest := []) (st1 := [.int ((S_X3_ask v f 1 a b).1)]) C (c_X3_ask ε ad v f u g 1 a b  ) mv_X3_ask lm_X8_107 dX8_write_14 15 wl_15 rfl rfl rfl (by decide) (Nat.le_of_ble_eq_true rfl) rfl ?_
    refine j_goto (tgt := 22) C dX8_write_17 (by decide) ?_
    have hs : S_X8_write v f a b = (((S_X3_ask v f 1 a b).1), ((S_X3_ask v f 1 a b).2.1), ((S_X3_ask v f 1 a b).2.2)) := by unfold S_X8_write; rw [if_neg c_1]
    exact j_iret C hQ rfl dX8_write_22 (dt_ivf hs)

def S_X8_send (v : Nat → Int32) (f : Nat → Nat → Int32) (a : Int32) (b : Int64) : Int32 × (Nat → Int32) × (Nat → Nat → Int32) :=
  if (S_X8_isFrame v f a) = 0 then ((-2), v, f)
  else (((S_X3_letGo v f a b).1), ((S_X3_letGo v f a b).2.1), ((S_X3_letGo v f a b).2.2))
set_option maxHeartbeats 1000000 in
set_option maxRecDepth 100000 in
theorem c_X8_send (ε : ET) (ad : Nat → Nat) (v : Nat → Int32) (f : Nat → Nat → Int32) (u : Nat → Int32) (g : Nat → Nat → Int32) (a : Int32) (b : Int64)  : CT ε yX8_send cX8_send 4 (some .int) 4 99 0 0 [.ref (ad 0), .int a, .long b] (WD ε ad v f u g) (DT (some (.int ((S_X8_send v f a b).1))) (WD ε ad ((S_X8_send v f a b).2.1) ((S_X8_send v f a b).2.2) u g)) := by
  refine CT.of (own := RX8) (by decide) rfl (Nat.le_of_ble_eq_true rfl) (fun κ C hQ => ?_)
  refine j_iload_n (i := 1) C dX8_send_0 rfl 1 rfl ?_
  refine c_S (As := [.int a]) (rest := []) (st1 := [.int (S_X8_isFrame v f a)]) C (c_X8_isFrame ε ad v f u g a  ) mt_X8_isFrame lm_X8_97 dX8_send_1 rfl rfl (by decide) (Nat.le_of_ble_eq_true rfl) rfl ?_
  refine j_if_eq (tgt := 19) C dX8_send_4 (by decide) (fun c_1 => ?_) (fun c_1 => ?_)
  · refine j_bipush (x := (-2)) C dX8_send_19 (by decide) ?_
    have hs : S_X8_send v f a b = ((-2), v, f) := by unfold S_X8_send; rw [if_pos c_1]
    exact j_iret C hQ rfl dX8_send_21 (dt_ivf hs)
  · refine j_aload_n (i := 0) C dX8_send_7 rfl 0 rfl ?_
    refine g_0_driver C dX8_send_8 lf_X8_28 ?_
    refine j_iload_n (i := 1) C dX8_send_11 rfl 1 rfl ?_
    refine j_lload_n (i := 2) C dX8_send_12 rfl 2 rfl ?_
    refine c_V (As := [.int a, .long b]) (rest := []) (st1 := [.int ((S_X3_letGo v f a b).1)]) C (c_X3_letGo ε ad v f u g a b  ) mv_X3_letGo lm_X8_111 dX8_send_13 15 wl_15 rfl rfl rfl (by decide) (Nat.le_of_ble_eq_true rfl) rfl ?_
    refine j_goto (tgt := 21) C dX8_send_16 (by decide) ?_
    have hs : S_X8_send v f a b = (((S_X3_letGo v f a b).1), ((S_X3_letGo v f a b).2.1), ((S_X3_letGo v f a b).2.2)) := by unfold S_X8_send; rw [if_neg c_1]
    exact j_iret C hQ rfl dX8_send_21 (dt_ivf hs)

def S_X8_post (v : Nat → Int32) (f : Nat → Nat → Int32)  : Int32 × (Nat → Int32) × (Nat → Nat → Int32) :=
  (((S_X3_lendBuffer v f).1), ((S_X3_lendBuffer v f).2.1), ((S_X3_lendBuffer v f).2.2))
set_option maxHeartbeats 1000000 in
set_option maxRecDepth 100000 in
theorem c_X8_post (ε : ET) (ad : Nat → Nat) (v : Nat → Int32) (f : Nat → Nat → Int32) (u : Nat → Int32) (g : Nat → Nat → Int32)   : CT ε yX8_post cX8_post 1 (some .int) 4 95 0 0 [.ref (ad 0)] (WD ε ad v f u g) (DT (some (.int ((S_X8_post v f).1))) (WD ε ad ((S_X8_post v f).2.1) ((S_X8_post v f).2.2) u g)) := by
  refine CT.of (own := RX8) (by decide) rfl (Nat.le_of_ble_eq_true rfl) (fun κ C hQ => ?_)
  refine j_aload_n (i := 0) C dX8_post_0 rfl 0 rfl ?_
  refine g_0_driver C dX8_post_1 lf_X8_28 ?_
  refine c_V (As := []) (rest := []) (st1 := [.int ((S_X3_lendBuffer v f).1)]) C (c_X3_lendBuffer ε ad v f u g   ) mv_X3_lendBuffer lm_X8_114 dX8_post_4 15 wl_15 rfl rfl rfl (by decide) (Nat.le_of_ble_eq_true rfl) rfl ?_
  have hs : S_X8_post v f = (((S_X3_lendBuffer v f).1), ((S_X3_lendBuffer v f).2.1), ((S_X3_lendBuffer v f).2.2)) := by unfold S_X8_post; rfl
  exact j_iret C hQ rfl dX8_post_7 (dt_ivf hs)

def S_X8_collect (v : Nat → Int32) (f : Nat → Nat → Int32) (a : Int32) : Int32 × (Nat → Int32) × (Nat → Nat → Int32) :=
  if (S_X8_isQueue v f a) = 0 then ((-2), v, f)
  else if a = 0 then (((S_X3_collectOne_0 v f).1), ((S_X3_collectOne_0 v f).2.1), ((S_X3_collectOne_0 v f).2.2))
    else if a = 1 then (((S_X3_collectOne_1 v f).1), ((S_X3_collectOne_1 v f).2.1), ((S_X3_collectOne_1 v f).2.2))
      else (((S_X3_collectOne_2 v f).1), ((S_X3_collectOne_2 v f).2.1), ((S_X3_collectOne_2 v f).2.2))
set_option maxHeartbeats 1000000 in
set_option maxRecDepth 100000 in
theorem c_X8_collect (ε : ET) (ad : Nat → Nat) (v : Nat → Int32) (f : Nat → Nat → Int32) (u : Nat → Int32) (g : Nat → Nat → Int32) (a : Int32)  : CT ε yX8_collect cX8_collect 2 (some .int) 3 72 0 0 [.ref (ad 0), .int a] (WD ε ad v f u g) (DT (some (.int ((S_X8_collect v f a).1))) (WD ε ad ((S_X8_collect v f a).2.1) ((S_X8_collect v f a).2.2) u g)) := by
  refine CT.of (own := RX8) (by decide) rfl (Nat.le_of_ble_eq_true rfl) (fun κ C hQ => ?_)
  refine j_iload_n (i := 1) C dX8_collect_0 rfl 1 rfl ?_
  refine c_S (As := [.int a]) (rest := []) (st1 := [.int (S_X8_isQueue v f a)]) C (c_X8_isQueue ε ad v f u g a  ) mt_X8_isQueue lm_X8_69 dX8_collect_1 rfl rfl (by decide) (Nat.le_of_ble_eq_true rfl) rfl ?_
  refine j_if_eq (tgt := 18) C dX8_collect_4 (by decide) (fun c_1 => ?_) (fun c_1 => ?_)
  · refine j_bipush (x := (-2)) C dX8_collect_18 (by decide) ?_
    have hs : S_X8_collect v f a = ((-2), v, f) := by unfold S_X8_collect; rw [if_pos c_1]
    exact j_iret C hQ rfl dX8_collect_20 (dt_ivf hs)
  · refine j_aload_n (i := 0) C dX8_collect_7 rfl 0 rfl ?_
    refine g_0_driver C dX8_collect_8 lf_X8_28 ?_
    refine j_iload_n (i := 1) C dX8_collect_11 rfl 1 rfl ?_
    by_cases c_2 : a = 0
    · refine j_to (lv2 := [(0, .ref (ad 0)), (1, .int 0)]) (st' := [.int 0, .ref (ad 15)]) rfl (by first | rfl | (rw [c_2]; rfl)) (by first | rfl | (rw [c_2]; rfl) | rw [c_2]) ?_
      refine c_V (As := [.int 0]) (rest := []) (st1 := [.int ((S_X3_collectOne_0 v f).1)]) C (c_X3_collectOne_0 ε ad v f u g   ) mv_X3_collectOne lm_X8_118 dX8_collect_12 15 wl_15 rfl rfl rfl (by decide) (Nat.le_of_ble_eq_true rfl) rfl ?_
      refine j_goto (tgt := 20) C dX8_collect_15 (by decide) ?_
      have hs : S_X8_collect v f a = (((S_X3_collectOne_0 v f).1), ((S_X3_collectOne_0 v f).2.1), ((S_X3_collectOne_0 v f).2.2)) := by unfold S_X8_collect; rw [if_neg c_1, if_pos c_2]
      exact j_iret C hQ rfl dX8_collect_20 (dt_ivf hs)
    · by_cases c_3 : a = 1
      · refine j_to (lv2 := [(0, .ref (ad 0)), (1, .int 1)]) (st' := [.int 1, .ref (ad 15)]) rfl (by first | rfl | (rw [c_3]; rfl)) (by first | rfl | (rw [c_3]; rfl) | rw [c_3]) ?_
        refine c_V (As := [.int 1]) (rest := []) (st1 := [.int ((S_X3_collectOne_1 v f).1)]) C (c_X3_collectOne_1 ε ad v f u g   ) mv_X3_collectOne lm_X8_118 dX8_collect_12 15 wl_15 rfl rfl rfl (by decide) (Nat.le_of_ble_eq_true rfl) rfl ?_
        refine j_goto (tgt := 20) C dX8_collect_15 (by decide) ?_
        have hs : S_X8_collect v f a = (((S_X3_collectOne_1 v f).1), ((S_X3_collectOne_1 v f).2.1), ((S_X3_collectOne_1 v f).2.2)) := by unfold S_X8_collect; rw [if_neg c_1, if_neg c_2, if_pos c_3]
        exact j_iret C hQ rfl dX8_collect_20 (dt_ivf hs)
      · have c_4 : a = 2 := isq2 c_1 c_2 c_3
        refine j_to (lv2 := [(0, .ref (ad 0)), (1, .int 2)]) (st' := [.int 2, .ref (ad 15)]) rfl (by first | rfl | (rw [c_4]; rfl)) (by first | rfl | (rw [c_4]; rfl) | rw [c_4]) ?_
        refine c_V (As := [.int 2]) (rest := []) (st1 := [.int ((S_X3_collectOne_2 v f).1)]) C (c_X3_collectOne_2 ε ad v f u g   ) mv_X3_collectOne lm_X8_118 dX8_collect_12 15 wl_15 rfl rfl rfl (by decide) (Nat.le_of_ble_eq_true rfl) rfl ?_
        refine j_goto (tgt := 20) C dX8_collect_15 (by decide) ?_
        have hs : S_X8_collect v f a = (((S_X3_collectOne_2 v f).1), ((S_X3_collectOne_2 v f).2.1), ((S_X3_collectOne_2 v f).2.2)) := by unfold S_X8_collect; rw [if_neg c_1, if_neg c_2, if_neg c_3]
        exact j_iret C hQ rfl dX8_collect_20 (dt_ivf hs)

def S_X8_written (v : Nat → Int32) (f : Nat → Nat → Int32) (a : Int32) : Int32 :=
  if (S_X8_isQueue v f a) = 0 then (-2)
  else if a = 0 then (v 44)
    else if a = 1 then (v 48)
      else (v 52)
set_option maxHeartbeats 1000000 in
set_option maxRecDepth 100000 in
theorem c_X8_written (ε : ET) (ad : Nat → Nat) (v : Nat → Int32) (f : Nat → Nat → Int32) (u : Nat → Int32) (g : Nat → Nat → Int32) (a : Int32)  : CT ε yX8_written cX8_written 2 (some .int) 1 21 0 0 [.ref (ad 0), .int a] (WD ε ad v f u g) (DT (some (.int (S_X8_written v f a))) (WD ε ad v f u g)) := by
  refine CT.of (own := RX8) (by decide) rfl (Nat.le_of_ble_eq_true rfl) (fun κ C hQ => ?_)
  refine j_iload_n (i := 1) C dX8_written_0 rfl 1 rfl ?_
  refine c_S (As := [.int a]) (rest := []) (st1 := [.int (S_X8_isQueue v f a)]) C (c_X8_isQueue ε ad v f u g a  ) mt_X8_isQueue lm_X8_69 dX8_written_1 rfl rfl (by decide) (Nat.le_of_ble_eq_true rfl) rfl ?_
  refine j_if_eq (tgt := 21) C dX8_written_4 (by decide) (fun c_1 => ?_) (fun c_1 => ?_)
  · refine j_bipush (x := (-2)) C dX8_written_21 (by decide) ?_
    have hs : S_X8_written v f a = (-2) := by unfold S_X8_written; rw [if_pos c_1]
    exact j_iret C hQ rfl dX8_written_23 (dt_i hs)
  · refine j_aload_n (i := 0) C dX8_written_7 rfl 0 rfl ?_
    refine g_0_driver C dX8_written_8 lf_X8_28 ?_
    refine j_iload_n (i := 1) C dX8_written_11 rfl 1 rfl ?_
    by_cases c_2 : a = 0
    · refine j_to (lv2 := [(0, .ref (ad 0)), (1, .int 0)]) (st' := [.int 0, .ref (ad 15)]) rfl (by first | rfl | (rw [c_2]; rfl)) (by first | rfl | (rw [c_2]; rfl) | rw [c_2]) ?_
      refine c_V (As := [.int 0]) (rest := []) (st1 := [.ref (ad 16)]) C (c_X3_loansOf_0 ε ad v f u g   ) mv_X3_loansOf lm_X8_121 dX8_written_12 15 wl_15 rfl rfl rfl (by decide) (Nat.le_of_ble_eq_true rfl) rfl ?_
      refine g_16_latestWritten (x := (v 44)) C dX8_written_15 lf_X8_125 rfl ?_
      refine j_goto (tgt := 23) C dX8_written_18 (by decide) ?_
      have hs : S_X8_written v f a = (v 44) := by unfold S_X8_written; rw [if_neg c_1, if_pos c_2]
      exact j_iret C hQ rfl dX8_written_23 (dt_i hs)
    · by_cases c_3 : a = 1
      · refine j_to (lv2 := [(0, .ref (ad 0)), (1, .int 1)]) (st' := [.int 1, .ref (ad 15)]) rfl (by first | rfl | (rw [c_3]; rfl)) (by first | rfl | (rw [c_3]; rfl) | rw [c_3]) ?_
        refine c_V (As := [.int 1]) (rest := []) (st1 := [.ref (ad 18)]) C (c_X3_loansOf_1 ε ad v f u g   ) mv_X3_loansOf lm_X8_121 dX8_written_12 15 wl_15 rfl rfl rfl (by decide) (Nat.le_of_ble_eq_true rfl) rfl ?_
        refine g_18_latestWritten (x := (v 48)) C dX8_written_15 lf_X8_125 rfl ?_
        refine j_goto (tgt := 23) C dX8_written_18 (by decide) ?_
        have hs : S_X8_written v f a = (v 48) := by unfold S_X8_written; rw [if_neg c_1, if_neg c_2, if_pos c_3]
        exact j_iret C hQ rfl dX8_written_23 (dt_i hs)
      · have c_4 : a = 2 := isq2 c_1 c_2 c_3
        refine j_to (lv2 := [(0, .ref (ad 0)), (1, .int 2)]) (st' := [.int 2, .ref (ad 15)]) rfl (by first | rfl | (rw [c_4]; rfl)) (by first | rfl | (rw [c_4]; rfl) | rw [c_4]) ?_
        refine c_V (As := [.int 2]) (rest := []) (st1 := [.ref (ad 20)]) C (c_X3_loansOf_2 ε ad v f u g   ) mv_X3_loansOf lm_X8_121 dX8_written_12 15 wl_15 rfl rfl rfl (by decide) (Nat.le_of_ble_eq_true rfl) rfl ?_
        refine g_20_latestWritten (x := (v 52)) C dX8_written_15 lf_X8_125 rfl ?_
        refine j_goto (tgt := 23) C dX8_written_18 (by decide) ?_
        have hs : S_X8_written v f a = (v 52) := by unfold S_X8_written; rw [if_neg c_1, if_neg c_2, if_neg c_3]
        exact j_iret C hQ rfl dX8_written_23 (dt_i hs)

def S_X8_wire (v : Nat → Int32) (f : Nat → Nat → Int32) (a : Int32) (b : Int32) : Int32 :=
  (S_X7_byteOf v f a b)
set_option maxHeartbeats 1000000 in
set_option maxRecDepth 100000 in
theorem c_X8_wire (ε : ET) (ad : Nat → Nat) (v : Nat → Int32) (f : Nat → Nat → Int32) (u : Nat → Int32) (g : Nat → Nat → Int32) (a : Int32) (b : Int32) (hw : ∀ j : Nat, j < 16 → (f 14 j).toInt ≤ 80) : CT ε yX8_wire cX8_wire 3 (some .int) 1 23 0 0 [.ref (ad 0), .int a, .int b] (WD ε ad v f u g) (DT (some (.int (S_X8_wire v f a b))) (WD ε ad v f u g)) := by
  refine CT.of (own := RX8) (by decide) rfl (Nat.le_of_ble_eq_true rfl) (fun κ C hQ => ?_)
  refine j_aload_n (i := 0) C dX8_wire_0 rfl 0 rfl ?_
  refine g_0_device C dX8_wire_1 lf_X8_21 ?_
  refine g_3_line C dX8_wire_4 lf_X8_130 ?_
  refine j_iload_n (i := 1) C dX8_wire_7 rfl 1 rfl ?_
  refine j_iload_n (i := 2) C dX8_wire_8 rfl 2 rfl ?_
  refine c_V (As := [.int a, .int b]) (rest := []) (st1 := [.int (S_X7_byteOf v f a b)]) C (c_X7_byteOf ε ad v f u g a b  hw) mv_X7_byteOf lm_X8_134 dX8_wire_9 12 wl_12 rfl rfl rfl (by decide) (Nat.le_of_ble_eq_true rfl) rfl ?_
  have hs : S_X8_wire v f a b = (S_X7_byteOf v f a b) := by unfold S_X8_wire; rfl
  exact j_iret C hQ rfl dX8_wire_12 (dt_i hs)

def S_X8_disk (v : Nat → Int32) (f : Nat → Nat → Int32) (a : Int32) (b : Int32) : Int32 :=
  if (S_X8_isSector v f a) = 0 then (-2)
  else if b < 0 then (-2)
    else if b < 64 then (S_X2_at v f ((64 * a) + b))
      else (-2)
set_option maxHeartbeats 1000000 in
set_option maxRecDepth 100000 in
theorem c_X8_disk (ε : ET) (ad : Nat → Nat) (v : Nat → Int32) (f : Nat → Nat → Int32) (u : Nat → Int32) (g : Nat → Nat → Int32) (a : Int32) (b : Int32)  : CT ε yX8_disk cX8_disk 3 (some .int) 1 21 0 0 [.ref (ad 0), .int a, .int b] (WD ε ad v f u g) (DT (some (.int (S_X8_disk v f a b))) (WD ε ad v f u g)) := by
  refine CT.of (own := RX8) (by decide) rfl (Nat.le_of_ble_eq_true rfl) (fun κ C hQ => ?_)
  refine j_iload_n (i := 1) C dX8_disk_0 rfl 1 rfl ?_
  refine c_S (As := [.int a]) (rest := []) (st1 := [.int (S_X8_isSector v f a)]) C (c_X8_isSector ε ad v f u g a  ) mt_X8_isSector lm_X8_104 dX8_disk_1 rfl rfl (by decide) (Nat.le_of_ble_eq_true rfl) rfl ?_
  refine j_if_eq (tgt := 17) C dX8_disk_4 (by decide) (fun c_1 => ?_) (fun c_1 => ?_)
  · refine j_bipush (x := (-2)) C dX8_disk_17 (by decide) ?_
    have hs : S_X8_disk v f a b = (-2) := by unfold S_X8_disk; rw [if_pos c_1]
    exact j_iret C hQ rfl dX8_disk_19 (dt_i hs)
  · refine j_iload_n (i := 2) C dX8_disk_7 rfl 2 rfl ?_
    refine j_if_lt (tgt := 17) C dX8_disk_8 (by decide) (fun c_2 => ?_) (fun c_2 => ?_)
    · refine j_bipush (x := (-2)) C dX8_disk_17 (by decide) ?_
      have hs : S_X8_disk v f a b = (-2) := by unfold S_X8_disk; rw [if_neg c_1, if_pos c_2]
      exact j_iret C hQ rfl dX8_disk_19 (dt_i hs)
    · refine j_iload_n (i := 2) C dX8_disk_11 rfl 2 rfl ?_
      refine j_bipush (x := 64) C dX8_disk_12 (by decide) ?_
      refine j_icmp_lt (tgt := 20) C dX8_disk_14 (by decide) (fun c_3 => ?_) (fun c_3 => ?_)
      · refine j_aload_n (i := 0) C dX8_disk_20 rfl 0 rfl ?_
        refine g_0_device C dX8_disk_21 lf_X8_21 ?_
        refine g_3_sectors C dX8_disk_24 lf_X8_140 ?_
        refine j_bipush (x := 64) C dX8_disk_27 (by decide) ?_
        refine j_iload_n (i := 1) C dX8_disk_29 rfl 1 rfl ?_
        refine j_imul C dX8_disk_30 ?_
        refine j_iload_n (i := 2) C dX8_disk_31 rfl 2 rfl ?_
        refine j_iadd C dX8_disk_32 ?_
        refine c_V (As := [.int ((64 * a) + b)]) (rest := []) (st1 := [.int (S_X2_at v f ((64 * a) + b))]) C (c_X2_at ε ad v f u g ((64 * a) + b)  ) mv_X2_at lm_X8_144 dX8_disk_33 10 wl_10 rfl rfl rfl (by decide) (Nat.le_of_ble_eq_true rfl) rfl ?_
        have hs : S_X8_disk v f a b = (S_X2_at v f ((64 * a) + b)) := by unfold S_X8_disk; rw [if_neg c_1, if_neg c_2, if_pos c_3]
        exact j_iret C hQ rfl dX8_disk_36 (dt_i hs)
      · refine j_bipush (x := (-2)) C dX8_disk_17 (by decide) ?_
        have hs : S_X8_disk v f a b = (-2) := by unfold S_X8_disk; rw [if_neg c_1, if_neg c_2, if_neg c_3]
        exact j_iret C hQ rfl dX8_disk_19 (dt_i hs)

def S_X8_told (v : Nat → Int32) (f : Nat → Nat → Int32) (a : Int32) (b : Int32) : Int32 :=
  if (S_X8_isQueue v f a) = 0 then (-2)
  else if a = 0 then if b = 0 then if (v 4) = 0 then 0
        else 1
      else if b = 1 then (v 9)
        else if b = 2 then (v 10)
          else if b = 3 then (v 11)
            else if b = 4 then (v 5)
              else if b = 5 then (S_X4_freeOnes_16 v f)
                else if b = 6 then (v 43)
                  else (-2)
    else if a = 1 then if b = 0 then if (v 12) = 0 then 0
          else 1
        else if b = 1 then (v 17)
          else if b = 2 then (v 18)
            else if b = 3 then (v 19)
              else if b = 4 then (v 13)
                else if b = 5 then (S_X4_freeOnes_18 v f)
                  else if b = 6 then (v 47)
                    else (-2)
      else if b = 0 then if (v 20) = 0 then 0
          else 1
        else if b = 1 then (v 25)
          else if b = 2 then (v 26)
            else if b = 3 then (v 27)
              else if b = 4 then (v 21)
                else if b = 5 then (S_X4_freeOnes_20 v f)
                  else if b = 6 then (v 51)
                    else (-2)
set_option maxHeartbeats 1000000 in
set_option maxRecDepth 100000 in
theorem c_X8_told (ε : ET) (ad : Nat → Nat) (v : Nat → Int32) (f : Nat → Nat → Int32) (u : Nat → Int32) (g : Nat → Nat → Int32) (a : Int32) (b : Int32)  : CT ε yX8_told cX8_told 5 (some .int) 2 40 0 0 [.ref (ad 0), .int a, .int b] (WD ε ad v f u g) (DT (some (.int (S_X8_told v f a b))) (WD ε ad v f u g)) := by
  refine CT.of (own := RX8) (by decide) rfl (Nat.le_of_ble_eq_true rfl) (fun κ C hQ => ?_)
  refine j_iload_n (i := 1) C dX8_told_0 rfl 1 rfl ?_
  refine c_S (As := [.int a]) (rest := []) (st1 := [.int (S_X8_isQueue v f a)]) C (c_X8_isQueue ε ad v f u g a  ) mt_X8_isQueue lm_X8_69 dX8_told_1 rfl rfl (by decide) (Nat.le_of_ble_eq_true rfl) rfl ?_
  refine j_if_ne (tgt := 10) C dX8_told_4 (by decide) (fun c_1 => ?_) (fun c_1 => ?_)
  · refine j_aload_n (i := 0) C dX8_told_10 rfl 0 rfl ?_
    refine g_0_device C dX8_told_11 lf_X8_21 ?_
    refine j_iload_n (i := 1) C dX8_told_14 rfl 1 rfl ?_
    by_cases c_2 : a = 0
    · refine j_to (lv2 := [(0, .ref (ad 0)), (1, .int 0), (2, .int b)]) (st' := [.int 0, .ref (ad 3)]) rfl (by first | rfl | (rw [c_2]; rfl)) (by first | rfl | (rw [c_2]; rfl) | rw [c_2]) ?_
      refine c_V (As := [.int 0]) (rest := []) (st1 := [.ref (ad 4)]) C (c_X1_ringOf_0 ε ad v f u g   ) mv_X1_ringOf lm_X8_39 dX8_told_15 3 wl_3 rfl rfl rfl (by decide) (Nat.le_of_ble_eq_true rfl) rfl ?_
      refine j_astore_n (i := 3) (lv' := [(3, .ref (ad 4)), (0, .ref (ad 0)), (1, .int 0), (2, .int b)]) C dX8_told_18 rfl (by decide) rfl ?_
      refine j_aload_n (i := 0) C dX8_told_19 rfl 1 rfl ?_
      refine g_0_driver C dX8_told_20 lf_X8_28 ?_
      refine j_iload_n (i := 1) C dX8_told_23 rfl 2 rfl ?_
      refine c_V (As := [.int 0]) (rest := []) (st1 := [.ref (ad 16)]) C (c_X3_loansOf_0 ε ad v f u g   ) mv_X3_loansOf lm_X8_121 dX8_told_24 15 wl_15 rfl rfl rfl (by decide) (Nat.le_of_ble_eq_true rfl) rfl ?_
      refine j_astore (i := 4) (lv' := [(4, .ref (ad 16)), (3, .ref (ad 4)), (0, .ref (ad 0)), (1, .int 0), (2, .int b)]) C dX8_told_27 (by decide) rfl ?_
      refine j_iload_n (i := 2) C dX8_told_29 rfl 4 rfl ?_
      by_cases c_3 : b = 0
      · refine j_tswIn (kv := 0) (off := 42) (tgt := 72) C dX8_told_30 c_3 (by decide) (by decide) (by decide) (by decide) ?_
        refine j_aload_n (i := 3) C dX8_told_72 rfl 1 rfl ?_
        refine g_4_laid (x := (v 4)) C dX8_told_73 lf_X8_73 rfl ?_
        refine j_if_eq (tgt := 83) C dX8_told_76 (by decide) (fun c_4 => ?_) (fun c_4 => ?_)
        · refine j_iconst (x := 0) C dX8_told_83 (by decide) ?_
          have hs : S_X8_told v f a b = 0 := by unfold S_X8_told; rw [if_neg c_1, if_pos c_2, if_pos c_3, if_pos c_4]
          exact j_iret C hQ rfl dX8_told_84 (dt_i hs)
        · refine j_iconst (x := 1) C dX8_told_79 (by decide) ?_
          refine j_goto (tgt := 84) C dX8_told_80 (by decide) ?_
          have hs : S_X8_told v f a b = 1 := by unfold S_X8_told; rw [if_neg c_1, if_pos c_2, if_pos c_3, if_neg c_4]
          exact j_iret C hQ rfl dX8_told_84 (dt_i hs)
      · by_cases c_5 : b = 1
        · refine j_tswIn (kv := 1) (off := 55) (tgt := 85) C dX8_told_30 c_5 (by decide) (by decide) (by decide) (by decide) ?_
          refine j_aload_n (i := 3) C dX8_told_85 rfl 1 rfl ?_
          refine g_4_taken (x := (v 9)) C dX8_told_86 lf_X8_147 rfl ?_
          have hs : S_X8_told v f a b = (v 9) := by unfold S_X8_told; rw [if_neg c_1, if_pos c_2, if_neg c_3, if_pos c_5]
          exact j_iret C hQ rfl dX8_told_89 (dt_i hs)
        · by_cases c_6 : b = 2
          · refine j_tswIn (kv := 2) (off := 60) (tgt := 90) C dX8_told_30 c_6 (by decide) (by decide) (by decide) (by decide) ?_
            refine j_aload_n (i := 3) C dX8_told_90 rfl 1 rfl ?_
            refine g_4_given (x := (v 10)) C dX8_told_91 lf_X8_150 rfl ?_
            have hs : S_X8_told v f a b = (v 10) := by unfold S_X8_told; rw [if_neg c_1, if_pos c_2, if_neg c_3, if_neg c_5, if_pos c_6]
            exact j_iret C hQ rfl dX8_told_94 (dt_i hs)
          · by_cases c_7 : b = 3
            · refine j_tswIn (kv := 3) (off := 65) (tgt := 95) C dX8_told_30 c_7 (by decide) (by decide) (by decide) (by decide) ?_
              refine j_aload_n (i := 3) C dX8_told_95 rfl 1 rfl ?_
              refine g_4_signals (x := (v 11)) C dX8_told_96 lf_X8_153 rfl ?_
              have hs : S_X8_told v f a b = (v 11) := by unfold S_X8_told; rw [if_neg c_1, if_pos c_2, if_neg c_3, if_neg c_5, if_neg c_6, if_pos c_7]
              exact j_iret C hQ rfl dX8_told_99 (dt_i hs)
            · by_cases c_8 : b = 4
              · refine j_tswIn (kv := 4) (off := 70) (tgt := 100) C dX8_told_30 c_8 (by decide) (by decide) (by decide) (by decide) ?_
                refine j_aload_n (i := 3) C dX8_told_100 rfl 1 rfl ?_
                refine g_4_size (x := (v 5)) C dX8_told_101 lf_X8_156 rfl ?_
                have hs : S_X8_told v f a b = (v 5) := by unfold S_X8_told; rw [if_neg c_1, if_pos c_2, if_neg c_3, if_neg c_5, if_neg c_6, if_neg c_7, if_pos c_8]
                exact j_iret C hQ rfl dX8_told_104 (dt_i hs)
              · by_cases c_9 : b = 5
                · refine j_tswIn (kv := 5) (off := 75) (tgt := 105) C dX8_told_30 c_9 (by decide) (by decide) (by decide) (by decide) ?_
                  refine j_aload (i := 4) C dX8_told_105 0 rfl ?_
                  refine c_V (As := []) (rest := []) (st1 := [.int (S_X4_freeOnes_16 v f)]) C (c_X4_freeOnes_16 ε ad v f u g   ) mv_X4_freeOnes lm_X8_159 dX8_told_107 16 wl_16 rfl rfl rfl (by decide) (Nat.le_of_ble_eq_true rfl) rfl ?_
                  have hs : S_X8_told v f a b = (S_X4_freeOnes_16 v f) := by unfold S_X8_told; rw [if_neg c_1, if_pos c_2, if_neg c_3, if_neg c_5, if_neg c_6, if_neg c_7, if_neg c_8, if_pos c_9]
                  exact j_iret C hQ rfl dX8_told_110 (dt_i hs)
                · by_cases c_10 : b = 6
                  · refine j_tswIn (kv := 6) (off := 81) (tgt := 111) C dX8_told_30 c_10 (by decide) (by decide) (by decide) (by decide) ?_
                    refine j_aload (i := 4) C dX8_told_111 0 rfl ?_
                    refine g_16_saw (x := (v 43)) C dX8_told_113 lf_X8_162 rfl ?_
                    have hs : S_X8_told v f a b = (v 43) := by unfold S_X8_told; rw [if_neg c_1, if_pos c_2, if_neg c_3, if_neg c_5, if_neg c_6, if_neg c_7, if_neg c_8, if_neg c_9, if_pos c_10]
                    exact j_iret C hQ rfl dX8_told_116 (dt_i hs)
                  · refine j_tswOut (tgt := 117) C dX8_told_30 (tsw_out (hi := 6) (by decide) (fun j hj => by match j, hj with | 0, _ => exact c_3 | 1, _ => exact c_5 | 2, _ => exact c_6 | 3, _ => exact c_7 | 4, _ => exact c_8 | 5, _ => exact c_9 | 6, _ => exact c_10 | j + 7, hj => omega)) (by decide) ?_
                    refine j_bipush (x := (-2)) C dX8_told_117 (by decide) ?_
                    have hs : S_X8_told v f a b = (-2) := by unfold S_X8_told; rw [if_neg c_1, if_pos c_2, if_neg c_3, if_neg c_5, if_neg c_6, if_neg c_7, if_neg c_8, if_neg c_9, if_neg c_10]
                    exact j_iret C hQ rfl dX8_told_119 (dt_i hs)
    · by_cases c_11 : a = 1
      · refine j_to (lv2 := [(0, .ref (ad 0)), (1, .int 1), (2, .int b)]) (st' := [.int 1, .ref (ad 3)]) rfl (by first | rfl | (rw [c_11]; rfl)) (by first | rfl | (rw [c_11]; rfl) | rw [c_11]) ?_
        refine c_V (As := [.int 1]) (rest := []) (st1 := [.ref (ad 5)]) C (c_X1_ringOf_1 ε ad v f u g   ) mv_X1_ringOf lm_X8_39 dX8_told_15 3 wl_3 rfl rfl rfl (by decide) (Nat.le_of_ble_eq_true rfl) rfl ?_
        refine j_astore_n (i := 3) (lv' := [(3, .ref (ad 5)), (0, .ref (ad 0)), (1, .int 1), (2, .int b)]) C dX8_told_18 rfl (by decide) rfl ?_
        refine j_aload_n (i := 0) C dX8_told_19 rfl 1 rfl ?_
        refine g_0_driver C dX8_told_20 lf_X8_28 ?_
        refine j_iload_n (i := 1) C dX8_told_23 rfl 2 rfl ?_
        refine c_V (As := [.int 1]) (rest := []) (st1 := [.ref (ad 18)]) C (c_X3_loansOf_1 ε ad v f u g   ) mv_X3_loansOf lm_X8_121 dX8_told_24 15 wl_15 rfl rfl rfl (by decide) (Nat.le_of_ble_eq_true rfl) rfl ?_
        refine j_astore (i := 4) (lv' := [(4, .ref (ad 18)), (3, .ref (ad 5)), (0, .ref (ad 0)), (1, .int 1), (2, .int b)]) C dX8_told_27 (by decide) rfl ?_
        refine j_iload_n (i := 2) C dX8_told_29 rfl 4 rfl ?_
        by_cases c_12 : b = 0
        · refine j_tswIn (kv := 0) (off := 42) (tgt := 72) C dX8_told_30 c_12 (by decide) (by decide) (by decide) (by decide) ?_
          refine j_aload_n (i := 3) C dX8_told_72 rfl 1 rfl ?_
          refine g_5_laid (x := (v 12)) C dX8_told_73 lf_X8_73 rfl ?_
          refine j_if_eq (tgt := 83) C dX8_told_76 (by decide) (fun c_13 => ?_) (fun c_13 => ?_)
          · refine j_iconst (x := 0) C dX8_told_83 (by decide) ?_
            have hs : S_X8_told v f a b = 0 := by unfold S_X8_told; rw [if_neg c_1, if_neg c_2, if_pos c_11, if_pos c_12, if_pos c_13]
            exact j_iret C hQ rfl dX8_told_84 (dt_i hs)
          · refine j_iconst (x := 1) C dX8_told_79 (by decide) ?_
            refine j_goto (tgt := 84) C dX8_told_80 (by decide) ?_
            have hs : S_X8_told v f a b = 1 := by unfold S_X8_told; rw [if_neg c_1, if_neg c_2, if_pos c_11, if_pos c_12, if_neg c_13]
            exact j_iret C hQ rfl dX8_told_84 (dt_i hs)
        · by_cases c_14 : b = 1
          · refine j_tswIn (kv := 1) (off := 55) (tgt := 85) C dX8_told_30 c_14 (by decide) (by decide) (by decide) (by decide) ?_
            refine j_aload_n (i := 3) C dX8_told_85 rfl 1 rfl ?_
            refine g_5_taken (x := (v 17)) C dX8_told_86 lf_X8_147 rfl ?_
            have hs : S_X8_told v f a b = (v 17) := by unfold S_X8_told; rw [if_neg c_1, if_neg c_2, if_pos c_11, if_neg c_12, if_pos c_14]
            exact j_iret C hQ rfl dX8_told_89 (dt_i hs)
          · by_cases c_15 : b = 2
            · refine j_tswIn (kv := 2) (off := 60) (tgt := 90) C dX8_told_30 c_15 (by decide) (by decide) (by decide) (by decide) ?_
              refine j_aload_n (i := 3) C dX8_told_90 rfl 1 rfl ?_
              refine g_5_given (x := (v 18)) C dX8_told_91 lf_X8_150 rfl ?_
              have hs : S_X8_told v f a b = (v 18) := by unfold S_X8_told; rw [if_neg c_1, if_neg c_2, if_pos c_11, if_neg c_12, if_neg c_14, if_pos c_15]
              exact j_iret C hQ rfl dX8_told_94 (dt_i hs)
            · by_cases c_16 : b = 3
              · refine j_tswIn (kv := 3) (off := 65) (tgt := 95) C dX8_told_30 c_16 (by decide) (by decide) (by decide) (by decide) ?_
                refine j_aload_n (i := 3) C dX8_told_95 rfl 1 rfl ?_
                refine g_5_signals (x := (v 19)) C dX8_told_96 lf_X8_153 rfl ?_
                have hs : S_X8_told v f a b = (v 19) := by unfold S_X8_told; rw [if_neg c_1, if_neg c_2, if_pos c_11, if_neg c_12, if_neg c_14, if_neg c_15, if_pos c_16]
                exact j_iret C hQ rfl dX8_told_99 (dt_i hs)
              · by_cases c_17 : b = 4
                · refine j_tswIn (kv := 4) (off := 70) (tgt := 100) C dX8_told_30 c_17 (by decide) (by decide) (by decide) (by decide) ?_
                  refine j_aload_n (i := 3) C dX8_told_100 rfl 1 rfl ?_
                  refine g_5_size (x := (v 13)) C dX8_told_101 lf_X8_156 rfl ?_
                  have hs : S_X8_told v f a b = (v 13) := by unfold S_X8_told; rw [if_neg c_1, if_neg c_2, if_pos c_11, if_neg c_12, if_neg c_14, if_neg c_15, if_neg c_16, if_pos c_17]
                  exact j_iret C hQ rfl dX8_told_104 (dt_i hs)
                · by_cases c_18 : b = 5
                  · refine j_tswIn (kv := 5) (off := 75) (tgt := 105) C dX8_told_30 c_18 (by decide) (by decide) (by decide) (by decide) ?_
                    refine j_aload (i := 4) C dX8_told_105 0 rfl ?_
                    refine c_V (As := []) (rest := []) (st1 := [.int (S_X4_freeOnes_18 v f)]) C (c_X4_freeOnes_18 ε ad v f u g   ) mv_X4_freeOnes lm_X8_159 dX8_told_107 18 wl_18 rfl rfl rfl (by decide) (Nat.le_of_ble_eq_true rfl) rfl ?_
                    have hs : S_X8_told v f a b = (S_X4_freeOnes_18 v f) := by unfold S_X8_told; rw [if_neg c_1, if_neg c_2, if_pos c_11, if_neg c_12, if_neg c_14, if_neg c_15, if_neg c_16, if_neg c_17, if_pos c_18]
                    exact j_iret C hQ rfl dX8_told_110 (dt_i hs)
                  · by_cases c_19 : b = 6
                    · refine j_tswIn (kv := 6) (off := 81) (tgt := 111) C dX8_told_30 c_19 (by decide) (by decide) (by decide) (by decide) ?_
                      refine j_aload (i := 4) C dX8_told_111 0 rfl ?_
                      refine g_18_saw (x := (v 47)) C dX8_told_113 lf_X8_162 rfl ?_
                      have hs : S_X8_told v f a b = (v 47) := by unfold S_X8_told; rw [if_neg c_1, if_neg c_2, if_pos c_11, if_neg c_12, if_neg c_14, if_neg c_15, if_neg c_16, if_neg c_17, if_neg c_18, if_pos c_19]
                      exact j_iret C hQ rfl dX8_told_116 (dt_i hs)
                    · refine j_tswOut (tgt := 117) C dX8_told_30 (tsw_out (hi := 6) (by decide) (fun j hj => by match j, hj with | 0, _ => exact c_12 | 1, _ => exact c_14 | 2, _ => exact c_15 | 3, _ => exact c_16 | 4, _ => exact c_17 | 5, _ => exact c_18 | 6, _ => exact c_19 | j + 7, hj => omega)) (by decide) ?_
                      refine j_bipush (x := (-2)) C dX8_told_117 (by decide) ?_
                      have hs : S_X8_told v f a b = (-2) := by unfold S_X8_told; rw [if_neg c_1, if_neg c_2, if_pos c_11, if_neg c_12, if_neg c_14, if_neg c_15, if_neg c_16, if_neg c_17, if_neg c_18, if_neg c_19]
                      exact j_iret C hQ rfl dX8_told_119 (dt_i hs)
      · have c_20 : a = 2 := isq2 c_1 c_2 c_11
        refine j_to (lv2 := [(0, .ref (ad 0)), (1, .int 2), (2, .int b)]) (st' := [.int 2, .ref (ad 3)]) rfl (by first | rfl | (rw [c_20]; rfl)) (by first | rfl | (rw [c_20]; rfl) | rw [c_20]) ?_
        refine c_V (As := [.int 2]) (rest := []) (st1 := [.ref (ad 6)]) C (c_X1_ringOf_2 ε ad v f u g   ) mv_X1_ringOf lm_X8_39 dX8_told_15 3 wl_3 rfl rfl rfl (by decide) (Nat.le_of_ble_eq_true rfl) rfl ?_
        refine j_astore_n (i := 3) (lv' := [(3, .ref (ad 6)), (0, .ref (ad 0)), (1, .int 2), (2, .int b)]) C dX8_told_18 rfl (by decide) rfl ?_
        refine j_aload_n (i := 0) C dX8_told_19 rfl 1 rfl ?_
        refine g_0_driver C dX8_told_20 lf_X8_28 ?_
        refine j_iload_n (i := 1) C dX8_told_23 rfl 2 rfl ?_
        refine c_V (As := [.int 2]) (rest := []) (st1 := [.ref (ad 20)]) C (c_X3_loansOf_2 ε ad v f u g   ) mv_X3_loansOf lm_X8_121 dX8_told_24 15 wl_15 rfl rfl rfl (by decide) (Nat.le_of_ble_eq_true rfl) rfl ?_
        refine j_astore (i := 4) (lv' := [(4, .ref (ad 20)), (3, .ref (ad 6)), (0, .ref (ad 0)), (1, .int 2), (2, .int b)]) C dX8_told_27 (by decide) rfl ?_
        refine j_iload_n (i := 2) C dX8_told_29 rfl 4 rfl ?_
        by_cases c_21 : b = 0
        · refine j_tswIn (kv := 0) (off := 42) (tgt := 72) C dX8_told_30 c_21 (by decide) (by decide) (by decide) (by decide) ?_
          refine j_aload_n (i := 3) C dX8_told_72 rfl 1 rfl ?_
          refine g_6_laid (x := (v 20)) C dX8_told_73 lf_X8_73 rfl ?_
          refine j_if_eq (tgt := 83) C dX8_told_76 (by decide) (fun c_22 => ?_) (fun c_22 => ?_)
          · refine j_iconst (x := 0) C dX8_told_83 (by decide) ?_
            have hs : S_X8_told v f a b = 0 := by unfold S_X8_told; rw [if_neg c_1, if_neg c_2, if_neg c_11, if_pos c_21, if_pos c_22]
            exact j_iret C hQ rfl dX8_told_84 (dt_i hs)
          · refine j_iconst (x := 1) C dX8_told_79 (by decide) ?_
            refine j_goto (tgt := 84) C dX8_told_80 (by decide) ?_
            have hs : S_X8_told v f a b = 1 := by unfold S_X8_told; rw [if_neg c_1, if_neg c_2, if_neg c_11, if_pos c_21, if_neg c_22]
            exact j_iret C hQ rfl dX8_told_84 (dt_i hs)
        · by_cases c_23 : b = 1
          · refine j_tswIn (kv := 1) (off := 55) (tgt := 85) C dX8_told_30 c_23 (by decide) (by decide) (by decide) (by decide) ?_
            refine j_aload_n (i := 3) C dX8_told_85 rfl 1 rfl ?_
            refine g_6_taken (x := (v 25)) C dX8_told_86 lf_X8_147 rfl ?_
            have hs : S_X8_told v f a b = (v 25) := by unfold S_X8_told; rw [if_neg c_1, if_neg c_2, if_neg c_11, if_neg c_21, if_pos c_23]
            exact j_iret C hQ rfl dX8_told_89 (dt_i hs)
          · by_cases c_24 : b = 2
            · refine j_tswIn (kv := 2) (off := 60) (tgt := 90) C dX8_told_30 c_24 (by decide) (by decide) (by decide) (by decide) ?_
              refine j_aload_n (i := 3) C dX8_told_90 rfl 1 rfl ?_
              refine g_6_given (x := (v 26)) C dX8_told_91 lf_X8_150 rfl ?_
              have hs : S_X8_told v f a b = (v 26) := by unfold S_X8_told; rw [if_neg c_1, if_neg c_2, if_neg c_11, if_neg c_21, if_neg c_23, if_pos c_24]
              exact j_iret C hQ rfl dX8_told_94 (dt_i hs)
            · by_cases c_25 : b = 3
              · refine j_tswIn (kv := 3) (off := 65) (tgt := 95) C dX8_told_30 c_25 (by decide) (by decide) (by decide) (by decide) ?_
                refine j_aload_n (i := 3) C dX8_told_95 rfl 1 rfl ?_
                refine g_6_signals (x := (v 27)) C dX8_told_96 lf_X8_153 rfl ?_
                have hs : S_X8_told v f a b = (v 27) := by unfold S_X8_told; rw [if_neg c_1, if_neg c_2, if_neg c_11, if_neg c_21, if_neg c_23, if_neg c_24, if_pos c_25]
                exact j_iret C hQ rfl dX8_told_99 (dt_i hs)
              · by_cases c_26 : b = 4
                · refine j_tswIn (kv := 4) (off := 70) (tgt := 100) C dX8_told_30 c_26 (by decide) (by decide) (by decide) (by decide) ?_
                  refine j_aload_n (i := 3) C dX8_told_100 rfl 1 rfl ?_
                  refine g_6_size (x := (v 21)) C dX8_told_101 lf_X8_156 rfl ?_
                  have hs : S_X8_told v f a b = (v 21) := by unfold S_X8_told; rw [if_neg c_1, if_neg c_2, if_neg c_11, if_neg c_21, if_neg c_23, if_neg c_24, if_neg c_25, if_pos c_26]
                  exact j_iret C hQ rfl dX8_told_104 (dt_i hs)
                · by_cases c_27 : b = 5
                  · refine j_tswIn (kv := 5) (off := 75) (tgt := 105) C dX8_told_30 c_27 (by decide) (by decide) (by decide) (by decide) ?_
                    refine j_aload (i := 4) C dX8_told_105 0 rfl ?_
                    refine c_V (As := []) (rest := []) (st1 := [.int (S_X4_freeOnes_20 v f)]) C (c_X4_freeOnes_20 ε ad v f u g   ) mv_X4_freeOnes lm_X8_159 dX8_told_107 20 wl_20 rfl rfl rfl (by decide) (Nat.le_of_ble_eq_true rfl) rfl ?_
                    have hs : S_X8_told v f a b = (S_X4_freeOnes_20 v f) := by unfold S_X8_told; rw [if_neg c_1, if_neg c_2, if_neg c_11, if_neg c_21, if_neg c_23, if_neg c_24, if_neg c_25, if_neg c_26, if_pos c_27]
                    exact j_iret C hQ rfl dX8_told_110 (dt_i hs)
                  · by_cases c_28 : b = 6
                    · refine j_tswIn (kv := 6) (off := 81) (tgt := 111) C dX8_told_30 c_28 (by decide) (by decide) (by decide) (by decide) ?_
                      refine j_aload (i := 4) C dX8_told_111 0 rfl ?_
                      refine g_20_saw (x := (v 51)) C dX8_told_113 lf_X8_162 rfl ?_
                      have hs : S_X8_told v f a b = (v 51) := by unfold S_X8_told; rw [if_neg c_1, if_neg c_2, if_neg c_11, if_neg c_21, if_neg c_23, if_neg c_24, if_neg c_25, if_neg c_26, if_neg c_27, if_pos c_28]
                      exact j_iret C hQ rfl dX8_told_116 (dt_i hs)
                    · refine j_tswOut (tgt := 117) C dX8_told_30 (tsw_out (hi := 6) (by decide) (fun j hj => by match j, hj with | 0, _ => exact c_21 | 1, _ => exact c_23 | 2, _ => exact c_24 | 3, _ => exact c_25 | 4, _ => exact c_26 | 5, _ => exact c_27 | 6, _ => exact c_28 | j + 7, hj => omega)) (by decide) ?_
                      refine j_bipush (x := (-2)) C dX8_told_117 (by decide) ?_
                      have hs : S_X8_told v f a b = (-2) := by unfold S_X8_told; rw [if_neg c_1, if_neg c_2, if_neg c_11, if_neg c_21, if_neg c_23, if_neg c_24, if_neg c_25, if_neg c_26, if_neg c_27, if_neg c_28]
                      exact j_iret C hQ rfl dX8_told_119 (dt_i hs)
  · refine j_bipush (x := (-2)) C dX8_told_7 (by decide) ?_
    have hs : S_X8_told v f a b = (-2) := by unfold S_X8_told; rw [if_pos c_1]
    exact j_iret C hQ rfl dX8_told_9 (dt_i hs)

def S_X8_count (v : Nat → Int32) (f : Nat → Nat → Int32) (a : Int32) : Int32 :=
  if a = 0 then (v 0)
  else if a = 1 then (v 38)
    else if a = 2 then (v 2)
      else if a = 3 then (v 3)
        else if a = 4 then if (v 1) = 0 then 0
            else 1
          else (-2)
set_option maxHeartbeats 1000000 in
set_option maxRecDepth 100000 in
theorem c_X8_count (ε : ET) (ad : Nat → Nat) (v : Nat → Int32) (f : Nat → Nat → Int32) (u : Nat → Int32) (g : Nat → Nat → Int32) (a : Int32)  : CT ε yX8_count cX8_count 2 (some .int) 0 0 0 0 [.ref (ad 0), .int a] (WD ε ad v f u g) (DT (some (.int (S_X8_count v f a))) (WD ε ad v f u g)) := by
  refine CT.of (own := RX8) (by decide) rfl (Nat.le_of_ble_eq_true rfl) (fun κ C hQ => ?_)
  refine j_iload_n (i := 1) C dX8_count_0 rfl 1 rfl ?_
  by_cases c_1 : a = 0
  · refine j_tswIn (kv := 0) (off := 35) (tgt := 36) C dX8_count_1 c_1 (by decide) (by decide) (by decide) (by decide) ?_
    refine j_aload_n (i := 0) C dX8_count_36 rfl 0 rfl ?_
    refine g_0_device C dX8_count_37 lf_X8_21 ?_
    refine g_3_state (x := (v 0)) C dX8_count_40 lf_X8_59 rfl ?_
    have hs : S_X8_count v f a = (v 0) := by unfold S_X8_count; rw [if_pos c_1]
    exact j_iret C hQ rfl dX8_count_43 (dt_i hs)
  · by_cases c_2 : a = 1
    · refine j_tswIn (kv := 1) (off := 43) (tgt := 44) C dX8_count_1 c_2 (by decide) (by decide) (by decide) (by decide) ?_
      refine j_aload_n (i := 0) C dX8_count_44 rfl 0 rfl ?_
      refine g_0_device C dX8_count_45 lf_X8_21 ?_
      refine g_3_line C dX8_count_48 lf_X8_130 ?_
      refine g_12_went (x := (v 38)) C dX8_count_51 lf_X8_165 rfl ?_
      have hs : S_X8_count v f a = (v 38) := by unfold S_X8_count; rw [if_neg c_1, if_pos c_2]
      exact j_iret C hQ rfl dX8_count_54 (dt_i hs)
    · by_cases c_3 : a = 2
      · refine j_tswIn (kv := 2) (off := 54) (tgt := 55) C dX8_count_1 c_3 (by decide) (by decide) (by decide) (by decide) ?_
        refine j_aload_n (i := 0) C dX8_count_55 rfl 0 rfl ?_
        refine g_0_device C dX8_count_56 lf_X8_21 ?_
        refine g_3_came (x := (v 2)) C dX8_count_59 lf_X8_168 rfl ?_
        have hs : S_X8_count v f a = (v 2) := by unfold S_X8_count; rw [if_neg c_1, if_neg c_2, if_pos c_3]
        exact j_iret C hQ rfl dX8_count_62 (dt_i hs)
      · by_cases c_4 : a = 3
        · refine j_tswIn (kv := 3) (off := 62) (tgt := 63) C dX8_count_1 c_4 (by decide) (by decide) (by decide) (by decide) ?_
          refine j_aload_n (i := 0) C dX8_count_63 rfl 0 rfl ?_
          refine g_0_device C dX8_count_64 lf_X8_21 ?_
          refine g_3_dropped (x := (v 3)) C dX8_count_67 lf_X8_171 rfl ?_
          have hs : S_X8_count v f a = (v 3) := by unfold S_X8_count; rw [if_neg c_1, if_neg c_2, if_neg c_3, if_pos c_4]
          exact j_iret C hQ rfl dX8_count_70 (dt_i hs)
        · by_cases c_5 : a = 4
          · refine j_tswIn (kv := 4) (off := 70) (tgt := 71) C dX8_count_1 c_5 (by decide) (by decide) (by decide) (by decide) ?_
            refine j_aload_n (i := 0) C dX8_count_71 rfl 0 rfl ?_
            refine g_0_device C dX8_count_72 lf_X8_21 ?_
            refine g_3_tables (x := (v 1)) C dX8_count_75 lf_X8_174 rfl ?_
            refine j_if_eq (tgt := 85) C dX8_count_78 (by decide) (fun c_6 => ?_) (fun c_6 => ?_)
            · refine j_iconst (x := 0) C dX8_count_85 (by decide) ?_
              have hs : S_X8_count v f a = 0 := by unfold S_X8_count; rw [if_neg c_1, if_neg c_2, if_neg c_3, if_neg c_4, if_pos c_5, if_pos c_6]
              exact j_iret C hQ rfl dX8_count_86 (dt_i hs)
            · refine j_iconst (x := 1) C dX8_count_81 (by decide) ?_
              refine j_goto (tgt := 86) C dX8_count_82 (by decide) ?_
              have hs : S_X8_count v f a = 1 := by unfold S_X8_count; rw [if_neg c_1, if_neg c_2, if_neg c_3, if_neg c_4, if_pos c_5, if_neg c_6]
              exact j_iret C hQ rfl dX8_count_86 (dt_i hs)
          · refine j_tswOut (tgt := 87) C dX8_count_1 (tsw_out (hi := 4) (by decide) (fun j hj => by match j, hj with | 0, _ => exact c_1 | 1, _ => exact c_2 | 2, _ => exact c_3 | 3, _ => exact c_4 | 4, _ => exact c_5 | j + 5, hj => omega)) (by decide) ?_
            refine j_bipush (x := (-2)) C dX8_count_87 (by decide) ?_
            have hs : S_X8_count v f a = (-2) := by unfold S_X8_count; rw [if_neg c_1, if_neg c_2, if_neg c_3, if_neg c_4, if_neg c_5]
            exact j_iret C hQ rfl dX8_count_89 (dt_i hs)

