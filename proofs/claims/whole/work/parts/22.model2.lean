theorem in2 {u : Nat → Int32} {g : Nat → Nat → Int32} {a : Int32} (h : ¬ (S_X9_isIn u g a 0 2) = 0) (h0 : ¬ a = 0) (h1 : ¬ a = 1) : a = 2 := by
  have hh := in_of h
  have e0 : (0 : Int32).toInt = 0 := rfl
  have e2 : (2 : Int32).toInt = 2 := rfl
  have n0 : a.toInt ≠ 0 := fun q => h0 (Int32.toInt_inj.mp (by rw [q]; rfl))
  have n1 : a.toInt ≠ 1 := fun q => h1 (Int32.toInt_inj.mp (by rw [q]; rfl))
  exact Int32.toInt_inj.mp (by omega)
theorem in_nI {u : Nat → Int32} {g : Nat → Nat → Int32} {a c : Int32} (h : ¬ (S_X9_isIn u g a 0 c) = 0) : ∃ j : Nat, a = nI j ∧ (j : Int) ≤ c.toInt := by
  have hh := in_of h
  have e0 : (0 : Int32).toInt = 0 := rfl
  obtain ⟨j, hj, e⟩ := nI_of (x := a) (by rw [Int32.lt_iff_toInt_lt]; omega)
  exact ⟨j, e, by rw [e, nI_toInt hj] at hh; omega⟩
theorem vp_disk {u : Nat → Int32} {g : Nat → Nat → Int32} {a b : Int32} (h1 : ¬ (S_X9_isIn u g a 0 31) = 0) (h2 : ¬ (S_X9_isIn u g b 0 63) = 0) : vp_in ((64 * a) + b) 2048 := by
  obtain ⟨i, rfl, hi⟩ := in_nI h1
  obtain ⟨j, rfl, hj⟩ := in_nI h2
  have e1 : (31 : Int32).toInt = 31 := rfl
  have e2 : (63 : Int32).toInt = 63 := rfl
  rw [show (64 : Int32) = nI 64 from rfl, pk_mul, nI_add]
  exact vp_in_nI (by omega) (by decide)
def S_X9_poke (u : Nat → Int32) (g : Nat → Nat → Int32) (a : Int32) (b : Int32) : Int32 × (Nat → Nat → Int32) :=
  if (S_X9_isIn u g a 0 4095) = 0 then ((-2), g)
  else if (S_X9_isIn u g b 0 255) = 0 then ((-2), g)
    else ((((g 23) (a).toNatClampNeg) &&& 255), (va_up g 23 (upd (g 23) (a).toNatClampNeg (vp_nar .byte ((b : Int32).toInt8.toInt32)))))
set_option maxHeartbeats 1000000 in
set_option maxRecDepth 100000 in
theorem c_X9_poke (ε : ET) (ad : Nat → Nat) (v : Nat → Int32) (f : Nat → Nat → Int32) (u : Nat → Int32) (g : Nat → Nat → Int32) (a : Int32) (b : Int32)  : CT ε yX9_poke cX9_poke 4 (some .int) 1 22 0 0 [.ref (ad 22), .int a, .int b] (WD ε ad v f u g) (DT (some (.int ((S_X9_poke u g a b).1))) (WD ε ad v f u ((S_X9_poke u g a b).2))) := by
  refine CT.of (own := RX9) (by decide) rfl (Nat.le_of_ble_eq_true rfl) (fun κ C hQ => ?_)
  refine j_iload_n (i := 1) C dX9_poke_0 rfl 1 rfl ?_
  refine j_iconst (x := 0) C dX9_poke_1 (by decide) ?_
  refine j_sipush (x := 4095) C dX9_poke_2 (by decide) ?_
  refine c_S (As := [.int a, .int 0, .int 4095]) (rest := []) (st1 := [.int (S_X9_isIn u g a 0 4095)]) C (c_X9_isIn ε ad v f u g a 0 4095  ) mt_X9_isIn lm_X9_7 dX9_poke_5 rfl rfl (by decide) (Nat.le_of_ble_eq_true rfl) rfl ?_
  refine j_if_eq (tgt := 22) C dX9_poke_8 (by decide) (fun c_1 => ?_) (fun c_1 => ?_)
  · refine j_bipush (x := (-2)) C dX9_poke_22 (by decide) ?_
    have hs : S_X9_poke u g a b = ((-2), g) := by unfold S_X9_poke; rw [if_pos c_1]
    exact j_iret C hQ rfl dX9_poke_24 (dt_ifM hs)
  · refine j_iload_n (i := 2) C dX9_poke_11 rfl 2 rfl ?_
    refine j_iconst (x := 0) C dX9_poke_12 (by decide) ?_
    refine j_sipush (x := 255) C dX9_poke_13 (by decide) ?_
    refine c_S (As := [.int b, .int 0, .int 255]) (rest := []) (st1 := [.int (S_X9_isIn u g b 0 255)]) C (c_X9_isIn ε ad v f u g b 0 255  ) mt_X9_isIn lm_X9_7 dX9_poke_16 rfl rfl (by decide) (Nat.le_of_ble_eq_true rfl) rfl ?_
    refine j_if_ne (tgt := 25) C dX9_poke_19 (by decide) (fun c_2 => ?_) (fun c_2 => ?_)
    · refine j_aload_n (i := 0) C dX9_poke_25 rfl 0 rfl ?_
      refine g_22_memory C dX9_poke_26 lf_X9_1 ?_
      refine j_iload_n (i := 1) C dX9_poke_29 rfl 1 rfl ?_
      refine al_23 (F := (g 23)) C dX9_poke_30 (in_vp c_1 rfl) rfl ?_
      refine j_sipush (x := 255) C dX9_poke_31 (by decide) ?_
      refine j_iand C dX9_poke_34 ?_
      refine j_istore_n (i := 3) (lv' := [(3, .int (((g 23) (a).toNatClampNeg) &&& 255)), (0, .ref (ad 22)), (1, .int a), (2, .int b)]) C dX9_poke_35 rfl (by decide) rfl ?_
      refine j_aload_n (i := 0) C dX9_poke_36 rfl 1 rfl ?_
      refine g_22_memory C dX9_poke_37 lf_X9_1 ?_
      refine j_iload_n (i := 1) C dX9_poke_40 rfl 2 rfl ?_
      refine j_iload_n (i := 2) C dX9_poke_41 rfl 3 rfl ?_
      refine j_i2b C dX9_poke_42 ?_
      refine as_23 (F2 := (g 23)) (F := (upd (g 23) (a).toNatClampNeg (vp_nar .byte ((b : Int32).toInt8.toInt32)))) C dX9_poke_43 (in_vp c_1 rfl) rfl rfl ?_
      refine j_iload_n (i := 3) C dX9_poke_44 rfl 0 rfl ?_
      have hs : S_X9_poke u g a b = ((((g 23) (a).toNatClampNeg) &&& 255), (va_up g 23 (upd (g 23) (a).toNatClampNeg (vp_nar .byte ((b : Int32).toInt8.toInt32))))) := by unfold S_X9_poke; rw [if_neg c_1, if_neg c_2]
      exact j_iret C hQ rfl dX9_poke_45 (dt_ifM hs)
    · refine j_bipush (x := (-2)) C dX9_poke_22 (by decide) ?_
      have hs : S_X9_poke u g a b = ((-2), g) := by unfold S_X9_poke; rw [if_neg c_1, if_pos c_2]
      exact j_iret C hQ rfl dX9_poke_24 (dt_ifM hs)

def S_X9_peek (u : Nat → Int32) (g : Nat → Nat → Int32) (a : Int32) : Int32 :=
  if (S_X9_isIn u g a 0 4095) = 0 then (-2)
  else (((g 23) (a).toNatClampNeg) &&& 255)
set_option maxHeartbeats 1000000 in
set_option maxRecDepth 100000 in
theorem c_X9_peek (ε : ET) (ad : Nat → Nat) (v : Nat → Int32) (f : Nat → Nat → Int32) (u : Nat → Int32) (g : Nat → Nat → Int32) (a : Int32)  : CT ε yX9_peek cX9_peek 2 (some .int) 1 22 0 0 [.ref (ad 22), .int a] (WD ε ad v f u g) (DT (some (.int (S_X9_peek u g a))) (WD ε ad v f u g)) := by
  refine CT.of (own := RX9) (by decide) rfl (Nat.le_of_ble_eq_true rfl) (fun κ C hQ => ?_)
  refine j_iload_n (i := 1) C dX9_peek_0 rfl 1 rfl ?_
  refine j_iconst (x := 0) C dX9_peek_1 (by decide) ?_
  refine j_sipush (x := 4095) C dX9_peek_2 (by decide) ?_
  refine c_S (As := [.int a, .int 0, .int 4095]) (rest := []) (st1 := [.int (S_X9_isIn u g a 0 4095)]) C (c_X9_isIn ε ad v f u g a 0 4095  ) mt_X9_isIn lm_X9_7 dX9_peek_5 rfl rfl (by decide) (Nat.le_of_ble_eq_true rfl) rfl ?_
  refine j_if_eq (tgt := 24) C dX9_peek_8 (by decide) (fun c_1 => ?_) (fun c_1 => ?_)
  · refine j_bipush (x := (-2)) C dX9_peek_24 (by decide) ?_
    have hs : S_X9_peek u g a = (-2) := by unfold S_X9_peek; rw [if_pos c_1]
    exact j_iret C hQ rfl dX9_peek_26 (dt_iM hs)
  · refine j_aload_n (i := 0) C dX9_peek_11 rfl 0 rfl ?_
    refine g_22_memory C dX9_peek_12 lf_X9_1 ?_
    refine j_iload_n (i := 1) C dX9_peek_15 rfl 1 rfl ?_
    refine al_23 (F := (g 23)) C dX9_peek_16 (in_vp c_1 rfl) rfl ?_
    refine j_sipush (x := 255) C dX9_peek_17 (by decide) ?_
    refine j_iand C dX9_peek_20 ?_
    refine j_goto (tgt := 26) C dX9_peek_21 (by decide) ?_
    have hs : S_X9_peek u g a = (((g 23) (a).toNatClampNeg) &&& 255) := by unfold S_X9_peek; rw [if_neg c_1]
    exact j_iret C hQ rfl dX9_peek_26 (dt_iM hs)

def S_X9_disk (u : Nat → Int32) (g : Nat → Nat → Int32) (a : Int32) (b : Int32) : Int32 :=
  if (S_X9_isIn u g a 0 31) = 0 then (-2)
  else if (S_X9_isIn u g b 0 63) = 0 then (-2)
    else (((g 24) (((64 * a) + b)).toNatClampNeg) &&& 255)
set_option maxHeartbeats 1000000 in
set_option maxRecDepth 100000 in
theorem c_X9_disk (ε : ET) (ad : Nat → Nat) (v : Nat → Int32) (f : Nat → Nat → Int32) (u : Nat → Int32) (g : Nat → Nat → Int32) (a : Int32) (b : Int32)  : CT ε yX9_disk cX9_disk 3 (some .int) 1 22 0 0 [.ref (ad 22), .int a, .int b] (WD ε ad v f u g) (DT (some (.int (S_X9_disk u g a b))) (WD ε ad v f u g)) := by
  refine CT.of (own := RX9) (by decide) rfl (Nat.le_of_ble_eq_true rfl) (fun κ C hQ => ?_)
  refine j_iload_n (i := 1) C dX9_disk_0 rfl 1 rfl ?_
  refine j_iconst (x := 0) C dX9_disk_1 (by decide) ?_
  refine j_bipush (x := 31) C dX9_disk_2 (by decide) ?_
  refine c_S (As := [.int a, .int 0, .int 31]) (rest := []) (st1 := [.int (S_X9_isIn u g a 0 31)]) C (c_X9_isIn ε ad v f u g a 0 31  ) mt_X9_isIn lm_X9_7 dX9_disk_4 rfl rfl (by decide) (Nat.le_of_ble_eq_true rfl) rfl ?_
  refine j_if_eq (tgt := 38) C dX9_disk_7 (by decide) (fun c_1 => ?_) (fun c_1 => ?_)
  · refine j_bipush (x := (-2)) C dX9_disk_38 (by decide) ?_
    have hs : S_X9_disk u g a b = (-2) := by unfold S_X9_disk; rw [if_pos c_1]
    exact j_iret C hQ rfl dX9_disk_40 (dt_iM hs)
  · refine j_iload_n (i := 2) C dX9_disk_10 rfl 2 rfl ?_
    refine j_iconst (x := 0) C dX9_disk_11 (by decide) ?_
    refine j_bipush (x := 63) C dX9_disk_12 (by decide) ?_
    refine c_S (As := [.int b, .int 0, .int 63]) (rest := []) (st1 := [.int (S_X9_isIn u g b 0 63)]) C (c_X9_isIn ε ad v f u g b 0 63  ) mt_X9_isIn lm_X9_7 dX9_disk_14 rfl rfl (by decide) (Nat.le_of_ble_eq_true rfl) rfl ?_
    refine j_if_eq (tgt := 38) C dX9_disk_17 (by decide) (fun c_2 => ?_) (fun c_2 => ?_)
    · refine j_bipush (x := (-2)) C dX9_disk_38 (by decide) ?_
      have hs : S_X9_disk u g a b = (-2) := by unfold S_X9_disk; rw [if_neg c_1, if_pos c_2]
      exact j_iret C hQ rfl dX9_disk_40 (dt_iM hs)
    · refine j_aload_n (i := 0) C dX9_disk_20 rfl 0 rfl ?_
      refine g_22_disk C dX9_disk_21 lf_X9_46 ?_
      refine j_bipush (x := 64) C dX9_disk_24 (by decide) ?_
      refine j_iload_n (i := 1) C dX9_disk_26 rfl 1 rfl ?_
      refine j_imul C dX9_disk_27 ?_
      refine j_iload_n (i := 2) C dX9_disk_28 rfl 2 rfl ?_
      refine j_iadd C dX9_disk_29 ?_
      refine al_24 (F := (g 24)) C dX9_disk_30 (vp_disk c_1 c_2) rfl ?_
      refine j_sipush (x := 255) C dX9_disk_31 (by decide) ?_
      refine j_iand C dX9_disk_34 ?_
      refine j_goto (tgt := 40) C dX9_disk_35 (by decide) ?_
      have hs : S_X9_disk u g a b = (((g 24) (((64 * a) + b)).toNatClampNeg) &&& 255) := by unfold S_X9_disk; rw [if_neg c_1, if_neg c_2]
      exact j_iret C hQ rfl dX9_disk_40 (dt_iM hs)

def S_X9_written (u : Nat → Int32) (g : Nat → Nat → Int32) (a : Int32) : Int32 :=
  if (S_X9_isIn u g a 0 2) = 0 then (-2)
  else if a = 0 then ((g 42) 0)
    else if a = 1 then ((g 42) 1)
      else ((g 42) 2)
set_option maxHeartbeats 1000000 in
set_option maxRecDepth 100000 in
theorem c_X9_written (ε : ET) (ad : Nat → Nat) (v : Nat → Int32) (f : Nat → Nat → Int32) (u : Nat → Int32) (g : Nat → Nat → Int32) (a : Int32)  : CT ε yX9_written cX9_written 2 (some .int) 1 22 0 0 [.ref (ad 22), .int a] (WD ε ad v f u g) (DT (some (.int (S_X9_written u g a))) (WD ε ad v f u g)) := by
  refine CT.of (own := RX9) (by decide) rfl (Nat.le_of_ble_eq_true rfl) (fun κ C hQ => ?_)
  refine j_iload_n (i := 1) C dX9_written_0 rfl 1 rfl ?_
  refine j_iconst (x := 0) C dX9_written_1 (by decide) ?_
  refine j_iconst (x := 2) C dX9_written_2 (by decide) ?_
  refine c_S (As := [.int a, .int 0, .int 2]) (rest := []) (st1 := [.int (S_X9_isIn u g a 0 2)]) C (c_X9_isIn ε ad v f u g a 0 2  ) mt_X9_isIn lm_X9_7 dX9_written_3 rfl rfl (by decide) (Nat.le_of_ble_eq_true rfl) rfl ?_
  refine j_if_eq (tgt := 18) C dX9_written_6 (by decide) (fun c_1 => ?_) (fun c_1 => ?_)
  · refine j_bipush (x := (-2)) C dX9_written_18 (by decide) ?_
    have hs : S_X9_written u g a = (-2) := by unfold S_X9_written; rw [if_pos c_1]
    exact j_iret C hQ rfl dX9_written_20 (dt_iM hs)
  · by_cases c_2 : a = 0
    · refine j_to (lv2 := [(0, .ref (ad 22)), (1, .int 0)]) (st' := []) rfl (by first | rfl | (rw [c_2]; rfl)) (by first | rfl | (rw [c_2]; rfl) | rw [c_2]) ?_
      refine j_aload_n (i := 0) C dX9_written_9 rfl 0 rfl ?_
      refine g_22_written C dX9_written_10 lf_X9_30 ?_
      refine j_iload_n (i := 1) C dX9_written_13 rfl 1 rfl ?_
      refine aln_42 (q := 0) (F := (g 42)) C dX9_written_14 (by omega) rfl rfl ?_
      refine j_goto (tgt := 20) C dX9_written_15 (by decide) ?_
      have hs : S_X9_written u g a = ((g 42) 0) := by unfold S_X9_written; rw [if_neg c_1, if_pos c_2]
      exact j_iret C hQ rfl dX9_written_20 (dt_iM hs)
    · by_cases c_3 : a = 1
      · refine j_to (lv2 := [(0, .ref (ad 22)), (1, .int 1)]) (st' := []) rfl (by first | rfl | (rw [c_3]; rfl)) (by first | rfl | (rw [c_3]; rfl) | rw [c_3]) ?_
        refine j_aload_n (i := 0) C dX9_written_9 rfl 0 rfl ?_
        refine g_22_written C dX9_written_10 lf_X9_30 ?_
        refine j_iload_n (i := 1) C dX9_written_13 rfl 1 rfl ?_
        refine aln_42 (q := 1) (F := (g 42)) C dX9_written_14 (by omega) rfl rfl ?_
        refine j_goto (tgt := 20) C dX9_written_15 (by decide) ?_
        have hs : S_X9_written u g a = ((g 42) 1) := by unfold S_X9_written; rw [if_neg c_1, if_neg c_2, if_pos c_3]
        exact j_iret C hQ rfl dX9_written_20 (dt_iM hs)
      · have c_4 : a = 2 := in2 c_1 c_2 c_3
        refine j_to (lv2 := [(0, .ref (ad 22)), (1, .int 2)]) (st' := []) rfl (by first | rfl | (rw [c_4]; rfl)) (by first | rfl | (rw [c_4]; rfl) | rw [c_4]) ?_
        refine j_aload_n (i := 0) C dX9_written_9 rfl 0 rfl ?_
        refine g_22_written C dX9_written_10 lf_X9_30 ?_
        refine j_iload_n (i := 1) C dX9_written_13 rfl 1 rfl ?_
        refine aln_42 (q := 2) (F := (g 42)) C dX9_written_14 (by omega) rfl rfl ?_
        refine j_goto (tgt := 20) C dX9_written_15 (by decide) ?_
        have hs : S_X9_written u g a = ((g 42) 2) := by unfold S_X9_written; rw [if_neg c_1, if_neg c_2, if_neg c_3]
        exact j_iret C hQ rfl dX9_written_20 (dt_iM hs)

def L_X9_clear (u : Nat → Int32) (g : Nat → Nat → Int32)  : Nat → (Nat → Nat → Int32)
  | 0 => (va_up (va_up (va_up (va_up (va_up (va_up (va_up (va_up (va_up (va_up (va_up (va_up (va_up (va_up (va_up (va_up (va_up (va_up (va_up (va_up (va_up g 25 (upd (g 25) 0 0)) 29 (upd ((va_up g 25 (upd (g 25) 0 0)) 29) 0 0)) 30 (upd ((va_up (va_up g 25 (upd (g 25) 0 0)) 29 (upd ((va_up g 25 (upd (g 25) 0 0)) 29) 0 0)) 30) 0 0)) 31 (upd ((va_up (va_up (va_up g 25 (upd (g 25) 0 0)) 29 (upd ((va_up g 25 (upd (g 25) 0 0)) 29) 0 0)) 30 (upd ((va_up (va_up g 25 (upd (g 25) 0 0)) 29 (upd ((va_up g 25 (upd (g 25) 0 0)) 29) 0 0)) 30) 0 0)) 31) 0 0)) 40 (upd ((va_up (va_up (va_up (va_up g 25 (upd (g 25) 0 0)) 29 (upd ((va_up g 25 (upd (g 25) 0 0)) 29) 0 0)) 30 (upd ((va_up (va_up g 25 (upd (g 25) 0 0)) 29 (upd ((va_up g 25 (upd (g 25) 0 0)) 29) 0 0)) 30) 0 0)) 31 (upd ((va_up (va_up (va_up g 25 (upd (g 25) 0 0)) 29 (upd ((va_up g 25 (upd (g 25) 0 0)) 29) 0 0)) 30 (upd ((va_up (va_up g 25 (upd (g 25) 0 0)) 29 (upd ((va_up g 25 (upd (g 25) 0 0)) 29) 0 0)) 30) 0 0)) 31) 0 0)) 40) 0 0)) 41 (upd ((va_up (va_up (va_up (va_up (va_up g 25 (upd (g 25) 0 0)) 29 (upd ((va_up g 25 (upd (g 25) 0 0)) 29) 0 0)) 30 (upd ((va_up (va_up g 25 (upd (g 25) 0 0)) 29 (upd ((va_up g 25 (upd (g 25) 0 0)) 29) 0 0)) 30) 0 0)) 31 (upd ((va_up (va_up (va_up g 25 (upd (g 25) 0 0)) 29 (upd ((va_up g 25 (upd (g 25) 0 0)) 29) 0 0)) 30 (upd ((va_up (va_up g 25 (upd (g 25) 0 0)) 29 (upd ((va_up g 25 (upd (g 25) 0 0)) 29) 0 0)) 30) 0 0)) 31) 0 0)) 40 (upd ((va_up (va_up (va_up (va_up g 25 (upd (g 25) 0 0)) 29 (upd ((va_up g 25 (upd (g 25) 0 0)) 29) 0 0)) 30 (upd ((va_up (va_up g 25 (upd (g 25) 0 0)) 29 (upd ((va_up g 25 (upd (g 25) 0 0)) 29) 0 0)) 30) 0 0)) 31 (upd ((va_up (va_up (va_up g 25 (upd (g 25) 0 0)) 29 (upd ((va_up g 25 (upd (g 25) 0 0)) 29) 0 0)) 30 (upd ((va_up (va_up g 25 (upd (g 25) 0 0)) 29 (upd ((va_up g 25 (upd (g 25) 0 0)) 29) 0 0)) 30) 0 0)) 31) 0 0)) 40) 0 0)) 41) 0 0)) 42 (upd ((va_up (va_up (va_up (va_up (va_up (va_up g 25 (upd (g 25) 0 0)) 29 (upd ((va_up g 25 (upd (g 25) 0 0)) 29) 0 0)) 30 (upd ((va_up (va_up g 25 (upd (g 25) 0 0)) 29 (upd ((va_up g 25 (upd (g 25) 0 0)) 29) 0 0)) 30) 0 0)) 31 (upd ((va_up (va_up (va_up g 25 (upd (g 25) 0 0)) 29 (upd ((va_up g 25 (upd (g 25) 0 0)) 29) 0 0)) 30 (upd ((va_up (va_up g 25 (upd (g 25) 0 0)) 29 (upd ((va_up g 25 (upd (g 25) 0 0)) 29) 0 0)) 30) 0 0)) 31) 0 0)) 40 (upd ((va_up (va_up (va_up (va_up g 25 (upd (g 25) 0 0)) 29 (upd ((va_up g 25 (upd (g 25) 0 0)) 29) 0 0)) 30 (upd ((va_up (va_up g 25 (upd (g 25) 0 0)) 29 (upd ((va_up g 25 (upd (g 25) 0 0)) 29) 0 0)) 30) 0 0)) 31 (upd ((va_up (va_up (va_up g 25 (upd (g 25) 0 0)) 29 (upd ((va_up g 25 (upd (g 25) 0 0)) 29) 0 0)) 30 (upd ((va_up (va_up g 25 (upd (g 25) 0 0)) 29 (upd ((va_up g 25 (upd (g 25) 0 0)) 29) 0 0)) 30) 0 0)) 31) 0 0)) 40) 0 0)) 41 (upd ((va_up (va_up (va_up (va_up (va_up g 25 (upd (g 25) 0 0)) 29 (upd ((va_up g 25 (upd (g 25) 0 0)) 29) 0 0)) 30 (upd ((va_up (va_up g 25 (upd (g 25) 0 0)) 29 (upd ((va_up g 25 (upd (g 25) 0 0)) 29) 0 0)) 30) 0 0)) 31 (upd ((va_up (va_up (va_up g 25 (upd (g 25) 0 0)) 29 (upd ((va_up g 25 (upd (g 25) 0 0)) 29) 0 0)) 30 (upd ((va_up (va_up g 25 (upd (g 25) 0 0)) 29 (upd ((va_up g 25 (upd (g 25) 0 0)) 29) 0 0)) 30) 0 0)) 31) 0 0)) 40 (upd ((va_up (va_up (va_up (va_up g 25 (upd (g 25) 0 0)) 29 (upd ((va_up g 25 (upd (g 25) 0 0)) 29) 0 0)) 30 (upd ((va_up (va_up g 25 (upd (g 25) 0 0)) 29 (upd ((va_up g 25 (upd (g 25) 0 0)) 29) 0 0)) 30) 0 0)) 31 (upd ((va_up (va_up (va_up g 25 (upd (g 25) 0 0)) 29 (upd ((va_up g 25 (upd (g 25) 0 0)) 29) 0 0)) 30 (upd ((va_up (va_up g 25 (upd (g 25) 0 0)) 29 (upd ((va_up g 25 (upd (g 25) 0 0)) 29) 0 0)) 30) 0 0)) 31) 0 0)) 40) 0 0)) 41) 0 0)) 42) 0 (-1))) 25 (upd (upd (g 25) 0 0) 1 0)) 29 (upd (upd ((va_up g 25 (upd (g 25) 0 0)) 29) 0 0) 1 0)) 30 (upd (upd ((va_up (va_up g 25 (upd (g 25) 0 0)) 29 (upd ((va_up g 25 (upd (g 25) 0 0)) 29) 0 0)) 30) 0 0) 1 0)) 31 (upd (upd ((va_up (va_up (va_up g 25 (upd (g 25) 0 0)) 29 (upd ((va_up g 25 (upd (g 25) 0 0)) 29) 0 0)) 30 (upd ((va_up (va_up g 25 (upd (g 25) 0 0)) 29 (upd ((va_up g 25 (upd (g 25) 0 0)) 29) 0 0)) 30) 0 0)) 31) 0 0) 1 0)) 40 (upd (upd ((va_up (va_up (va_up (va_up g 25 (upd (g 25) 0 0)) 29 (upd ((va_up g 25 (upd (g 25) 0 0)) 29) 0 0)) 30 (upd ((va_up (va_up g 25 (upd (g 25) 0 0)) 29 (upd ((va_up g 25 (upd (g 25) 0 0)) 29) 0 0)) 30) 0 0)) 31 (upd ((va_up (va_up (va_up g 25 (upd (g 25) 0 0)) 29 (upd ((va_up g 25 (upd (g 25) 0 0)) 29) 0 0)) 30 (upd ((va_up (va_up g 25 (upd (g 25) 0 0)) 29 (upd ((va_up g 25 (upd (g 25) 0 0)) 29) 0 0)) 30) 0 0)) 31) 0 0)) 40) 0 0) 1 0)) 41 (upd (upd ((va_up (va_up (va_up (va_up (va_up g 25 (upd (g 25) 0 0)) 29 (upd ((va_up g 25 (upd (g 25) 0 0)) 29) 0 0)) 30 (upd ((va_up (va_up g 25 (upd (g 25) 0 0)) 29 (upd ((va_up g 25 (upd (g 25) 0 0)) 29) 0 0)) 30) 0 0)) 31 (upd ((va_up (va_up (va_up g 25 (upd (g 25) 0 0)) 29 (upd ((va_up g 25 (upd (g 25) 0 0)) 29) 0 0)) 30 (upd ((va_up (va_up g 25 (upd (g 25) 0 0)) 29 (upd ((va_up g 25 (upd (g 25) 0 0)) 29) 0 0)) 30) 0 0)) 31) 0 0)) 40 (upd ((va_up (va_up (va_up (va_up g 25 (upd (g 25) 0 0)) 29 (upd ((va_up g 25 (upd (g 25) 0 0)) 29) 0 0)) 30 (upd ((va_up (va_up g 25 (upd (g 25) 0 0)) 29 (upd ((va_up g 25 (upd (g 25) 0 0)) 29) 0 0)) 30) 0 0)) 31 (upd ((va_up (va_up (va_up g 25 (upd (g 25) 0 0)) 29 (upd ((va_up g 25 (upd (g 25) 0 0)) 29) 0 0)) 30 (upd ((va_up (va_up g 25 (upd (g 25) 0 0)) 29 (upd ((va_up g 25 (upd (g 25) 0 0)) 29) 0 0)) 30) 0 0)) 31) 0 0)) 40) 0 0)) 41) 0 0) 1 0)) 42 (upd (upd ((va_up (va_up (va_up (va_up (va_up (va_up g 25 (upd (g 25) 0 0)) 29 (upd ((va_up g 25 (upd (g 25) 0 0)) 29) 0 0)) 30 (upd ((va_up (va_up g 25 (upd (g 25) 0 0)) 29 (upd ((va_up g 25 (upd (g 25) 0 0)) 29) 0 0)) 30) 0 0)) 31 (upd ((va_up (va_up (va_up g 25 (upd (g 25) 0 0)) 29 (upd ((va_up g 25 (upd (g 25) 0 0)) 29) 0 0)) 30 (upd ((va_up (va_up g 25 (upd (g 25) 0 0)) 29 (upd ((va_up g 25 (upd (g 25) 0 0)) 29) 0 0)) 30) 0 0)) 31) 0 0)) 40 (upd ((va_up (va_up (va_up (va_up g 25 (upd (g 25) 0 0)) 29 (upd ((va_up g 25 (upd (g 25) 0 0)) 29) 0 0)) 30 (upd ((va_up (va_up g 25 (upd (g 25) 0 0)) 29 (upd ((va_up g 25 (upd (g 25) 0 0)) 29) 0 0)) 30) 0 0)) 31 (upd ((va_up (va_up (va_up g 25 (upd (g 25) 0 0)) 29 (upd ((va_up g 25 (upd (g 25) 0 0)) 29) 0 0)) 30 (upd ((va_up (va_up g 25 (upd (g 25) 0 0)) 29 (upd ((va_up g 25 (upd (g 25) 0 0)) 29) 0 0)) 30) 0 0)) 31) 0 0)) 40) 0 0)) 41 (upd ((va_up (va_up (va_up (va_up (va_up g 25 (upd (g 25) 0 0)) 29 (upd ((va_up g 25 (upd (g 25) 0 0)) 29) 0 0)) 30 (upd ((va_up (va_up g 25 (upd (g 25) 0 0)) 29 (upd ((va_up g 25 (upd (g 25) 0 0)) 29) 0 0)) 30) 0 0)) 31 (upd ((va_up (va_up (va_up g 25 (upd (g 25) 0 0)) 29 (upd ((va_up g 25 (upd (g 25) 0 0)) 29) 0 0)) 30 (upd ((va_up (va_up g 25 (upd (g 25) 0 0)) 29 (upd ((va_up g 25 (upd (g 25) 0 0)) 29) 0 0)) 30) 0 0)) 31) 0 0)) 40 (upd ((va_up (va_up (va_up (va_up g 25 (upd (g 25) 0 0)) 29 (upd ((va_up g 25 (upd (g 25) 0 0)) 29) 0 0)) 30 (upd ((va_up (va_up g 25 (upd (g 25) 0 0)) 29 (upd ((va_up g 25 (upd (g 25) 0 0)) 29) 0 0)) 30) 0 0)) 31 (upd ((va_up (va_up (va_up g 25 (upd (g 25) 0 0)) 29 (upd ((va_up g 25 (upd (g 25) 0 0)) 29) 0 0)) 30 (upd ((va_up (va_up g 25 (upd (g 25) 0 0)) 29 (upd ((va_up g 25 (upd (g 25) 0 0)) 29) 0 0)) 30) 0 0)) 31) 0 0)) 40) 0 0)) 41) 0 0)) 42) 0 (-1)) 1 (-1))) 25 (upd (upd (upd (g 25) 0 0) 1 0) 2 0)) 29 (upd (upd (upd ((va_up g 25 (upd (g 25) 0 0)) 29) 0 0) 1 0) 2 0)) 30 (upd (upd (upd ((va_up (va_up g 25 (upd (g 25) 0 0)) 29 (upd ((va_up g 25 (upd (g 25) 0 0)) 29) 0 0)) 30) 0 0) 1 0) 2 0)) 31 (upd (upd (upd ((va_up (va_up (va_up g 25 (upd (g 25) 0 0)) 29 (upd ((va_up g 25 (upd (g 25) 0 0)) 29) 0 0)) 30 (upd ((va_up (va_up g 25 (upd (g 25) 0 0)) 29 (upd ((va_up g 25 (upd (g 25) 0 0)) 29) 0 0)) 30) 0 0)) 31) 0 0) 1 0) 2 0)) 40 (upd (upd (upd ((va_up (va_up (va_up (va_up g 25 (upd (g 25) 0 0)) 29 (upd ((va_up g 25 (upd (g 25) 0 0)) 29) 0 0)) 30 (upd ((va_up (va_up g 25 (upd (g 25) 0 0)) 29 (upd ((va_up g 25 (upd (g 25) 0 0)) 29) 0 0)) 30) 0 0)) 31 (upd ((va_up (va_up (va_up g 25 (upd (g 25) 0 0)) 29 (upd ((va_up g 25 (upd (g 25) 0 0)) 29) 0 0)) 30 (upd ((va_up (va_up g 25 (upd (g 25) 0 0)) 29 (upd ((va_up g 25 (upd (g 25) 0 0)) 29) 0 0)) 30) 0 0)) 31) 0 0)) 40) 0 0) 1 0) 2 0)) 41 (upd (upd (upd ((va_up (va_up (va_up (va_up (va_up g 25 (upd (g 25) 0 0)) 29 (upd ((va_up g 25 (upd (g 25) 0 0)) 29) 0 0)) 30 (upd ((va_up (va_up g 25 (upd (g 25) 0 0)) 29 (upd ((va_up g 25 (upd (g 25) 0 0)) 29) 0 0)) 30) 0 0)) 31 (upd ((va_up (va_up (va_up g 25 (upd (g 25) 0 0)) 29 (upd ((va_up g 25 (upd (g 25) 0 0)) 29) 0 0)) 30 (upd ((va_up (va_up g 25 (upd (g 25) 0 0)) 29 (upd ((va_up g 25 (upd (g 25) 0 0)) 29) 0 0)) 30) 0 0)) 31) 0 0)) 40 (upd ((va_up (va_up (va_up (va_up g 25 (upd (g 25) 0 0)) 29 (upd ((va_up g 25 (upd (g 25) 0 0)) 29) 0 0)) 30 (upd ((va_up (va_up g 25 (upd (g 25) 0 0)) 29 (upd ((va_up g 25 (upd (g 25) 0 0)) 29) 0 0)) 30) 0 0)) 31 (upd ((va_up (va_up (va_up g 25 (upd (g 25) 0 0)) 29 (upd ((va_up g 25 (upd (g 25) 0 0)) 29) 0 0)) 30 (upd ((va_up (va_up g 25 (upd (g 25) 0 0)) 29 (upd ((va_up g 25 (upd (g 25) 0 0)) 29) 0 0)) 30) 0 0)) 31) 0 0)) 40) 0 0)) 41) 0 0) 1 0) 2 0)) 42 (upd (upd (upd ((va_up (va_up (va_up (va_up (va_up (va_up g 25 (upd (g 25) 0 0)) 29 (upd ((va_up g 25 (upd (g 25) 0 0)) 29) 0 0)) 30 (upd ((va_up (va_up g 25 (upd (g 25) 0 0)) 29 (upd ((va_up g 25 (upd (g 25) 0 0)) 29) 0 0)) 30) 0 0)) 31 (upd ((va_up (va_up (va_up g 25 (upd (g 25) 0 0)) 29 (upd ((va_up g 25 (upd (g 25) 0 0)) 29) 0 0)) 30 (upd ((va_up (va_up g 25 (upd (g 25) 0 0)) 29 (upd ((va_up g 25 (upd (g 25) 0 0)) 29) 0 0)) 30) 0 0)) 31) 0 0)) 40 (upd ((va_up (va_up (va_up (va_up g 25 (upd (g 25) 0 0)) 29 (upd ((va_up g 25 (upd (g 25) 0 0)) 29) 0 0)) 30 (upd ((va_up (va_up g 25 (upd (g 25) 0 0)) 29 (upd ((va_up g 25 (upd (g 25) 0 0)) 29) 0 0)) 30) 0 0)) 31 (upd ((va_up (va_up (va_up g 25 (upd (g 25) 0 0)) 29 (upd ((va_up g 25 (upd (g 25) 0 0)) 29) 0 0)) 30 (upd ((va_up (va_up g 25 (upd (g 25) 0 0)) 29 (upd ((va_up g 25 (upd (g 25) 0 0)) 29) 0 0)) 30) 0 0)) 31) 0 0)) 40) 0 0)) 41 (upd ((va_up (va_up (va_up (va_up (va_up g 25 (upd (g 25) 0 0)) 29 (upd ((va_up g 25 (upd (g 25) 0 0)) 29) 0 0)) 30 (upd ((va_up (va_up g 25 (upd (g 25) 0 0)) 29 (upd ((va_up g 25 (upd (g 25) 0 0)) 29) 0 0)) 30) 0 0)) 31 (upd ((va_up (va_up (va_up g 25 (upd (g 25) 0 0)) 29 (upd ((va_up g 25 (upd (g 25) 0 0)) 29) 0 0)) 30 (upd ((va_up (va_up g 25 (upd (g 25) 0 0)) 29 (upd ((va_up g 25 (upd (g 25) 0 0)) 29) 0 0)) 30) 0 0)) 31) 0 0)) 40 (upd ((va_up (va_up (va_up (va_up g 25 (upd (g 25) 0 0)) 29 (upd ((va_up g 25 (upd (g 25) 0 0)) 29) 0 0)) 30 (upd ((va_up (va_up g 25 (upd (g 25) 0 0)) 29 (upd ((va_up g 25 (upd (g 25) 0 0)) 29) 0 0)) 30) 0 0)) 31 (upd ((va_up (va_up (va_up g 25 (upd (g 25) 0 0)) 29 (upd ((va_up g 25 (upd (g 25) 0 0)) 29) 0 0)) 30 (upd ((va_up (va_up g 25 (upd (g 25) 0 0)) 29 (upd ((va_up g 25 (upd (g 25) 0 0)) 29) 0 0)) 30) 0 0)) 31) 0 0)) 40) 0 0)) 41) 0 0)) 42) 0 (-1)) 1 (-1)) 2 (-1)))
  | i1 + 1 =>
    (va_up (va_up (L_X9_clear u g i1) 38 (upd ((L_X9_clear u g i1) 38) i1 (vp_nar .boolean 0))) 39 (upd ((va_up (L_X9_clear u g i1) 38 (upd ((L_X9_clear u g i1) 38) i1 (vp_nar .boolean 0))) 39) i1 (-1)))
def S_X9_clear (u : Nat → Int32) (g : Nat → Nat → Int32)  : (Nat → Nat → Int32) :=
  (L_X9_clear u g 24)
set_option maxHeartbeats 1000000 in
set_option maxRecDepth 100000 in
theorem c_X9_clear (ε : ET) (ad : Nat → Nat) (v : Nat → Int32) (f : Nat → Nat → Int32) (u : Nat → Int32) (g : Nat → Nat → Int32)   : CT ε yX9_clear cX9_clear 2 none 0 0 0 0 [.ref (ad 22)] (WD ε ad v f u g) (DT none (WD ε ad v f u (S_X9_clear u g))) := by
  refine CT.of (own := RX9) (by decide) rfl (Nat.le_of_ble_eq_true rfl) (fun κ C hQ => ?_)
  refine j_iconst (x := 0) C dX9_clear_0 (by decide) ?_
  refine j_istore_n (i := 1) (lv' := [(1, .int 0), (0, .ref (ad 22))]) C dX9_clear_1 rfl (by decide) rfl ?_
  refine j_iload_n (i := 1) C dX9_clear_2 rfl 0 rfl ?_
  refine j_iconst (x := 3) C dX9_clear_3 (by decide) ?_
  refine j_icmp_ge (tgt := 62) C dX9_clear_4 (by decide) (fun c9 => absurd c9 (by decide)) (fun _ => ?_)
  refine j_aload_n (i := 0) C dX9_clear_7 rfl 1 rfl ?_
  refine g_22_sizes C dX9_clear_8 lf_X9_11 ?_
  refine j_iload_n (i := 1) C dX9_clear_11 rfl 0 rfl ?_
  refine j_iconst (x := 0) C dX9_clear_12 (by decide) ?_
  refine asn_25 (q := 0) (F2 := (g 25)) (F := (upd (g 25) 0 0)) C dX9_clear_13 (by omega) rfl rfl rfl ?_
  refine j_aload_n (i := 0) C dX9_clear_14 rfl 1 rfl ?_
  refine g_22_takens C dX9_clear_15 lf_X9_15 ?_
  refine j_iload_n (i := 1) C dX9_clear_18 rfl 0 rfl ?_
  refine j_iconst (x := 0) C dX9_clear_19 (by decide) ?_
  refine asn_29 (q := 0) (F2 := ((va_up g 25 (upd (g 25) 0 0)) 29)) (F := (upd ((va_up g 25 (upd (g 25) 0 0)) 29) 0 0)) C dX9_clear_20 (by omega) rfl rfl rfl ?_
  refine j_aload_n (i := 0) C dX9_clear_21 rfl 1 rfl ?_
  refine g_22_givens C dX9_clear_22 lf_X9_18 ?_
  refine j_iload_n (i := 1) C dX9_clear_25 rfl 0 rfl ?_
  refine j_iconst (x := 0) C dX9_clear_26 (by decide) ?_
  refine asn_30 (q := 0) (F2 := ((va_up (va_up g 25 (upd (g 25) 0 0)) 29 (upd ((va_up g 25 (upd (g 25) 0 0)) 29) 0 0)) 30)) (F := (upd ((va_up (va_up g 25 (upd (g 25) 0 0)) 29 (upd ((va_up g 25 (upd (g 25) 0 0)) 29) 0 0)) 30) 0 0)) C dX9_clear_27 (by omega) rfl rfl rfl ?_
  refine j_aload_n (i := 0) C dX9_clear_28 rfl 1 rfl ?_
  refine g_22_signals C dX9_clear_29 lf_X9_21 ?_
  refine j_iload_n (i := 1) C dX9_clear_32 rfl 0 rfl ?_
  refine j_iconst (x := 0) C dX9_clear_33 (by decide) ?_
  refine asn_31 (q := 0) (F2 := ((va_up (va_up (va_up g 25 (upd (g 25) 0 0)) 29 (upd ((va_up g 25 (upd (g 25) 0 0)) 29) 0 0)) 30 (upd ((va_up (va_up g 25 (upd (g 25) 0 0)) 29 (upd ((va_up g 25 (upd (g 25) 0 0)) 29) 0 0)) 30) 0 0)) 31)) (F := (upd ((va_up (va_up (va_up g 25 (upd (g 25) 0 0)) 29 (upd ((va_up g 25 (upd (g 25) 0 0)) 29) 0 0)) 30 (upd ((va_up (va_up g 25 (upd (g 25) 0 0)) 29 (upd ((va_up g 25 (upd (g 25) 0 0)) 29) 0 0)) 30) 0 0)) 31) 0 0)) C dX9_clear_34 (by omega) rfl rfl rfl ?_
  refine j_aload_n (i := 0) C dX9_clear_35 rfl 1 rfl ?_
  refine g_22_counts C dX9_clear_36 lf_X9_24 ?_
  refine j_iload_n (i := 1) C dX9_clear_39 rfl 0 rfl ?_
  refine j_iconst (x := 0) C dX9_clear_40 (by decide) ?_
  refine asn_40 (q := 0) (F2 := ((va_up (va_up (va_up (va_up g 25 (upd (g 25) 0 0)) 29 (upd ((va_up g 25 (upd (g 25) 0 0)) 29) 0 0)) 30 (upd ((va_up (va_up g 25 (upd (g 25) 0 0)) 29 (upd ((va_up g 25 (upd (g 25) 0 0)) 29) 0 0)) 30) 0 0)) 31 (upd ((va_up (va_up (va_up g 25 (upd (g 25) 0 0)) 29 (upd ((va_up g 25 (upd (g 25) 0 0)) 29) 0 0)) 30 (upd ((va_up (va_up g 25 (upd (g 25) 0 0)) 29 (upd ((va_up g 25 (upd (g 25) 0 0)) 29) 0 0)) 30) 0 0)) 31) 0 0)) 40)) (F := (upd ((va_up (va_up (va_up (va_up g 25 (upd (g 25) 0 0)) 29 (upd ((va_up g 25 (upd (g 25) 0 0)) 29) 0 0)) 30 (upd ((va_up (va_up g 25 (upd (g 25) 0 0)) 29 (upd ((va_up g 25 (upd (g 25) 0 0)) 29) 0 0)) 30) 0 0)) 31 (upd ((va_up (va_up (va_up g 25 (upd (g 25) 0 0)) 29 (upd ((va_up g 25 (upd (g 25) 0 0)) 29) 0 0)) 30 (upd ((va_up (va_up g 25 (upd (g 25) 0 0)) 29 (upd ((va_up g 25 (upd (g 25) 0 0)) 29) 0 0)) 30) 0 0)) 31) 0 0)) 40) 0 0)) C dX9_clear_41 (by omega) rfl rfl rfl ?_
  refine j_aload_n (i := 0) C dX9_clear_42 rfl 1 rfl ?_
  refine g_22_saws C dX9_clear_43 lf_X9_27 ?_
  refine j_iload_n (i := 1) C dX9_clear_46 rfl 0 rfl ?_
  refine j_iconst (x := 0) C dX9_clear_47 (by decide) ?_
  refine asn_41 (q := 0) (F2 := ((va_up (va_up (va_up (va_up (va_up g 25 (upd (g 25) 0 0)) 29 (upd ((va_up g 25 (upd (g 25) 0 0)) 29) 0 0)) 30 (upd ((va_up (va_up g 25 (upd (g 25) 0 0)) 29 (upd ((va_up g 25 (upd (g 25) 0 0)) 29) 0 0)) 30) 0 0)) 31 (upd ((va_up (va_up (va_up g 25 (upd (g 25) 0 0)) 29 (upd ((va_up g 25 (upd (g 25) 0 0)) 29) 0 0)) 30 (upd ((va_up (va_up g 25 (upd (g 25) 0 0)) 29 (upd ((va_up g 25 (upd (g 25) 0 0)) 29) 0 0)) 30) 0 0)) 31) 0 0)) 40 (upd ((va_up (va_up (va_up (va_up g 25 (upd (g 25) 0 0)) 29 (upd ((va_up g 25 (upd (g 25) 0 0)) 29) 0 0)) 30 (upd ((va_up (va_up g 25 (upd (g 25) 0 0)) 29 (upd ((va_up g 25 (upd (g 25) 0 0)) 29) 0 0)) 30) 0 0)) 31 (upd ((va_up (va_up (va_up g 25 (upd (g 25) 0 0)) 29 (upd ((va_up g 25 (upd (g 25) 0 0)) 29) 0 0)) 30 (upd ((va_up (va_up g 25 (upd (g 25) 0 0)) 29 (upd ((va_up g 25 (upd (g 25) 0 0)) 29) 0 0)) 30) 0 0)) 31) 0 0)) 40) 0 0)) 41)) (F := (upd ((va_up (va_up (va_up (va_up (va_up g 25 (upd (g 25) 0 0)) 29 (upd ((va_up g 25 (upd (g 25) 0 0)) 29) 0 0)) 30 (upd ((va_up (va_up g 25 (upd (g 25) 0 0)) 29 (upd ((va_up g 25 (upd (g 25) 0 0)) 29) 0 0)) 30) 0 0)) 31 (upd ((va_up (va_up (va_up g 25 (upd (g 25) 0 0)) 29 (upd ((va_up g 25 (upd (g 25) 0 0)) 29) 0 0)) 30 (upd ((va_up (va_up g 25 (upd (g 25) 0 0)) 29 (upd ((va_up g 25 (upd (g 25) 0 0)) 29) 0 0)) 30) 0 0)) 31) 0 0)) 40 (upd ((va_up (va_up (va_up (va_up g 25 (upd (g 25) 0 0)) 29 (upd ((va_up g 25 (upd (g 25) 0 0)) 29) 0 0)) 30 (upd ((va_up (va_up g 25 (upd (g 25) 0 0)) 29 (upd ((va_up g 25 (upd (g 25) 0 0)) 29) 0 0)) 30) 0 0)) 31 (upd ((va_up (va_up (va_up g 25 (upd (g 25) 0 0)) 29 (upd ((va_up g 25 (upd (g 25) 0 0)) 29) 0 0)) 30 (upd ((va_up (va_up g 25 (upd (g 25) 0 0)) 29 (upd ((va_up g 25 (upd (g 25) 0 0)) 29) 0 0)) 30) 0 0)) 31) 0 0)) 40) 0 0)) 41) 0 0)) C dX9_clear_48 (by omega) rfl rfl rfl ?_
  refine j_aload_n (i := 0) C dX9_clear_49 rfl 1 rfl ?_
  refine g_22_written C dX9_clear_50 lf_X9_30 ?_
  refine j_iload_n (i := 1) C dX9_clear_53 rfl 0 rfl ?_
  refine j_iconst (x := (-1)) C dX9_clear_54 (by decide) ?_
  refine asn_42 (q := 0) (F2 := ((va_up (va_up (va_up (va_up (va_up (va_up g 25 (upd (g 25) 0 0)) 29 (upd ((va_up g 25 (upd (g 25) 0 0)) 29) 0 0)) 30 (upd ((va_up (va_up g 25 (upd (g 25) 0 0)) 29 (upd ((va_up g 25 (upd (g 25) 0 0)) 29) 0 0)) 30) 0 0)) 31 (upd ((va_up (va_up (va_up g 25 (upd (g 25) 0 0)) 29 (upd ((va_up g 25 (upd (g 25) 0 0)) 29) 0 0)) 30 (upd ((va_up (va_up g 25 (upd (g 25) 0 0)) 29 (upd ((va_up g 25 (upd (g 25) 0 0)) 29) 0 0)) 30) 0 0)) 31) 0 0)) 40 (upd ((va_up (va_up (va_up (va_up g 25 (upd (g 25) 0 0)) 29 (upd ((va_up g 25 (upd (g 25) 0 0)) 29) 0 0)) 30 (upd ((va_up (va_up g 25 (upd (g 25) 0 0)) 29 (upd ((va_up g 25 (upd (g 25) 0 0)) 29) 0 0)) 30) 0 0)) 31 (upd ((va_up (va_up (va_up g 25 (upd (g 25) 0 0)) 29 (upd ((va_up g 25 (upd (g 25) 0 0)) 29) 0 0)) 30 (upd ((va_up (va_up g 25 (upd (g 25) 0 0)) 29 (upd ((va_up g 25 (upd (g 25) 0 0)) 29) 0 0)) 30) 0 0)) 31) 0 0)) 40) 0 0)) 41 (upd ((va_up (va_up (va_up (va_up (va_up g 25 (upd (g 25) 0 0)) 29 (upd ((va_up g 25 (upd (g 25) 0 0)) 29) 0 0)) 30 (upd ((va_up (va_up g 25 (upd (g 25) 0 0)) 29 (upd ((va_up g 25 (upd (g 25) 0 0)) 29) 0 0)) 30) 0 0)) 31 (upd ((va_up (va_up (va_up g 25 (upd (g 25) 0 0)) 29 (upd ((va_up g 25 (upd (g 25) 0 0)) 29) 0 0)) 30 (upd ((va_up (va_up g 25 (upd (g 25) 0 0)) 29 (upd ((va_up g 25 (upd (g 25) 0 0)) 29) 0 0)) 30) 0 0)) 31) 0 0)) 40 (upd ((va_up (va_up (va_up (va_up g 25 (upd (g 25) 0 0)) 29 (upd ((va_up g 25 (upd (g 25) 0 0)) 29) 0 0)) 30 (upd ((va_up (va_up g 25 (upd (g 25) 0 0)) 29 (upd ((va_up g 25 (upd (g 25) 0 0)) 29) 0 0)) 30) 0 0)) 31 (upd ((va_up (va_up (va_up g 25 (upd (g 25) 0 0)) 29 (upd ((va_up g 25 (upd (g 25) 0 0)) 29) 0 0)) 30 (upd ((va_up (va_up g 25 (upd (g 25) 0 0)) 29 (upd ((va_up g 25 (upd (g 25) 0 0)) 29) 0 0)) 30) 0 0)) 31) 0 0)) 40) 0 0)) 41) 0 0)) 42)) (F := (upd ((va_up (va_up (va_up (va_up (va_up (va_up g 25 (upd (g 25) 0 0)) 29 (upd ((va_up g 25 (upd (g 25) 0 0)) 29) 0 0)) 30 (upd ((va_up (va_up g 25 (upd (g 25) 0 0)) 29 (upd ((va_up g 25 (upd (g 25) 0 0)) 29) 0 0)) 30) 0 0)) 31 (upd ((va_up (va_up (va_up g 25 (upd (g 25) 0 0)) 29 (upd ((va_up g 25 (upd (g 25) 0 0)) 29) 0 0)) 30 (upd ((va_up (va_up g 25 (upd (g 25) 0 0)) 29 (upd ((va_up g 25 (upd (g 25) 0 0)) 29) 0 0)) 30) 0 0)) 31) 0 0)) 40 (upd ((va_up (va_up (va_up (va_up g 25 (upd (g 25) 0 0)) 29 (upd ((va_up g 25 (upd (g 25) 0 0)) 29) 0 0)) 30 (upd ((va_up (va_up g 25 (upd (g 25) 0 0)) 29 (upd ((va_up g 25 (upd (g 25) 0 0)) 29) 0 0)) 30) 0 0)) 31 (upd ((va_up (va_up (va_up g 25 (upd (g 25) 0 0)) 29 (upd ((va_up g 25 (upd (g 25) 0 0)) 29) 0 0)) 30 (upd ((va_up (va_up g 25 (upd (g 25) 0 0)) 29 (upd ((va_up g 25 (upd (g 25) 0 0)) 29) 0 0)) 30) 0 0)) 31) 0 0)) 40) 0 0)) 41 (upd ((va_up (va_up (va_up (va_up (va_up g 25 (upd (g 25) 0 0)) 29 (upd ((va_up g 25 (upd (g 25) 0 0)) 29) 0 0)) 30 (upd ((va_up (va_up g 25 (upd (g 25) 0 0)) 29 (upd ((va_up g 25 (upd (g 25) 0 0)) 29) 0 0)) 30) 0 0)) 31 (upd ((va_up (va_up (va_up g 25 (upd (g 25) 0 0)) 29 (upd ((va_up g 25 (upd (g 25) 0 0)) 29) 0 0)) 30 (upd ((va_up (va_up g 25 (upd (g 25) 0 0)) 29 (upd ((va_up g 25 (upd (g 25) 0 0)) 29) 0 0)) 30) 0 0)) 31) 0 0)) 40 (upd ((va_up (va_up (va_up (va_up g 25 (upd (g 25) 0 0)) 29 (upd ((va_up g 25 (upd (g 25) 0 0)) 29) 0 0)) 30 (upd ((va_up (va_up g 25 (upd (g 25) 0 0)) 29 (upd ((va_up g 25 (upd (g 25) 0 0)) 29) 0 0)) 30) 0 0)) 31 (upd ((va_up (va_up (va_up g 25 (upd (g 25) 0 0)) 29 (upd ((va_up g 25 (upd (g 25) 0 0)) 29) 0 0)) 30 (upd ((va_up (va_up g 25 (upd (g 25) 0 0)) 29 (upd ((va_up g 25 (upd (g 25) 0 0)) 29) 0 0)) 30) 0 0)) 31) 0 0)) 40) 0 0)) 41) 0 0)) 42) 0 (-1))) C dX9_clear_55 (by omega) rfl rfl rfl ?_
  refine j_iinc (y := 1) (lv' := [(1, .int 1), (0, .ref (ad 22))]) C dX9_clear_56 0 rfl (by decide) (by decide) rfl ?_
  refine j_goto (tgt := 2) C dX9_clear_59 (by decide) ?_
  refine j_iload_n (i := 1) C dX9_clear_2 rfl 0 rfl ?_
  refine j_iconst (x := 3) C dX9_clear_3 (by decide) ?_
  refine j_icmp_ge (tgt := 62) C dX9_clear_4 (by decide) (fun c9 => absurd c9 (by decide)) (fun _ => ?_)
  refine j_aload_n (i := 0) C dX9_clear_7 rfl 1 rfl ?_
  refine g_22_sizes C dX9_clear_8 lf_X9_11 ?_
  refine j_iload_n (i := 1) C dX9_clear_11 rfl 0 rfl ?_
  refine j_iconst (x := 0) C dX9_clear_12 (by decide) ?_
  refine asn_25 (q := 1) (F2 := (upd (g 25) 0 0)) (F := (upd (upd (g 25) 0 0) 1 0)) C dX9_clear_13 (by omega) rfl rfl rfl ?_
  refine j_aload_n (i := 0) C dX9_clear_14 rfl 1 rfl ?_
  refine g_22_takens C dX9_clear_15 lf_X9_15 ?_
  refine j_iload_n (i := 1) C dX9_clear_18 rfl 0 rfl ?_
  refine j_iconst (x := 0) C dX9_clear_19 (by decide) ?_
  refine asn_29 (q := 1) (F2 := (upd ((va_up g 25 (upd (g 25) 0 0)) 29) 0 0)) (F := (upd (upd ((va_up g 25 (upd (g 25) 0 0)) 29) 0 0) 1 0)) C dX9_clear_20 (by omega) rfl rfl rfl ?_
  refine j_aload_n (i := 0) C dX9_clear_21 rfl 1 rfl ?_
  refine g_22_givens C dX9_clear_22 lf_X9_18 ?_
  refine j_iload_n (i := 1) C dX9_clear_25 rfl 0 rfl ?_
  refine j_iconst (x := 0) C dX9_clear_26 (by decide) ?_
  refine asn_30 (q := 1) (F2 := (upd ((va_up (va_up g 25 (upd (g 25) 0 0)) 29 (upd ((va_up g 25 (upd (g 25) 0 0)) 29) 0 0)) 30) 0 0)) (F := (upd (upd ((va_up (va_up g 25 (upd (g 25) 0 0)) 29 (upd ((va_up g 25 (upd (g 25) 0 0)) 29) 0 0)) 30) 0 0) 1 0)) C dX9_clear_27 (by omega) rfl rfl rfl ?_
  refine j_aload_n (i := 0) C dX9_clear_28 rfl 1 rfl ?_
  refine g_22_signals C dX9_clear_29 lf_X9_21 ?_
  refine j_iload_n (i := 1) C dX9_clear_32 rfl 0 rfl ?_
  refine j_iconst (x := 0) C dX9_clear_33 (by decide) ?_
  refine asn_31 (q := 1) (F2 := (upd ((va_up (va_up (va_up g 25 (upd (g 25) 0 0)) 29 (upd ((va_up g 25 (upd (g 25) 0 0)) 29) 0 0)) 30 (upd ((va_up (va_up g 25 (upd (g 25) 0 0)) 29 (upd ((va_up g 25 (upd (g 25) 0 0)) 29) 0 0)) 30) 0 0)) 31) 0 0)) (F := (upd (upd ((va_up (va_up (va_up g 25 (upd (g 25) 0 0)) 29 (upd ((va_up g 25 (upd (g 25) 0 0)) 29) 0 0)) 30 (upd ((va_up (va_up g 25 (upd (g 25) 0 0)) 29 (upd ((va_up g 25 (upd (g 25) 0 0)) 29) 0 0)) 30) 0 0)) 31) 0 0) 1 0)) C dX9_clear_34 (by omega) rfl rfl rfl ?_
  refine j_aload_n (i := 0) C dX9_clear_35 rfl 1 rfl ?_
  refine g_22_counts C dX9_clear_36 lf_X9_24 ?_
  refine j_iload_n (i := 1) C dX9_clear_39 rfl 0 rfl ?_
  refine j_iconst (x := 0) C dX9_clear_40 (by decide) ?_
  refine asn_40 (q := 1) (F2 := (upd ((va_up (va_up (va_up (va_up g 25 (upd (g 25) 0 0)) 29 (upd ((va_up g 25 (upd (g 25) 0 0)) 29) 0 0)) 30 (upd ((va_up (va_up g 25 (upd (g 25) 0 0)) 29 (upd ((va_up g 25 (upd (g 25) 0 0)) 29) 0 0)) 30) 0 0)) 31 (upd ((va_up (va_up (va_up g 25 (upd (g 25) 0 0)) 29 (upd ((va_up g 25 (upd (g 25) 0 0)) 29) 0 0)) 30 (upd ((va_up (va_up g 25 (upd (g 25) 0 0)) 29 (upd ((va_up g 25 (upd (g 25) 0 0)) 29) 0 0)) 30) 0 0)) 31) 0 0)) 40) 0 0)) (F := (upd (upd ((va_up (va_up (va_up (va_up g 25 (upd (g 25) 0 0)) 29 (upd ((va_up g 25 (upd (g 25) 0 0)) 29) 0 0)) 30 (upd ((va_up (va_up g 25 (upd (g 25) 0 0)) 29 (upd ((va_up g 25 (upd (g 25) 0 0)) 29) 0 0)) 30) 0 0)) 31 (upd ((va_up (va_up (va_up g 25 (upd (g 25) 0 0)) 29 (upd ((va_up g 25 (upd (g 25) 0 0)) 29) 0 0)) 30 (upd ((va_up (va_up g 25 (upd (g 25) 0 0)) 29 (upd ((va_up g 25 (upd (g 25) 0 0)) 29) 0 0)) 30) 0 0)) 31) 0 0)) 40) 0 0) 1 0)) C dX9_clear_41 (by omega) rfl rfl rfl ?_
  refine j_aload_n (i := 0) C dX9_clear_42 rfl 1 rfl ?_
  refine g_22_saws C dX9_clear_43 lf_X9_27 ?_
  refine j_iload_n (i := 1) C dX9_clear_46 rfl 0 rfl ?_
  refine j_iconst (x := 0) C dX9_clear_47 (by decide) ?_
  refine asn_41 (q := 1) (F2 := (upd ((va_up (va_up (va_up (va_up (va_up g 25 (upd (g 25) 0 0)) 29 (upd ((va_up g 25 (upd (g 25) 0 0)) 29) 0 0)) 30 (upd ((va_up (va_up g 25 (upd (g 25) 0 0)) 29 (upd ((va_up g 25 (upd (g 25) 0 0)) 29) 0 0)) 30) 0 0)) 31 (upd ((va_up (va_up (va_up g 25 (upd (g 25) 0 0)) 29 (upd ((va_up g 25 (upd (g 25) 0 0)) 29) 0 0)) 30 (upd ((va_up (va_up g 25 (upd (g 25) 0 0)) 29 (upd ((va_up g 25 (upd (g 25) 0 0)) 29) 0 0)) 30) 0 0)) 31) 0 0)) 40 (upd ((va_up (va_up (va_up (va_up g 25 (upd (g 25) 0 0)) 29 (upd ((va_up g 25 (upd (g 25) 0 0)) 29) 0 0)) 30 (upd ((va_up (va_up g 25 (upd (g 25) 0 0)) 29 (upd ((va_up g 25 (upd (g 25) 0 0)) 29) 0 0)) 30) 0 0)) 31 (upd ((va_up (va_up (va_up g 25 (upd (g 25) 0 0)) 29 (upd ((va_up g 25 (upd (g 25) 0 0)) 29) 0 0)) 30 (upd ((va_up (va_up g 25 (upd (g 25) 0 0)) 29 (upd ((va_up g 25 (upd (g 25) 0 0)) 29) 0 0)) 30) 0 0)) 31) 0 0)) 40) 0 0)) 41) 0 0)) (F := (upd (upd ((va_up (va_up (va_up (va_up (va_up g 25 (upd (g 25) 0 0)) 29 (upd ((va_up g 25 (upd (g 25) 0 0)) 29) 0 0)) 30 (upd ((va_up (va_up g 25 (upd (g 25) 0 0)) 29 (upd ((va_up g 25 (upd (g 25) 0 0)) 29) 0 0)) 30) 0 0)) 31 (upd ((va_up (va_up (va_up g 25 (upd (g 25) 0 0)) 29 (upd ((va_up g 25 (upd (g 25) 0 0)) 29) 0 0)) 30 (upd ((va_up (va_up g 25 (upd (g 25) 0 0)) 29 (upd ((va_up g 25 (upd (g 25) 0 0)) 29) 0 0)) 30) 0 0)) 31) 0 0)) 40 (upd ((va_up (va_up (va_up (va_up g 25 (upd (g 25) 0 0)) 29 (upd ((va_up g 25 (upd (g 25) 0 0)) 29) 0 0)) 30 (upd ((va_up (va_up g 25 (upd (g 25) 0 0)) 29 (upd ((va_up g 25 (upd (g 25) 0 0)) 29) 0 0)) 30) 0 0)) 31 (upd ((va_up (va_up (va_up g 25 (upd (g 25) 0 0)) 29 (upd ((va_up g 25 (upd (g 25) 0 0)) 29) 0 0)) 30 (upd ((va_up (va_up g 25 (upd (g 25) 0 0)) 29 (upd ((va_up g 25 (upd (g 25) 0 0)) 29) 0 0)) 30) 0 0)) 31) 0 0)) 40) 0 0)) 41) 0 0) 1 0)) C dX9_clear_48 (by omega) rfl rfl rfl ?_
  refine j_aload_n (i := 0) C dX9_clear_49 rfl 1 rfl ?_
  refine g_22_written C dX9_clear_50 lf_X9_30 ?_
  refine j_iload_n (i := 1) C dX9_clear_53 rfl 0 rfl ?_
  refine j_iconst (x := (-1)) C dX9_clear_54 (by decide) ?_
  refine asn_42 (q := 1) (F2 := (upd ((va_up (va_up (va_up (va_up (va_up (va_up g 25 (upd (g 25) 0 0)) 29 (upd ((va_up g 25 (upd (g 25) 0 0)) 29) 0 0)) 30 (upd ((va_up (va_up g 25 (upd (g 25) 0 0)) 29 (upd ((va_up g 25 (upd (g 25) 0 0)) 29) 0 0)) 30) 0 0)) 31 (upd ((va_up (va_up (va_up g 25 (upd (g 25) 0 0)) 29 (upd ((va_up g 25 (upd (g 25) 0 0)) 29) 0 0)) 30 (upd ((va_up (va_up g 25 (upd (g 25) 0 0)) 29 (upd ((va_up g 25 (upd (g 25) 0 0)) 29) 0 0)) 30) 0 0)) 31) 0 0)) 40 (upd ((va_up (va_up (va_up (va_up g 25 (upd (g 25) 0 0)) 29 (upd ((va_up g 25 (upd (g 25) 0 0)) 29) 0 0)) 30 (upd ((va_up (va_up g 25 (upd (g 25) 0 0)) 29 (upd ((va_up g 25 (upd (g 25) 0 0)) 29) 0 0)) 30) 0 0)) 31 (upd ((va_up (va_up (va_up g 25 (upd (g 25) 0 0)) 29 (upd ((va_up g 25 (upd (g 25) 0 0)) 29) 0 0)) 30 (upd ((va_up (va_up g 25 (upd (g 25) 0 0)) 29 (upd ((va_up g 25 (upd (g 25) 0 0)) 29) 0 0)) 30) 0 0)) 31) 0 0)) 40) 0 0)) 41 (upd ((va_up (va_up (va_up (va_up (va_up g 25 (upd (g 25) 0 0)) 29 (upd ((va_up g 25 (upd (g 25) 0 0)) 29) 0 0)) 30 (upd ((va_up (va_up g 25 (upd (g 25) 0 0)) 29 (upd ((va_up g 25 (upd (g 25) 0 0)) 29) 0 0)) 30) 0 0)) 31 (upd ((va_up (va_up (va_up g 25 (upd (g 25) 0 0)) 29 (upd ((va_up g 25 (upd (g 25) 0 0)) 29) 0 0)) 30 (upd ((va_up (va_up g 25 (upd (g 25) 0 0)) 29 (upd ((va_up g 25 (upd (g 25) 0 0)) 29) 0 0)) 30) 0 0)) 31) 0 0)) 40 (upd ((va_up (va_up (va_up (va_up g 25 (upd (g 25) 0 0)) 29 (upd ((va_up g 25 (upd (g 25) 0 0)) 29) 0 0)) 30 (upd ((va_up (va_up g 25 (upd (g 25) 0 0)) 29 (upd ((va_up g 25 (upd (g 25) 0 0)) 29) 0 0)) 30) 0 0)) 31 (upd ((va_up (va_up (va_up g 25 (upd (g 25) 0 0)) 29 (upd ((va_up g 25 (upd (g 25) 0 0)) 29) 0 0)) 30 (upd ((va_up (va_up g 25 (upd (g 25) 0 0)) 29 (upd ((va_up g 25 (upd (g 25) 0 0)) 29) 0 0)) 30) 0 0)) 31) 0 0)) 40) 0 0)) 41) 0 0)) 42) 0 (-1))) (F := (upd (upd ((va_up (va_up (va_up (va_up (va_up (va_up g 25 (upd (g 25) 0 0)) 29 (upd ((va_up g 25 (upd (g 25) 0 0)) 29) 0 0)) 30 (upd ((va_up (va_up g 25 (upd (g 25) 0 0)) 29 (upd ((va_up g 25 (upd (g 25) 0 0)) 29) 0 0)) 30) 0 0)) 31 (upd ((va_up (va_up (va_up g 25 (upd (g 25) 0 0)) 29 (upd ((va_up g 25 (upd (g 25) 0 0)) 29) 0 0)) 30 (upd ((va_up (va_up g 25 (upd (g 25) 0 0)) 29 (upd ((va_up g 25 (upd (g 25) 0 0)) 29) 0 0)) 30) 0 0)) 31) 0 0)) 40 (upd ((va_up (va_up (va_up (va_up g 25 (upd (g 25) 0 0)) 29 (upd ((va_up g 25 (upd (g 25) 0 0)) 29) 0 0)) 30 (upd ((va_up (va_up g 25 (upd (g 25) 0 0)) 29 (upd ((va_up g 25 (upd (g 25) 0 0)) 29) 0 0)) 30) 0 0)) 31 (upd ((va_up (va_up (va_up g 25 (upd (g 25) 0 0)) 29 (upd ((va_up g 25 (upd (g 25) 0 0)) 29) 0 0)) 30 (upd ((va_up (va_up g 25 (upd (g 25) 0 0)) 29 (upd ((va_up g 25 (upd (g 25) 0 0)) 29) 0 0)) 30) 0 0)) 31) 0 0)) 40) 0 0)) 41 (upd ((va_up (va_up (va_up (va_up (va_up g 25 (upd (g 25) 0 0)) 29 (upd ((va_up g 25 (upd (g 25) 0 0)) 29) 0 0)) 30 (upd ((va_up (va_up g 25 (upd (g 25) 0 0)) 29 (upd ((va_up g 25 (upd (g 25) 0 0)) 29) 0 0)) 30) 0 0)) 31 (upd ((va_up (va_up (va_up g 25 (upd (g 25) 0 0)) 29 (upd ((va_up g 25 (upd (g 25) 0 0)) 29) 0 0)) 30 (upd ((va_up (va_up g 25 (upd (g 25) 0 0)) 29 (upd ((va_up g 25 (upd (g 25) 0 0)) 29) 0 0)) 30) 0 0)) 31) 0 0)) 40 (upd ((va_up (va_up (va_up (va_up g 25 (upd (g 25) 0 0)) 29 (upd ((va_up g 25 (upd (g 25) 0 0)) 29) 0 0)) 30 (upd ((va_up (va_up g 25 (upd (g 25) 0 0)) 29 (upd ((va_up g 25 (upd (g 25) 0 0)) 29) 0 0)) 30) 0 0)) 31 (upd ((va_up (va_up (va_up g 25 (upd (g 25) 0 0)) 29 (upd ((va_up g 25 (upd (g 25) 0 0)) 29) 0 0)) 30 (upd ((va_up (va_up g 25 (upd (g 25) 0 0)) 29 (upd ((va_up g 25 (upd (g 25) 0 0)) 29) 0 0)) 30) 0 0)) 31) 0 0)) 40) 0 0)) 41) 0 0)) 42) 0 (-1)) 1 (-1))) C dX9_clear_55 (by omega) rfl rfl rfl ?_
  refine j_iinc (y := 2) (lv' := [(1, .int 2), (0, .ref (ad 22))]) C dX9_clear_56 0 rfl (by decide) (by decide) rfl ?_
  refine j_goto (tgt := 2) C dX9_clear_59 (by decide) ?_
  refine j_iload_n (i := 1) C dX9_clear_2 rfl 0 rfl ?_
  refine j_iconst (x := 3) C dX9_clear_3 (by decide) ?_
  refine j_icmp_ge (tgt := 62) C dX9_clear_4 (by decide) (fun c9 => absurd c9 (by decide)) (fun _ => ?_)
  refine j_aload_n (i := 0) C dX9_clear_7 rfl 1 rfl ?_
  refine g_22_sizes C dX9_clear_8 lf_X9_11 ?_
  refine j_iload_n (i := 1) C dX9_clear_11 rfl 0 rfl ?_
  refine j_iconst (x := 0) C dX9_clear_12 (by decide) ?_
  refine asn_25 (q := 2) (F2 := (upd (upd (g 25) 0 0) 1 0)) (F := (upd (upd (upd (g 25) 0 0) 1 0) 2 0)) C dX9_clear_13 (by omega) rfl rfl rfl ?_
  refine j_aload_n (i := 0) C dX9_clear_14 rfl 1 rfl ?_
  refine g_22_takens C dX9_clear_15 lf_X9_15 ?_
  refine j_iload_n (i := 1) C dX9_clear_18 rfl 0 rfl ?_
  refine j_iconst (x := 0) C dX9_clear_19 (by decide) ?_
  refine asn_29 (q := 2) (F2 := (upd (upd ((va_up g 25 (upd (g 25) 0 0)) 29) 0 0) 1 0)) (F := (upd (upd (upd ((va_up g 25 (upd (g 25) 0 0)) 29) 0 0) 1 0) 2 0)) C dX9_clear_20 (by omega) rfl rfl rfl ?_
  refine j_aload_n (i := 0) C dX9_clear_21 rfl 1 rfl ?_
  refine g_22_givens C dX9_clear_22 lf_X9_18 ?_
  refine j_iload_n (i := 1) C dX9_clear_25 rfl 0 rfl ?_
  refine j_iconst (x := 0) C dX9_clear_26 (by decide) ?_
  refine asn_30 (q := 2) (F2 := (upd (upd ((va_up (va_up g 25 (upd (g 25) 0 0)) 29 (upd ((va_up g 25 (upd (g 25) 0 0)) 29) 0 0)) 30) 0 0) 1 0)) (F := (upd (upd (upd ((va_up (va_up g 25 (upd (g 25) 0 0)) 29 (upd ((va_up g 25 (upd (g 25) 0 0)) 29) 0 0)) 30) 0 0) 1 0) 2 0)) C dX9_clear_27 (by omega) rfl rfl rfl ?_
  refine j_aload_n (i := 0) C dX9_clear_28 rfl 1 rfl ?_
  refine g_22_signals C dX9_clear_29 lf_X9_21 ?_
  refine j_iload_n (i := 1) C dX9_clear_32 rfl 0 rfl ?_
  refine j_iconst (x := 0) C dX9_clear_33 (by decide) ?_
  refine asn_31 (q := 2) (F2 := (upd (upd ((va_up (va_up (va_up g 25 (upd (g 25) 0 0)) 29 (upd ((va_up g 25 (upd (g 25) 0 0)) 29) 0 0)) 30 (upd ((va_up (va_up g 25 (upd (g 25) 0 0)) 29 (upd ((va_up g 25 (upd (g 25) 0 0)) 29) 0 0)) 30) 0 0)) 31) 0 0) 1 0)) (F := (upd (upd (upd ((va_up (va_up (va_up g 25 (upd (g 25) 0 0)) 29 (upd ((va_up g 25 (upd (g 25) 0 0)) 29) 0 0)) 30 (upd ((va_up (va_up g 25 (upd (g 25) 0 0)) 29 (upd ((va_up g 25 (upd (g 25) 0 0)) 29) 0 0)) 30) 0 0)) 31) 0 0) 1 0) 2 0)) C dX9_clear_34 (by omega) rfl rfl rfl ?_
  refine j_aload_n (i := 0) C dX9_clear_35 rfl 1 rfl ?_
  refine g_22_counts C dX9_clear_36 lf_X9_24 ?_
  refine j_iload_n (i := 1) C dX9_clear_39 rfl 0 rfl ?_
  refine j_iconst (x := 0) C dX9_clear_40 (by decide) ?_
  refine asn_40 (q := 2) (F2 := (upd (upd ((va_up (va_up (va_up (va_up g 25 (upd (g 25) 0 0)) 29 (upd ((va_up g 25 (upd (g 25) 0 0)) 29) 0 0)) 30 (upd ((va_up (va_up g 25 (upd (g 25) 0 0)) 29 (upd ((va_up g 25 (upd (g 25) 0 0)) 29) 0 0)) 30) 0 0)) 31 (upd ((va_up (va_up (va_up g 25 (upd (g 25) 0 0)) 29 (upd ((va_up g 25 (upd (g 25) 0 0)) 29) 0 0)) 30 (upd ((va_up (va_up g 25 (upd (g 25) 0 0)) 29 (upd ((va_up g 25 (upd (g 25) 0 0)) 29) 0 0)) 30) 0 0)) 31) 0 0)) 40) 0 0) 1 0)) (F := (upd (upd (upd ((va_up (va_up (va_up (va_up g 25 (upd (g 25) 0 0)) 29 (upd ((va_up g 25 (upd (g 25) 0 0)) 29) 0 0)) 30 (upd ((va_up (va_up g 25 (upd (g 25) 0 0)) 29 (upd ((va_up g 25 (upd (g 25) 0 0)) 29) 0 0)) 30) 0 0)) 31 (upd ((va_up (va_up (va_up g 25 (upd (g 25) 0 0)) 29 (upd ((va_up g 25 (upd (g 25) 0 0)) 29) 0 0)) 30 (upd ((va_up (va_up g 25 (upd (g 25) 0 0)) 29 (upd ((va_up g 25 (upd (g 25) 0 0)) 29) 0 0)) 30) 0 0)) 31) 0 0)) 40) 0 0) 1 0) 2 0)) C dX9_clear_41 (by omega) rfl rfl rfl ?_
  refine j_aload_n (i := 0) C dX9_clear_42 rfl 1 rfl ?_
  refine g_22_saws C dX9_clear_43 lf_X9_27 ?_
  refine j_iload_n (i := 1) C dX9_clear_46 rfl 0 rfl ?_
  refine j_iconst (x := 0) C dX9_clear_47 (by decide) ?_
  refine asn_41 (q := 2) (F2 := (upd (upd ((va_up (va_up (va_up (va_up (va_up g 25 (upd (g 25) 0 0)) 29 (upd ((va_up g 25 (upd (g 25) 0 0)) 29) 0 0)) 30 (upd ((va_up (va_up g 25 (upd (g 25) 0 0)) 29 (upd ((va_up g 25 (upd (g 25) 0 0)) 29) 0 0)) 30) 0 0)) 31 (upd ((va_up (va_up (va_up g 25 (upd (g 25) 0 0)) 29 (upd ((va_up g 25 (upd (g 25) 0 0)) 29) 0 0)) 30 (upd ((va_up (va_up g 25 (upd (g 25) 0 0)) 29 (upd ((va_up g 25 (upd (g 25) 0 0)) 29) 0 0)) 30) 0 0)) 31) 0 0)) 40 (upd ((va_up (va_up (va_up (va_up g 25 (upd (g 25) 0 0)) 29 (upd ((va_up g 25 (upd (g 25) 0 0)) 29) 0 0)) 30 (upd ((va_up (va_up g 25 (upd (g 25) 0 0)) 29 (upd ((va_up g 25 (upd (g 25) 0 0)) 29) 0 0)) 30) 0 0)) 31 (upd ((va_up (va_up (va_up g 25 (upd (g 25) 0 0)) 29 (upd ((va_up g 25 (upd (g 25) 0 0)) 29) 0 0)) 30 (upd ((va_up (va_up g 25 (upd (g 25) 0 0)) 29 (upd ((va_up g 25 (upd (g 25) 0 0)) 29) 0 0)) 30) 0 0)) 31) 0 0)) 40) 0 0)) 41) 0 0) 1 0)) (F := (upd (upd (upd ((va_up (va_up (va_up (va_up (va_up g 25 (upd (g 25) 0 0)) 29 (upd ((va_up g 25 (upd (g 25) 0 0)) 29) 0 0)) 30 (upd ((va_up (va_up g 25 (upd (g 25) 0 0)) 29 (upd ((va_up g 25 (upd (g 25) 0 0)) 29) 0 0)) 30) 0 0)) 31 (upd ((va_up (va_up (va_up g 25 (upd (g 25) 0 0)) 29 (upd ((va_up g 25 (upd (g 25) 0 0)) 29) 0 0)) 30 (upd ((va_up (va_up g 25 (upd (g 25) 0 0)) 29 (upd ((va_up g 25 (upd (g 25) 0 0)) 29) 0 0)) 30) 0 0)) 31) 0 0)) 40 (upd ((va_up (va_up (va_up (va_up g 25 (upd (g 25) 0 0)) 29 (upd ((va_up g 25 (upd (g 25) 0 0)) 29) 0 0)) 30 (upd ((va_up (va_up g 25 (upd (g 25) 0 0)) 29 (upd ((va_up g 25 (upd (g 25) 0 0)) 29) 0 0)) 30) 0 0)) 31 (upd ((va_up (va_up (va_up g 25 (upd (g 25) 0 0)) 29 (upd ((va_up g 25 (upd (g 25) 0 0)) 29) 0 0)) 30 (upd ((va_up (va_up g 25 (upd (g 25) 0 0)) 29 (upd ((va_up g 25 (upd (g 25) 0 0)) 29) 0 0)) 30) 0 0)) 31) 0 0)) 40) 0 0)) 41) 0 0) 1 0) 2 0)) C dX9_clear_48 (by omega) rfl rfl rfl ?_
  refine j_aload_n (i := 0) C dX9_clear_49 rfl 1 rfl ?_
  refine g_22_written C dX9_clear_50 lf_X9_30 ?_
  refine j_iload_n (i := 1) C dX9_clear_53 rfl 0 rfl ?_
  refine j_iconst (x := (-1)) C dX9_clear_54 (by decide) ?_
  refine asn_42 (q := 2) (F2 := (upd (upd ((va_up (va_up (va_up (va_up (va_up (va_up g 25 (upd (g 25) 0 0)) 29 (upd ((va_up g 25 (upd (g 25) 0 0)) 29) 0 0)) 30 (upd ((va_up (va_up g 25 (upd (g 25) 0 0)) 29 (upd ((va_up g 25 (upd (g 25) 0 0)) 29) 0 0)) 30) 0 0)) 31 (upd ((va_up (va_up (va_up g 25 (upd (g 25) 0 0)) 29 (upd ((va_up g 25 (upd (g 25) 0 0)) 29) 0 0)) 30 (upd ((va_up (va_up g 25 (upd (g 25) 0 0)) 29 (upd ((va_up g 25 (upd (g 25) 0 0)) 29) 0 0)) 30) 0 0)) 31) 0 0)) 40 (upd ((va_up (va_up (va_up (va_up g 25 (upd (g 25) 0 0)) 29 (upd ((va_up g 25 (upd (g 25) 0 0)) 29) 0 0)) 30 (upd ((va_up (va_up g 25 (upd (g 25) 0 0)) 29 (upd ((va_up g 25 (upd (g 25) 0 0)) 29) 0 0)) 30) 0 0)) 31 (upd ((va_up (va_up (va_up g 25 (upd (g 25) 0 0)) 29 (upd ((va_up g 25 (upd (g 25) 0 0)) 29) 0 0)) 30 (upd ((va_up (va_up g 25 (upd (g 25) 0 0)) 29 (upd ((va_up g 25 (upd (g 25) 0 0)) 29) 0 0)) 30) 0 0)) 31) 0 0)) 40) 0 0)) 41 (upd ((va_up (va_up (va_up (va_up (va_up g 25 (upd (g 25) 0 0)) 29 (upd ((va_up g 25 (upd (g 25) 0 0)) 29) 0 0)) 30 (upd ((va_up (va_up g 25 (upd (g 25) 0 0)) 29 (upd ((va_up g 25 (upd (g 25) 0 0)) 29) 0 0)) 30) 0 0)) 31 (upd ((va_up (va_up (va_up g 25 (upd (g 25) 0 0)) 29 (upd ((va_up g 25 (upd (g 25) 0 0)) 29) 0 0)) 30 (upd ((va_up (va_up g 25 (upd (g 25) 0 0)) 29 (upd ((va_up g 25 (upd (g 25) 0 0)) 29) 0 0)) 30) 0 0)) 31) 0 0)) 40 (upd ((va_up (va_up (va_up (va_up g 25 (upd (g 25) 0 0)) 29 (upd ((va_up g 25 (upd (g 25) 0 0)) 29) 0 0)) 30 (upd ((va_up (va_up g 25 (upd (g 25) 0 0)) 29 (upd ((va_up g 25 (upd (g 25) 0 0)) 29) 0 0)) 30) 0 0)) 31 (upd ((va_up (va_up (va_up g 25 (upd (g 25) 0 0)) 29 (upd ((va_up g 25 (upd (g 25) 0 0)) 29) 0 0)) 30 (upd ((va_up (va_up g 25 (upd (g 25) 0 0)) 29 (upd ((va_up g 25 (upd (g 25) 0 0)) 29) 0 0)) 30) 0 0)) 31) 0 0)) 40) 0 0)) 41) 0 0)) 42) 0 (-1)) 1 (-1))) (F := (upd (upd (upd ((va_up (va_up (va_up (va_up (va_up (va_up g 25 (upd (g 25) 0 0)) 29 (upd ((va_up g 25 (upd (g 25) 0 0)) 29) 0 0)) 30 (upd ((va_up (va_up g 25 (upd (g 25) 0 0)) 29 (upd ((va_up g 25 (upd (g 25) 0 0)) 29) 0 0)) 30) 0 0)) 31 (upd ((va_up (va_up (va_up g 25 (upd (g 25) 0 0)) 29 (upd ((va_up g 25 (upd (g 25) 0 0)) 29) 0 0)) 30 (upd ((va_up (va_up g 25 (upd (g 25) 0 0)) 29 (upd ((va_up g 25 (upd (g 25) 0 0)) 29) 0 0)) 30) 0 0)) 31) 0 0)) 40 (upd ((va_up (va_up (va_up (va_up g 25 (upd (g 25) 0 0)) 29 (upd ((va_up g 25 (upd (g 25) 0 0)) 29) 0 0)) 30 (upd ((va_up (va_up g 25 (upd (g 25) 0 0)) 29 (upd ((va_up g 25 (upd (g 25) 0 0)) 29) 0 0)) 30) 0 0)) 31 (upd ((va_up (va_up (va_up g 25 (upd (g 25) 0 0)) 29 (upd ((va_up g 25 (upd (g 25) 0 0)) 29) 0 0)) 30 (upd ((va_up (va_up g 25 (upd (g 25) 0 0)) 29 (upd ((va_up g 25 (upd (g 25) 0 0)) 29) 0 0)) 30) 0 0)) 31) 0 0)) 40) 0 0)) 41 (upd ((va_up (va_up (va_up (va_up (va_up g 25 (upd (g 25) 0 0)) 29 (upd ((va_up g 25 (upd (g 25) 0 0)) 29) 0 0)) 30 (upd ((va_up (va_up g 25 (upd (g 25) 0 0)) 29 (upd ((va_up g 25 (upd (g 25) 0 0)) 29) 0 0)) 30) 0 0)) 31 (upd ((va_up (va_up (va_up g 25 (upd (g 25) 0 0)) 29 (upd ((va_up g 25 (upd (g 25) 0 0)) 29) 0 0)) 30 (upd ((va_up (va_up g 25 (upd (g 25) 0 0)) 29 (upd ((va_up g 25 (upd (g 25) 0 0)) 29) 0 0)) 30) 0 0)) 31) 0 0)) 40 (upd ((va_up (va_up (va_up (va_up g 25 (upd (g 25) 0 0)) 29 (upd ((va_up g 25 (upd (g 25) 0 0)) 29) 0 0)) 30 (upd ((va_up (va_up g 25 (upd (g 25) 0 0)) 29 (upd ((va_up g 25 (upd (g 25) 0 0)) 29) 0 0)) 30) 0 0)) 31 (upd ((va_up (va_up (va_up g 25 (upd (g 25) 0 0)) 29 (upd ((va_up g 25 (upd (g 25) 0 0)) 29) 0 0)) 30 (upd ((va_up (va_up g 25 (upd (g 25) 0 0)) 29 (upd ((va_up g 25 (upd (g 25) 0 0)) 29) 0 0)) 30) 0 0)) 31) 0 0)) 40) 0 0)) 41) 0 0)) 42) 0 (-1)) 1 (-1)) 2 (-1))) C dX9_clear_55 (by omega) rfl rfl rfl ?_
  refine j_iinc (y := 3) (lv' := [(1, .int 3), (0, .ref (ad 22))]) C dX9_clear_56 0 rfl (by decide) (by decide) rfl ?_
  refine j_goto (tgt := 2) C dX9_clear_59 (by decide) ?_
  refine j_iload_n (i := 1) C dX9_clear_2 rfl 0 rfl ?_
  refine j_iconst (x := 3) C dX9_clear_3 (by decide) ?_
  refine j_icmp_ge (tgt := 62) C dX9_clear_4 (by decide) (fun _ => ?_) (fun c9 => absurd c9 (by decide))
  refine j_iconst (x := 0) C dX9_clear_62 (by decide) ?_
  refine j_istore_n (i := 1) (lv' := [(1, .int 0), (0, .ref (ad 22))]) C dX9_clear_63 rfl (by decide) rfl ?_
  have hx1 : JW κ 0 0 (WD ε ad v f u (L_X9_clear u g 24)) 90 [(1, .int (nI 24)), (0, .ref (ad 22))] [] := by
    have hs : S_X9_clear u g = (L_X9_clear u g 24) := by unfold S_X9_clear; rfl
    exact j_vret C hQ rfl dX9_clear_90 (dt_nfM hs)
  have lp1 : ∀ d1 i1 : Nat, i1 + d1 = 24 → JW κ 0 0 (WD ε ad v f u (L_X9_clear u g i1)) 64 [(1, .int (nI i1)), (0, .ref (ad 22))] [] := by
    intro d1
    induction d1 with
    | zero =>
      intro i1 hi
      have e9 : i1 = 24 := by omega
      rw [e9]
      have lf1 : 24 ≤ (nI 24) := Int32.le_refl _
      refine j_iload_n (i := 1) C dX9_clear_64 rfl 0 rfl ?_
      refine j_bipush (x := 24) C dX9_clear_65 (by decide) ?_
      refine j_icmp_ge (tgt := 90) C dX9_clear_67 (by decide) (fun _ => ?_) (fun c9 => absurd lf1 c9)
      exact hx1
    | succ d1 ih1 =>
      intro i1 hi
      have hlt1 : i1 < 24 := by omega
      have lf1 : ¬ 24 ≤ (nI i1) := nI_ge (b := 24) hlt1 (by decide)
      refine j_iload_n (i := 1) C dX9_clear_64 rfl 0 rfl ?_
      refine j_bipush (x := 24) C dX9_clear_65 (by decide) ?_
      refine j_icmp_ge (tgt := 90) C dX9_clear_67 (by decide) (fun c9 => absurd c9 lf1) (fun _ => ?_)
      refine j_aload_n (i := 0) C dX9_clear_70 rfl 1 rfl ?_
      refine g_22_lent C dX9_clear_71 lf_X9_33 ?_
      refine j_iload_n (i := 1) C dX9_clear_74 rfl 0 rfl ?_
      refine j_iconst (x := 0) C dX9_clear_75 (by decide) ?_
      refine asn_38 (q := i1) (F2 := ((L_X9_clear u g i1) 38)) (F := (upd ((L_X9_clear u g i1) 38) i1 (vp_nar .boolean 0))) C dX9_clear_76 (by omega) rfl rfl rfl ?_
      refine j_aload_n (i := 0) C dX9_clear_77 rfl 1 rfl ?_
      refine g_22_heads C dX9_clear_78 lf_X9_37 ?_
      refine j_iload_n (i := 1) C dX9_clear_81 rfl 0 rfl ?_
      refine j_iconst (x := (-1)) C dX9_clear_82 (by decide) ?_
      refine asn_39 (q := i1) (F2 := ((va_up (L_X9_clear u g i1) 38 (upd ((L_X9_clear u g i1) 38) i1 (vp_nar .boolean 0))) 39)) (F := (upd ((va_up (L_X9_clear u g i1) 38 (upd ((L_X9_clear u g i1) 38) i1 (vp_nar .boolean 0))) 39) i1 (-1))) C dX9_clear_83 (by omega) rfl rfl rfl ?_
      refine j_iinc (y := (nI (i1 + 1))) (lv' := [(1, .int (nI (i1 + 1))), (0, .ref (ad 22))]) C dX9_clear_84 0 rfl (nI_1 _) (by decide) rfl ?_
      refine j_goto (tgt := 64) C dX9_clear_87 (by decide) ?_
      refine j_lv (lv' := [(1, .int (nI (i1 + 1))), (0, .ref (ad 22))]) [0, 1] rfl ?_
      have e8 := ih1 (i1 + 1) (by omega)
      rw [L_X9_clear] at e8
      try dsimp only at e8
      exact e8
  have e7 := lp1 24 0 (by omega)
  rw [L_X9_clear] at e7
  try dsimp only at e7
  exact e7

def L_X9_start (u : Nat → Int32) (g : Nat → Nat → Int32) (a : Int32) : Nat → (Nat → Nat → Int32)
  | 0 => (S_X9_clear u g)
  | i1 + 1 =>
    (va_up (L_X9_start u g a i1) 23 (upd ((L_X9_start u g a i1) 23) i1 (vp_nar .byte 0)))
def S_X9_start (u : Nat → Int32) (g : Nat → Nat → Int32) (a : Int32) : Int32 × (Nat → Int32) × (Nat → Nat → Int32) :=
  (0, (upd (upd (upd u 1 a) 2 1) 0 1), (va_up (va_up (va_up (va_up (va_up (va_up (va_up (va_up (va_up (va_up (va_up (va_up (L_X9_start u g a 4096) 25 (upd ((L_X9_start u g a 4096) 25) 0 8)) 26 (upd ((va_up (L_X9_start u g a 4096) 25 (upd ((L_X9_start u g a 4096) 25) 0 8)) 26) 0 (256 * 0))) 27 (upd ((va_up (va_up (L_X9_start u g a 4096) 25 (upd ((L_X9_start u g a 4096) 25) 0 8)) 26 (upd ((va_up (L_X9_start u g a 4096) 25 (upd ((L_X9_start u g a 4096) 25) 0 8)) 26) 0 (256 * 0))) 27) 0 ((256 * 0) + 128))) 28 (upd ((va_up (va_up (va_up (L_X9_start u g a 4096) 25 (upd ((L_X9_start u g a 4096) 25) 0 8)) 26 (upd ((va_up (L_X9_start u g a 4096) 25 (upd ((L_X9_start u g a 4096) 25) 0 8)) 26) 0 (256 * 0))) 27 (upd ((va_up (va_up (L_X9_start u g a 4096) 25 (upd ((L_X9_start u g a 4096) 25) 0 8)) 26 (upd ((va_up (L_X9_start u g a 4096) 25 (upd ((L_X9_start u g a 4096) 25) 0 8)) 26) 0 (256 * 0))) 27) 0 ((256 * 0) + 128))) 28) 0 ((256 * 0) + 152))) 25 (upd (upd ((L_X9_start u g a 4096) 25) 0 8) 1 8)) 26 (upd (upd ((va_up (L_X9_start u g a 4096) 25 (upd ((L_X9_start u g a 4096) 25) 0 8)) 26) 0 (256 * 0)) 1 (256 * 1))) 27 (upd (upd ((va_up (va_up (L_X9_start u g a 4096) 25 (upd ((L_X9_start u g a 4096) 25) 0 8)) 26 (upd ((va_up (L_X9_start u g a 4096) 25 (upd ((L_X9_start u g a 4096) 25) 0 8)) 26) 0 (256 * 0))) 27) 0 ((256 * 0) + 128)) 1 ((256 * 1) + 128))) 28 (upd (upd ((va_up (va_up (va_up (L_X9_start u g a 4096) 25 (upd ((L_X9_start u g a 4096) 25) 0 8)) 26 (upd ((va_up (L_X9_start u g a 4096) 25 (upd ((L_X9_start u g a 4096) 25) 0 8)) 26) 0 (256 * 0))) 27 (upd ((va_up (va_up (L_X9_start u g a 4096) 25 (upd ((L_X9_start u g a 4096) 25) 0 8)) 26 (upd ((va_up (L_X9_start u g a 4096) 25 (upd ((L_X9_start u g a 4096) 25) 0 8)) 26) 0 (256 * 0))) 27) 0 ((256 * 0) + 128))) 28) 0 ((256 * 0) + 152)) 1 ((256 * 1) + 152))) 25 (upd (upd (upd ((L_X9_start u g a 4096) 25) 0 8) 1 8) 2 8)) 26 (upd (upd (upd ((va_up (L_X9_start u g a 4096) 25 (upd ((L_X9_start u g a 4096) 25) 0 8)) 26) 0 (256 * 0)) 1 (256 * 1)) 2 (256 * 2))) 27 (upd (upd (upd ((va_up (va_up (L_X9_start u g a 4096) 25 (upd ((L_X9_start u g a 4096) 25) 0 8)) 26 (upd ((va_up (L_X9_start u g a 4096) 25 (upd ((L_X9_start u g a 4096) 25) 0 8)) 26) 0 (256 * 0))) 27) 0 ((256 * 0) + 128)) 1 ((256 * 1) + 128)) 2 ((256 * 2) + 128))) 28 (upd (upd (upd ((va_up (va_up (va_up (L_X9_start u g a 4096) 25 (upd ((L_X9_start u g a 4096) 25) 0 8)) 26 (upd ((va_up (L_X9_start u g a 4096) 25 (upd ((L_X9_start u g a 4096) 25) 0 8)) 26) 0 (256 * 0))) 27 (upd ((va_up (va_up (L_X9_start u g a 4096) 25 (upd ((L_X9_start u g a 4096) 25) 0 8)) 26 (upd ((va_up (L_X9_start u g a 4096) 25 (upd ((L_X9_start u g a 4096) 25) 0 8)) 26) 0 (256 * 0))) 27) 0 ((256 * 0) + 128))) 28) 0 ((256 * 0) + 152)) 1 ((256 * 1) + 152)) 2 ((256 * 2) + 152))))
set_option maxHeartbeats 1000000 in
set_option maxRecDepth 100000 in
theorem c_X9_start (ε : ET) (ad : Nat → Nat) (v : Nat → Int32) (f : Nat → Nat → Int32) (u : Nat → Int32) (g : Nat → Nat → Int32) (a : Int32) (hb : a = 0 ∨ a = 1) : CT ε yX9_start cX9_start 3 (some .int) 1 21 0 0 [.ref (ad 22), .int a] (WD ε ad v f u g) (DT (some (.int ((S_X9_start u g a).1))) (WD ε ad v f ((S_X9_start u g a).2.1) ((S_X9_start u g a).2.2))) := by
  refine CT.of (own := RX9) (by decide) rfl (Nat.le_of_ble_eq_true rfl) (fun κ C hQ => ?_)
  refine j_aload_n (i := 0) C dX9_start_0 rfl 0 rfl ?_
  refine c_V (As := []) (rest := []) (st1 := []) C (c_X9_clear ε ad v f u g   ) mv_X9_clear lm_X9_76 dX9_start_1 22 wl_22 rfl rfl rfl (by decide) (Nat.le_of_ble_eq_true rfl) rfl ?_
  refine j_iconst (x := 0) C dX9_start_4 (by decide) ?_
  refine j_istore_n (i := 2) (lv' := [(2, .int 0), (0, .ref (ad 22)), (1, .int a)]) C dX9_start_5 rfl (by decide) rfl ?_
  have hx1 : JW κ 0 0 (WD ε ad v f u (L_X9_start u g a 4096)) 26 [(2, .int (nI 4096)), (0, .ref (ad 22)), (1, .int a)] [] := by
    refine j_aload_n (i := 0) C dX9_start_26 rfl 1 rfl ?_
    refine j_iload_n (i := 1) C dX9_start_27 rfl 2 rfl ?_
    refine p_22_tables C dX9_start_28 lf_X9_79 hb ?_
    refine j_aload_n (i := 0) C dX9_start_31 rfl 1 rfl ?_
    refine j_iconst (x := 1) C dX9_start_32 (by decide) ?_
    refine p_22_started C dX9_start_33 lf_X9_83 (Or.inr rfl) ?_
    refine j_iconst (x := 0) C dX9_start_36 (by decide) ?_
    refine j_istore_n (i := 2) (lv' := [(2, .int 0), (0, .ref (ad 22)), (1, .int a)]) C dX9_start_37 rfl (by decide) rfl ?_
    refine j_iload_n (i := 2) C dX9_start_38 rfl 0 rfl ?_
    refine j_iconst (x := 3) C dX9_start_39 (by decide) ?_
    refine j_icmp_ge (tgt := 98) C dX9_start_40 (by decide) (fun c9 => absurd c9 (by decide)) (fun _ => ?_)
    refine j_aload_n (i := 0) C dX9_start_43 rfl 1 rfl ?_
    refine g_22_sizes C dX9_start_44 lf_X9_11 ?_
    refine j_iload_n (i := 2) C dX9_start_47 rfl 0 rfl ?_
    refine j_bipush (x := 8) C dX9_start_48 (by decide) ?_
    refine asn_25 (q := 0) (F2 := ((L_X9_start u g a 4096) 25)) (F := (upd ((L_X9_start u g a 4096) 25) 0 8)) C dX9_start_50 (by omega) rfl rfl rfl ?_
    refine j_aload_n (i := 0) C dX9_start_51 rfl 1 rfl ?_
    refine g_22_descriptors C dX9_start_52 lf_X9_49 ?_
    refine j_iload_n (i := 2) C dX9_start_55 rfl 0 rfl ?_
    refine j_sipush (x := 256) C dX9_start_56 (by decide) ?_
    refine j_iload_n (i := 2) C dX9_start_59 rfl 0 rfl ?_
    refine j_imul C dX9_start_60 ?_
    refine asn_26 (q := 0) (F2 := ((va_up (L_X9_start u g a 4096) 25 (upd ((L_X9_start u g a 4096) 25) 0 8)) 26)) (F := (upd ((va_up (L_X9_start u g a 4096) 25 (upd ((L_X9_start u g a 4096) 25) 0 8)) 26) 0 (256 * 0))) C dX9_start_61 (by omega) rfl rfl rfl ?_
    refine j_aload_n (i := 0) C dX9_start_62 rfl 1 rfl ?_
    refine g_22_availables C dX9_start_63 lf_X9_52 ?_
    refine j_iload_n (i := 2) C dX9_start_66 rfl 0 rfl ?_
    refine j_sipush (x := 256) C dX9_start_67 (by decide) ?_
    refine j_iload_n (i := 2) C dX9_start_70 rfl 0 rfl ?_
    refine j_imul C dX9_start_71 ?_
    refine j_sipush (x := 128) C dX9_start_72 (by decide) ?_
    refine j_iadd C dX9_start_75 ?_
    refine asn_27 (q := 0) (F2 := ((va_up (va_up (L_X9_start u g a 4096) 25 (upd ((L_X9_start u g a 4096) 25) 0 8)) 26 (upd ((va_up (L_X9_start u g a 4096) 25 (upd ((L_X9_start u g a 4096) 25) 0 8)) 26) 0 (256 * 0))) 27)) (F := (upd ((va_up (va_up (L_X9_start u g a 4096) 25 (upd ((L_X9_start u g a 4096) 25) 0 8)) 26 (upd ((va_up (L_X9_start u g a 4096) 25 (upd ((L_X9_start u g a 4096) 25) 0 8)) 26) 0 (256 * 0))) 27) 0 ((256 * 0) + 128))) C dX9_start_76 (by omega) rfl rfl rfl ?_
    refine j_aload_n (i := 0) C dX9_start_77 rfl 1 rfl ?_
    refine g_22_useds C dX9_start_78 lf_X9_55 ?_
    refine j_iload_n (i := 2) C dX9_start_81 rfl 0 rfl ?_
    refine j_sipush (x := 256) C dX9_start_82 (by decide) ?_
    refine j_iload_n (i := 2) C dX9_start_85 rfl 0 rfl ?_
    refine j_imul C dX9_start_86 ?_
    refine j_sipush (x := 152) C dX9_start_87 (by decide) ?_
    refine j_iadd C dX9_start_90 ?_
    refine asn_28 (q := 0) (F2 := ((va_up (va_up (va_up (L_X9_start u g a 4096) 25 (upd ((L_X9_start u g a 4096) 25) 0 8)) 26 (upd ((va_up (L_X9_start u g a 4096) 25 (upd ((L_X9_start u g a 4096) 25) 0 8)) 26) 0 (256 * 0))) 27 (upd ((va_up (va_up (L_X9_start u g a 4096) 25 (upd ((L_X9_start u g a 4096) 25) 0 8)) 26 (upd ((va_up (L_X9_start u g a 4096) 25 (upd ((L_X9_start u g a 4096) 25) 0 8)) 26) 0 (256 * 0))) 27) 0 ((256 * 0) + 128))) 28)) (F := (upd ((va_up (va_up (va_up (L_X9_start u g a 4096) 25 (upd ((L_X9_start u g a 4096) 25) 0 8)) 26 (upd ((va_up (L_X9_start u g a 4096) 25 (upd ((L_X9_start u g a 4096) 25) 0 8)) 26) 0 (256 * 0))) 27 (upd ((va_up (va_up (L_X9_start u g a 4096) 25 (upd ((L_X9_start u g a 4096) 25) 0 8)) 26 (upd ((va_up (L_X9_start u g a 4096) 25 (upd ((L_X9_start u g a 4096) 25) 0 8)) 26) 0 (256 * 0))) 27) 0 ((256 * 0) + 128))) 28) 0 ((256 * 0) + 152))) C dX9_start_91 (by omega) rfl rfl rfl ?_
    refine j_iinc (y := 1) (lv' := [(2, .int 1), (0, .ref (ad 22)), (1, .int a)]) C dX9_start_92 0 rfl (by decide) (by decide) rfl ?_
    refine j_goto (tgt := 38) C dX9_start_95 (by decide) ?_
    refine j_iload_n (i := 2) C dX9_start_38 rfl 0 rfl ?_
    refine j_iconst (x := 3) C dX9_start_39 (by decide) ?_
    refine j_icmp_ge (tgt := 98) C dX9_start_40 (by decide) (fun c9 => absurd c9 (by decide)) (fun _ => ?_)
    refine j_aload_n (i := 0) C dX9_start_43 rfl 1 rfl ?_
    refine g_22_sizes C dX9_start_44 lf_X9_11 ?_
    refine j_iload_n (i := 2) C dX9_start_47 rfl 0 rfl ?_
    refine j_bipush (x := 8) C dX9_start_48 (by decide) ?_
    refine asn_25 (q := 1) (F2 := (upd ((L_X9_start u g a 4096) 25) 0 8)) (F := (upd (upd ((L_X9_start u g a 4096) 25) 0 8) 1 8)) C dX9_start_50 (by omega) rfl rfl rfl ?_
    refine j_aload_n (i := 0) C dX9_start_51 rfl 1 rfl ?_
    refine g_22_descriptors C dX9_start_52 lf_X9_49 ?_
    refine j_iload_n (i := 2) C dX9_start_55 rfl 0 rfl ?_
    refine j_sipush (x := 256) C dX9_start_56 (by decide) ?_
    refine j_iload_n (i := 2) C dX9_start_59 rfl 0 rfl ?_
    refine j_imul C dX9_start_60 ?_
    refine asn_26 (q := 1) (F2 := (upd ((va_up (L_X9_start u g a 4096) 25 (upd ((L_X9_start u g a 4096) 25) 0 8)) 26) 0 (256 * 0))) (F := (upd (upd ((va_up (L_X9_start u g a 4096) 25 (upd ((L_X9_start u g a 4096) 25) 0 8)) 26) 0 (256 * 0)) 1 (256 * 1))) C dX9_start_61 (by omega) rfl rfl rfl ?_
    refine j_aload_n (i := 0) C dX9_start_62 rfl 1 rfl ?_
    refine g_22_availables C dX9_start_63 lf_X9_52 ?_
    refine j_iload_n (i := 2) C dX9_start_66 rfl 0 rfl ?_
    refine j_sipush (x := 256) C dX9_start_67 (by decide) ?_
    refine j_iload_n (i := 2) C dX9_start_70 rfl 0 rfl ?_
    refine j_imul C dX9_start_71 ?_
    refine j_sipush (x := 128) C dX9_start_72 (by decide) ?_
    refine j_iadd C dX9_start_75 ?_
    refine asn_27 (q := 1) (F2 := (upd ((va_up (va_up (L_X9_start u g a 4096) 25 (upd ((L_X9_start u g a 4096) 25) 0 8)) 26 (upd ((va_up (L_X9_start u g a 4096) 25 (upd ((L_X9_start u g a 4096) 25) 0 8)) 26) 0 (256 * 0))) 27) 0 ((256 * 0) + 128))) (F := (upd (upd ((va_up (va_up (L_X9_start u g a 4096) 25 (upd ((L_X9_start u g a 4096) 25) 0 8)) 26 (upd ((va_up (L_X9_start u g a 4096) 25 (upd ((L_X9_start u g a 4096) 25) 0 8)) 26) 0 (256 * 0))) 27) 0 ((256 * 0) + 128)) 1 ((256 * 1) + 128))) C dX9_start_76 (by omega) rfl rfl rfl ?_
    refine j_aload_n (i := 0) C dX9_start_77 rfl 1 rfl ?_
    refine g_22_useds C dX9_start_78 lf_X9_55 ?_
    refine j_iload_n (i := 2) C dX9_start_81 rfl 0 rfl ?_
    refine j_sipush (x := 256) C dX9_start_82 (by decide) ?_
    refine j_iload_n (i := 2) C dX9_start_85 rfl 0 rfl ?_
    refine j_imul C dX9_start_86 ?_
    refine j_sipush (x := 152) C dX9_start_87 (by decide) ?_
    refine j_iadd C dX9_start_90 ?_
    refine asn_28 (q := 1) (F2 := (upd ((va_up (va_up (va_up (L_X9_start u g a 4096) 25 (upd ((L_X9_start u g a 4096) 25) 0 8)) 26 (upd ((va_up (L_X9_start u g a 4096) 25 (upd ((L_X9_start u g a 4096) 25) 0 8)) 26) 0 (256 * 0))) 27 (upd ((va_up (va_up (L_X9_start u g a 4096) 25 (upd ((L_X9_start u g a 4096) 25) 0 8)) 26 (upd ((va_up (L_X9_start u g a 4096) 25 (upd ((L_X9_start u g a 4096) 25) 0 8)) 26) 0 (256 * 0))) 27) 0 ((256 * 0) + 128))) 28) 0 ((256 * 0) + 152))) (F := (upd (upd ((va_up (va_up (va_up (L_X9_start u g a 4096) 25 (upd ((L_X9_start u g a 4096) 25) 0 8)) 26 (upd ((va_up (L_X9_start u g a 4096) 25 (upd ((L_X9_start u g a 4096) 25) 0 8)) 26) 0 (256 * 0))) 27 (upd ((va_up (va_up (L_X9_start u g a 4096) 25 (upd ((L_X9_start u g a 4096) 25) 0 8)) 26 (upd ((va_up (L_X9_start u g a 4096) 25 (upd ((L_X9_start u g a 4096) 25) 0 8)) 26) 0 (256 * 0))) 27) 0 ((256 * 0) + 128))) 28) 0 ((256 * 0) + 152)) 1 ((256 * 1) + 152))) C dX9_start_91 (by omega) rfl rfl rfl ?_
    refine j_iinc (y := 2) (lv' := [(2, .int 2), (0, .ref (ad 22)), (1, .int a)]) C dX9_start_92 0 rfl (by decide) (by decide) rfl ?_
    refine j_goto (tgt := 38) C dX9_start_95 (by decide) ?_
    refine j_iload_n (i := 2) C dX9_start_38 rfl 0 rfl ?_
    refine j_iconst (x := 3) C dX9_start_39 (by decide) ?_
    refine j_icmp_ge (tgt := 98) C dX9_start_40 (by decide) (fun c9 => absurd c9 (by decide)) (fun _ => ?_)
    refine j_aload_n (i := 0) C dX9_start_43 rfl 1 rfl ?_
    refine g_22_sizes C dX9_start_44 lf_X9_11 ?_
    refine j_iload_n (i := 2) C dX9_start_47 rfl 0 rfl ?_
    refine j_bipush (x := 8) C dX9_start_48 (by decide) ?_
    refine asn_25 (q := 2) (F2 := (upd (upd ((L_X9_start u g a 4096) 25) 0 8) 1 8)) (F := (upd (upd (upd ((L_X9_start u g a 4096) 25) 0 8) 1 8) 2 8)) C dX9_start_50 (by omega) rfl rfl rfl ?_
    refine j_aload_n (i := 0) C dX9_start_51 rfl 1 rfl ?_
    refine g_22_descriptors C dX9_start_52 lf_X9_49 ?_
    refine j_iload_n (i := 2) C dX9_start_55 rfl 0 rfl ?_
    refine j_sipush (x := 256) C dX9_start_56 (by decide) ?_
    refine j_iload_n (i := 2) C dX9_start_59 rfl 0 rfl ?_
    refine j_imul C dX9_start_60 ?_
    refine asn_26 (q := 2) (F2 := (upd (upd ((va_up (L_X9_start u g a 4096) 25 (upd ((L_X9_start u g a 4096) 25) 0 8)) 26) 0 (256 * 0)) 1 (256 * 1))) (F := (upd (upd (upd ((va_up (L_X9_start u g a 4096) 25 (upd ((L_X9_start u g a 4096) 25) 0 8)) 26) 0 (256 * 0)) 1 (256 * 1)) 2 (256 * 2))) C dX9_start_61 (by omega) rfl rfl rfl ?_
    refine j_aload_n (i := 0) C dX9_start_62 rfl 1 rfl ?_
    refine g_22_availables C dX9_start_63 lf_X9_52 ?_
    refine j_iload_n (i := 2) C dX9_start_66 rfl 0 rfl ?_
    refine j_sipush (x := 256) C dX9_start_67 (by decide) ?_
    refine j_iload_n (i := 2) C dX9_start_70 rfl 0 rfl ?_
    refine j_imul C dX9_start_71 ?_
    refine j_sipush (x := 128) C dX9_start_72 (by decide) ?_
    refine j_iadd C dX9_start_75 ?_
    refine asn_27 (q := 2) (F2 := (upd (upd ((va_up (va_up (L_X9_start u g a 4096) 25 (upd ((L_X9_start u g a 4096) 25) 0 8)) 26 (upd ((va_up (L_X9_start u g a 4096) 25 (upd ((L_X9_start u g a 4096) 25) 0 8)) 26) 0 (256 * 0))) 27) 0 ((256 * 0) + 128)) 1 ((256 * 1) + 128))) (F := (upd (upd (upd ((va_up (va_up (L_X9_start u g a 4096) 25 (upd ((L_X9_start u g a 4096) 25) 0 8)) 26 (upd ((va_up (L_X9_start u g a 4096) 25 (upd ((L_X9_start u g a 4096) 25) 0 8)) 26) 0 (256 * 0))) 27) 0 ((256 * 0) + 128)) 1 ((256 * 1) + 128)) 2 ((256 * 2) + 128))) C dX9_start_76 (by omega) rfl rfl rfl ?_
    refine j_aload_n (i := 0) C dX9_start_77 rfl 1 rfl ?_
    refine g_22_useds C dX9_start_78 lf_X9_55 ?_
    refine j_iload_n (i := 2) C dX9_start_81 rfl 0 rfl ?_
    refine j_sipush (x := 256) C dX9_start_82 (by decide) ?_
    refine j_iload_n (i := 2) C dX9_start_85 rfl 0 rfl ?_
    refine j_imul C dX9_start_86 ?_
    refine j_sipush (x := 152) C dX9_start_87 (by decide) ?_
    refine j_iadd C dX9_start_90 ?_
    refine asn_28 (q := 2) (F2 := (upd (upd ((va_up (va_up (va_up (L_X9_start u g a 4096) 25 (upd ((L_X9_start u g a 4096) 25) 0 8)) 26 (upd ((va_up (L_X9_start u g a 4096) 25 (upd ((L_X9_start u g a 4096) 25) 0 8)) 26) 0 (256 * 0))) 27 (upd ((va_up (va_up (L_X9_start u g a 4096) 25 (upd ((L_X9_start u g a 4096) 25) 0 8)) 26 (upd ((va_up (L_X9_start u g a 4096) 25 (upd ((L_X9_start u g a 4096) 25) 0 8)) 26) 0 (256 * 0))) 27) 0 ((256 * 0) + 128))) 28) 0 ((256 * 0) + 152)) 1 ((256 * 1) + 152))) (F := (upd (upd (upd ((va_up (va_up (va_up (L_X9_start u g a 4096) 25 (upd ((L_X9_start u g a 4096) 25) 0 8)) 26 (upd ((va_up (L_X9_start u g a 4096) 25 (upd ((L_X9_start u g a 4096) 25) 0 8)) 26) 0 (256 * 0))) 27 (upd ((va_up (va_up (L_X9_start u g a 4096) 25 (upd ((L_X9_start u g a 4096) 25) 0 8)) 26 (upd ((va_up (L_X9_start u g a 4096) 25 (upd ((L_X9_start u g a 4096) 25) 0 8)) 26) 0 (256 * 0))) 27) 0 ((256 * 0) + 128))) 28) 0 ((256 * 0) + 152)) 1 ((256 * 1) + 152)) 2 ((256 * 2) + 152))) C dX9_start_91 (by omega) rfl rfl rfl ?_
    refine j_iinc (y := 3) (lv' := [(2, .int 3), (0, .ref (ad 22)), (1, .int a)]) C dX9_start_92 0 rfl (by decide) (by decide) rfl ?_
    refine j_goto (tgt := 38) C dX9_start_95 (by decide) ?_
    refine j_iload_n (i := 2) C dX9_start_38 rfl 0 rfl ?_
    refine j_iconst (x := 3) C dX9_start_39 (by decide) ?_
    refine j_icmp_ge (tgt := 98) C dX9_start_40 (by decide) (fun _ => ?_) (fun c9 => absurd c9 (by decide))
    refine j_aload_n (i := 0) C dX9_start_98 rfl 1 rfl ?_
    refine j_iconst (x := 1) C dX9_start_99 (by decide) ?_
    refine p_22_state C dX9_start_100 lf_X9_86 ?_
    refine j_iconst (x := 0) C dX9_start_103 (by decide) ?_
    have hs : S_X9_start u g a = (0, (upd (upd (upd u 1 a) 2 1) 0 1), (va_up (va_up (va_up (va_up (va_up (va_up (va_up (va_up (va_up (va_up (va_up (va_up (L_X9_start u g a 4096) 25 (upd ((L_X9_start u g a 4096) 25) 0 8)) 26 (upd ((va_up (L_X9_start u g a 4096) 25 (upd ((L_X9_start u g a 4096) 25) 0 8)) 26) 0 (256 * 0))) 27 (upd ((va_up (va_up (L_X9_start u g a 4096) 25 (upd ((L_X9_start u g a 4096) 25) 0 8)) 26 (upd ((va_up (L_X9_start u g a 4096) 25 (upd ((L_X9_start u g a 4096) 25) 0 8)) 26) 0 (256 * 0))) 27) 0 ((256 * 0) + 128))) 28 (upd ((va_up (va_up (va_up (L_X9_start u g a 4096) 25 (upd ((L_X9_start u g a 4096) 25) 0 8)) 26 (upd ((va_up (L_X9_start u g a 4096) 25 (upd ((L_X9_start u g a 4096) 25) 0 8)) 26) 0 (256 * 0))) 27 (upd ((va_up (va_up (L_X9_start u g a 4096) 25 (upd ((L_X9_start u g a 4096) 25) 0 8)) 26 (upd ((va_up (L_X9_start u g a 4096) 25 (upd ((L_X9_start u g a 4096) 25) 0 8)) 26) 0 (256 * 0))) 27) 0 ((256 * 0) + 128))) 28) 0 ((256 * 0) + 152))) 25 (upd (upd ((L_X9_start u g a 4096) 25) 0 8) 1 8)) 26 (upd (upd ((va_up (L_X9_start u g a 4096) 25 (upd ((L_X9_start u g a 4096) 25) 0 8)) 26) 0 (256 * 0)) 1 (256 * 1))) 27 (upd (upd ((va_up (va_up (L_X9_start u g a 4096) 25 (upd ((L_X9_start u g a 4096) 25) 0 8)) 26 (upd ((va_up (L_X9_start u g a 4096) 25 (upd ((L_X9_start u g a 4096) 25) 0 8)) 26) 0 (256 * 0))) 27) 0 ((256 * 0) + 128)) 1 ((256 * 1) + 128))) 28 (upd (upd ((va_up (va_up (va_up (L_X9_start u g a 4096) 25 (upd ((L_X9_start u g a 4096) 25) 0 8)) 26 (upd ((va_up (L_X9_start u g a 4096) 25 (upd ((L_X9_start u g a 4096) 25) 0 8)) 26) 0 (256 * 0))) 27 (upd ((va_up (va_up (L_X9_start u g a 4096) 25 (upd ((L_X9_start u g a 4096) 25) 0 8)) 26 (upd ((va_up (L_X9_start u g a 4096) 25 (upd ((L_X9_start u g a 4096) 25) 0 8)) 26) 0 (256 * 0))) 27) 0 ((256 * 0) + 128))) 28) 0 ((256 * 0) + 152)) 1 ((256 * 1) + 152))) 25 (upd (upd (upd ((L_X9_start u g a 4096) 25) 0 8) 1 8) 2 8)) 26 (upd (upd (upd ((va_up (L_X9_start u g a 4096) 25 (upd ((L_X9_start u g a 4096) 25) 0 8)) 26) 0 (256 * 0)) 1 (256 * 1)) 2 (256 * 2))) 27 (upd (upd (upd ((va_up (va_up (L_X9_start u g a 4096) 25 (upd ((L_X9_start u g a 4096) 25) 0 8)) 26 (upd ((va_up (L_X9_start u g a 4096) 25 (upd ((L_X9_start u g a 4096) 25) 0 8)) 26) 0 (256 * 0))) 27) 0 ((256 * 0) + 128)) 1 ((256 * 1) + 128)) 2 ((256 * 2) + 128))) 28 (upd (upd (upd ((va_up (va_up (va_up (L_X9_start u g a 4096) 25 (upd ((L_X9_start u g a 4096) 25) 0 8)) 26 (upd ((va_up (L_X9_start u g a 4096) 25 (upd ((L_X9_start u g a 4096) 25) 0 8)) 26) 0 (256 * 0))) 27 (upd ((va_up (va_up (L_X9_start u g a 4096) 25 (upd ((L_X9_start u g a 4096) 25) 0 8)) 26 (upd ((va_up (L_X9_start u g a 4096) 25 (upd ((L_X9_start u g a 4096) 25) 0 8)) 26) 0 (256 * 0))) 27) 0 ((256 * 0) + 128))) 28) 0 ((256 * 0) + 152)) 1 ((256 * 1) + 152)) 2 ((256 * 2) + 152)))) := by unfold S_X9_start; rfl
    exact j_iret C hQ rfl dX9_start_104 (dt_ivfM hs)
  have lp1 : ∀ d1 i1 : Nat, i1 + d1 = 4096 → JW κ 0 0 (WD ε ad v f u (L_X9_start u g a i1)) 6 [(2, .int (nI i1)), (0, .ref (ad 22)), (1, .int a)] [] := by
    intro d1
    induction d1 with
    | zero =>
      intro i1 hi
      have e9 : i1 = 4096 := by omega
      rw [e9]
      have lf1 : 4096 ≤ (nI 4096) := Int32.le_refl _
      refine j_iload_n (i := 2) C dX9_start_6 rfl 0 rfl ?_
      refine j_sipush (x := 4096) C dX9_start_7 (by decide) ?_
      refine j_icmp_ge (tgt := 26) C dX9_start_10 (by decide) (fun _ => ?_) (fun c9 => absurd lf1 c9)
      exact hx1
    | succ d1 ih1 =>
      intro i1 hi
      have hlt1 : i1 < 4096 := by omega
      have lf1 : ¬ 4096 ≤ (nI i1) := nI_ge (b := 4096) hlt1 (by decide)
      refine j_iload_n (i := 2) C dX9_start_6 rfl 0 rfl ?_
      refine j_sipush (x := 4096) C dX9_start_7 (by decide) ?_
      refine j_icmp_ge (tgt := 26) C dX9_start_10 (by decide) (fun c9 => absurd c9 lf1) (fun _ => ?_)
      refine j_aload_n (i := 0) C dX9_start_13 rfl 1 rfl ?_
      refine g_22_memory C dX9_start_14 lf_X9_1 ?_
      refine j_iload_n (i := 2) C dX9_start_17 rfl 0 rfl ?_
      refine j_iconst (x := 0) C dX9_start_18 (by decide) ?_
      refine asn_23 (q := i1) (F2 := ((L_X9_start u g a i1) 23)) (F := (upd ((L_X9_start u g a i1) 23) i1 (vp_nar .byte 0))) C dX9_start_19 (by omega) rfl rfl rfl ?_
      refine j_iinc (y := (nI (i1 + 1))) (lv' := [(2, .int (nI (i1 + 1))), (0, .ref (ad 22)), (1, .int a)]) C dX9_start_20 0 rfl (nI_1 _) (by decide) rfl ?_
      refine j_goto (tgt := 6) C dX9_start_23 (by decide) ?_
      refine j_lv (lv' := [(2, .int (nI (i1 + 1))), (0, .ref (ad 22)), (1, .int a)]) [0, 1, 2] rfl ?_
      have e8 := ih1 (i1 + 1) (by omega)
      rw [L_X9_start] at e8
      try dsimp only at e8
      exact e8
  have e7 := lp1 4096 0 (by omega)
  rw [L_X9_start] at e7
  try dsimp only at e7
  exact e7

def S_X9_reset (u : Nat → Int32) (g : Nat → Nat → Int32) (a : Int32) : Int32 × (Nat → Int32) × (Nat → Nat → Int32) :=
  (0, (upd (upd (upd u 1 a) 2 0) 0 0), (S_X9_clear u g))
set_option maxHeartbeats 1000000 in
set_option maxRecDepth 100000 in
theorem c_X9_reset (ε : ET) (ad : Nat → Nat) (v : Nat → Int32) (f : Nat → Nat → Int32) (u : Nat → Int32) (g : Nat → Nat → Int32) (a : Int32) (hb : a = 0 ∨ a = 1) : CT ε yX9_reset cX9_reset 2 (some .int) 1 21 0 0 [.ref (ad 22), .int a] (WD ε ad v f u g) (DT (some (.int ((S_X9_reset u g a).1))) (WD ε ad v f ((S_X9_reset u g a).2.1) ((S_X9_reset u g a).2.2))) := by
  refine CT.of (own := RX9) (by decide) rfl (Nat.le_of_ble_eq_true rfl) (fun κ C hQ => ?_)
  refine j_aload_n (i := 0) C dX9_reset_0 rfl 0 rfl ?_
  refine c_V (As := []) (rest := []) (st1 := []) C (c_X9_clear ε ad v f u g   ) mv_X9_clear lm_X9_76 dX9_reset_1 22 wl_22 rfl rfl rfl (by decide) (Nat.le_of_ble_eq_true rfl) rfl ?_
  refine j_aload_n (i := 0) C dX9_reset_4 rfl 0 rfl ?_
  refine j_iload_n (i := 1) C dX9_reset_5 rfl 1 rfl ?_
  refine p_22_tables C dX9_reset_6 lf_X9_79 hb ?_
  refine j_aload_n (i := 0) C dX9_reset_9 rfl 0 rfl ?_
  refine j_iconst (x := 0) C dX9_reset_10 (by decide) ?_
  refine p_22_started C dX9_reset_11 lf_X9_83 (Or.inl rfl) ?_
  refine j_aload_n (i := 0) C dX9_reset_14 rfl 0 rfl ?_
  refine j_iconst (x := 0) C dX9_reset_15 (by decide) ?_
  refine p_22_state C dX9_reset_16 lf_X9_86 ?_
  refine j_iconst (x := 0) C dX9_reset_19 (by decide) ?_
  have hs : S_X9_reset u g a = (0, (upd (upd (upd u 1 a) 2 0) 0 0), (S_X9_clear u g)) := by unfold S_X9_reset; rfl
  exact j_iret C hQ rfl dX9_reset_20 (dt_ivfM hs)

def S_X9_queue (u : Nat → Int32) (g : Nat → Nat → Int32) (a : Int32) (b : Int32) (c : Int32) (d : Int32) (e : Int32) : Int32 × (Nat → Nat → Int32) :=
  if (S_X9_isIn u g a 0 2) = 0 then ((-2), g)
  else if a = 0 then if 0 < ((g 25) 0) then ((-2), g)
      else if (u 0) = 0 then if b = 1 then if (S_X9_isIn u g c 0 (4096 - (16 * b))) = 0 then ((-2), g)
            else if (c - c / 16 * 16) = 0 then if (S_X9_isIn u g d 0 (4092 - (2 * b))) = 0 then ((-2), g)
                else if (d - d / 2 * 2) = 0 then if (S_X9_isIn u g e 0 (4092 - (8 * b))) = 0 then ((-2), g)
                    else if (e - e / 4 * 4) = 0 then (0, (va_up (va_up (va_up (va_up g 25 (upd (g 25) 0 b)) 26 (upd ((va_up g 25 (upd (g 25) 0 b)) 26) 0 c)) 27 (upd ((va_up (va_up g 25 (upd (g 25) 0 b)) 26 (upd ((va_up g 25 (upd (g 25) 0 b)) 26) 0 c)) 27) 0 d)) 28 (upd ((va_up (va_up (va_up g 25 (upd (g 25) 0 b)) 26 (upd ((va_up g 25 (upd (g 25) 0 b)) 26) 0 c)) 27 (upd ((va_up (va_up g 25 (upd (g 25) 0 b)) 26 (upd ((va_up g 25 (upd (g 25) 0 b)) 26) 0 c)) 27) 0 d)) 28) 0 e)))
                      else ((-2), g)
                  else ((-2), g)
              else ((-2), g)
          else if b = 2 then if (S_X9_isIn u g c 0 (4096 - (16 * b))) = 0 then ((-2), g)
              else if (c - c / 16 * 16) = 0 then if (S_X9_isIn u g d 0 (4092 - (2 * b))) = 0 then ((-2), g)
                  else if (d - d / 2 * 2) = 0 then if (S_X9_isIn u g e 0 (4092 - (8 * b))) = 0 then ((-2), g)
                      else if (e - e / 4 * 4) = 0 then (0, (va_up (va_up (va_up (va_up g 25 (upd (g 25) 0 b)) 26 (upd ((va_up g 25 (upd (g 25) 0 b)) 26) 0 c)) 27 (upd ((va_up (va_up g 25 (upd (g 25) 0 b)) 26 (upd ((va_up g 25 (upd (g 25) 0 b)) 26) 0 c)) 27) 0 d)) 28 (upd ((va_up (va_up (va_up g 25 (upd (g 25) 0 b)) 26 (upd ((va_up g 25 (upd (g 25) 0 b)) 26) 0 c)) 27 (upd ((va_up (va_up g 25 (upd (g 25) 0 b)) 26 (upd ((va_up g 25 (upd (g 25) 0 b)) 26) 0 c)) 27) 0 d)) 28) 0 e)))
                        else ((-2), g)
                    else ((-2), g)
                else ((-2), g)
            else if b = 4 then if (S_X9_isIn u g c 0 (4096 - (16 * b))) = 0 then ((-2), g)
                else if (c - c / 16 * 16) = 0 then if (S_X9_isIn u g d 0 (4092 - (2 * b))) = 0 then ((-2), g)
                    else if (d - d / 2 * 2) = 0 then if (S_X9_isIn u g e 0 (4092 - (8 * b))) = 0 then ((-2), g)
                        else if (e - e / 4 * 4) = 0 then (0, (va_up (va_up (va_up (va_up g 25 (upd (g 25) 0 b)) 26 (upd ((va_up g 25 (upd (g 25) 0 b)) 26) 0 c)) 27 (upd ((va_up (va_up g 25 (upd (g 25) 0 b)) 26 (upd ((va_up g 25 (upd (g 25) 0 b)) 26) 0 c)) 27) 0 d)) 28 (upd ((va_up (va_up (va_up g 25 (upd (g 25) 0 b)) 26 (upd ((va_up g 25 (upd (g 25) 0 b)) 26) 0 c)) 27 (upd ((va_up (va_up g 25 (upd (g 25) 0 b)) 26 (upd ((va_up g 25 (upd (g 25) 0 b)) 26) 0 c)) 27) 0 d)) 28) 0 e)))
                          else ((-2), g)
                      else ((-2), g)
                  else ((-2), g)
              else if b = 8 then if (S_X9_isIn u g c 0 (4096 - (16 * b))) = 0 then ((-2), g)
                  else if (c - c / 16 * 16) = 0 then if (S_X9_isIn u g d 0 (4092 - (2 * b))) = 0 then ((-2), g)
                      else if (d - d / 2 * 2) = 0 then if (S_X9_isIn u g e 0 (4092 - (8 * b))) = 0 then ((-2), g)
                          else if (e - e / 4 * 4) = 0 then (0, (va_up (va_up (va_up (va_up g 25 (upd (g 25) 0 b)) 26 (upd ((va_up g 25 (upd (g 25) 0 b)) 26) 0 c)) 27 (upd ((va_up (va_up g 25 (upd (g 25) 0 b)) 26 (upd ((va_up g 25 (upd (g 25) 0 b)) 26) 0 c)) 27) 0 d)) 28 (upd ((va_up (va_up (va_up g 25 (upd (g 25) 0 b)) 26 (upd ((va_up g 25 (upd (g 25) 0 b)) 26) 0 c)) 27 (upd ((va_up (va_up g 25 (upd (g 25) 0 b)) 26 (upd ((va_up g 25 (upd (g 25) 0 b)) 26) 0 c)) 27) 0 d)) 28) 0 e)))
                            else ((-2), g)
                        else ((-2), g)
                    else ((-2), g)
                else if b = 16 then if (S_X9_isIn u g c 0 (4096 - (16 * b))) = 0 then ((-2), g)
                    else if (c - c / 16 * 16) = 0 then if (S_X9_isIn u g d 0 (4092 - (2 * b))) = 0 then ((-2), g)
                        else if (d - d / 2 * 2) = 0 then if (S_X9_isIn u g e 0 (4092 - (8 * b))) = 0 then ((-2), g)
                            else if (e - e / 4 * 4) = 0 then (0, (va_up (va_up (va_up (va_up g 25 (upd (g 25) 0 b)) 26 (upd ((va_up g 25 (upd (g 25) 0 b)) 26) 0 c)) 27 (upd ((va_up (va_up g 25 (upd (g 25) 0 b)) 26 (upd ((va_up g 25 (upd (g 25) 0 b)) 26) 0 c)) 27) 0 d)) 28 (upd ((va_up (va_up (va_up g 25 (upd (g 25) 0 b)) 26 (upd ((va_up g 25 (upd (g 25) 0 b)) 26) 0 c)) 27 (upd ((va_up (va_up g 25 (upd (g 25) 0 b)) 26 (upd ((va_up g 25 (upd (g 25) 0 b)) 26) 0 c)) 27) 0 d)) 28) 0 e)))
                              else ((-2), g)
                          else ((-2), g)
                      else ((-2), g)
                  else ((-2), g)
        else ((-2), g)
    else if a = 1 then if 0 < ((g 25) 1) then ((-2), g)
        else if (u 0) = 0 then if b = 1 then if (S_X9_isIn u g c 0 (4096 - (16 * b))) = 0 then ((-2), g)
              else if (c - c / 16 * 16) = 0 then if (S_X9_isIn u g d 0 (4092 - (2 * b))) = 0 then ((-2), g)
                  else if (d - d / 2 * 2) = 0 then if (S_X9_isIn u g e 0 (4092 - (8 * b))) = 0 then ((-2), g)
                      else if (e - e / 4 * 4) = 0 then (0, (va_up (va_up (va_up (va_up g 25 (upd (g 25) 1 b)) 26 (upd ((va_up g 25 (upd (g 25) 1 b)) 26) 1 c)) 27 (upd ((va_up (va_up g 25 (upd (g 25) 1 b)) 26 (upd ((va_up g 25 (upd (g 25) 1 b)) 26) 1 c)) 27) 1 d)) 28 (upd ((va_up (va_up (va_up g 25 (upd (g 25) 1 b)) 26 (upd ((va_up g 25 (upd (g 25) 1 b)) 26) 1 c)) 27 (upd ((va_up (va_up g 25 (upd (g 25) 1 b)) 26 (upd ((va_up g 25 (upd (g 25) 1 b)) 26) 1 c)) 27) 1 d)) 28) 1 e)))
                        else ((-2), g)
                    else ((-2), g)
                else ((-2), g)
            else if b = 2 then if (S_X9_isIn u g c 0 (4096 - (16 * b))) = 0 then ((-2), g)
                else if (c - c / 16 * 16) = 0 then if (S_X9_isIn u g d 0 (4092 - (2 * b))) = 0 then ((-2), g)
                    else if (d - d / 2 * 2) = 0 then if (S_X9_isIn u g e 0 (4092 - (8 * b))) = 0 then ((-2), g)
                        else if (e - e / 4 * 4) = 0 then (0, (va_up (va_up (va_up (va_up g 25 (upd (g 25) 1 b)) 26 (upd ((va_up g 25 (upd (g 25) 1 b)) 26) 1 c)) 27 (upd ((va_up (va_up g 25 (upd (g 25) 1 b)) 26 (upd ((va_up g 25 (upd (g 25) 1 b)) 26) 1 c)) 27) 1 d)) 28 (upd ((va_up (va_up (va_up g 25 (upd (g 25) 1 b)) 26 (upd ((va_up g 25 (upd (g 25) 1 b)) 26) 1 c)) 27 (upd ((va_up (va_up g 25 (upd (g 25) 1 b)) 26 (upd ((va_up g 25 (upd (g 25) 1 b)) 26) 1 c)) 27) 1 d)) 28) 1 e)))
                          else ((-2), g)
                      else ((-2), g)
                  else ((-2), g)
              else if b = 4 then if (S_X9_isIn u g c 0 (4096 - (16 * b))) = 0 then ((-2), g)
                  else if (c - c / 16 * 16) = 0 then if (S_X9_isIn u g d 0 (4092 - (2 * b))) = 0 then ((-2), g)
                      else if (d - d / 2 * 2) = 0 then if (S_X9_isIn u g e 0 (4092 - (8 * b))) = 0 then ((-2), g)
                          else if (e - e / 4 * 4) = 0 then (0, (va_up (va_up (va_up (va_up g 25 (upd (g 25) 1 b)) 26 (upd ((va_up g 25 (upd (g 25) 1 b)) 26) 1 c)) 27 (upd ((va_up (va_up g 25 (upd (g 25) 1 b)) 26 (upd ((va_up g 25 (upd (g 25) 1 b)) 26) 1 c)) 27) 1 d)) 28 (upd ((va_up (va_up (va_up g 25 (upd (g 25) 1 b)) 26 (upd ((va_up g 25 (upd (g 25) 1 b)) 26) 1 c)) 27 (upd ((va_up (va_up g 25 (upd (g 25) 1 b)) 26 (upd ((va_up g 25 (upd (g 25) 1 b)) 26) 1 c)) 27) 1 d)) 28) 1 e)))
                            else ((-2), g)
                        else ((-2), g)
                    else ((-2), g)
                else if b = 8 then if (S_X9_isIn u g c 0 (4096 - (16 * b))) = 0 then ((-2), g)
                    else if (c - c / 16 * 16) = 0 then if (S_X9_isIn u g d 0 (4092 - (2 * b))) = 0 then ((-2), g)
                        else if (d - d / 2 * 2) = 0 then if (S_X9_isIn u g e 0 (4092 - (8 * b))) = 0 then ((-2), g)
                            else if (e - e / 4 * 4) = 0 then (0, (va_up (va_up (va_up (va_up g 25 (upd (g 25) 1 b)) 26 (upd ((va_up g 25 (upd (g 25) 1 b)) 26) 1 c)) 27 (upd ((va_up (va_up g 25 (upd (g 25) 1 b)) 26 (upd ((va_up g 25 (upd (g 25) 1 b)) 26) 1 c)) 27) 1 d)) 28 (upd ((va_up (va_up (va_up g 25 (upd (g 25) 1 b)) 26 (upd ((va_up g 25 (upd (g 25) 1 b)) 26) 1 c)) 27 (upd ((va_up (va_up g 25 (upd (g 25) 1 b)) 26 (upd ((va_up g 25 (upd (g 25) 1 b)) 26) 1 c)) 27) 1 d)) 28) 1 e)))
                              else ((-2), g)
                          else ((-2), g)
                      else ((-2), g)
                  else if b = 16 then if (S_X9_isIn u g c 0 (4096 - (16 * b))) = 0 then ((-2), g)
                      else if (c - c / 16 * 16) = 0 then if (S_X9_isIn u g d 0 (4092 - (2 * b))) = 0 then ((-2), g)
                          else if (d - d / 2 * 2) = 0 then if (S_X9_isIn u g e 0 (4092 - (8 * b))) = 0 then ((-2), g)
                              else if (e - e / 4 * 4) = 0 then (0, (va_up (va_up (va_up (va_up g 25 (upd (g 25) 1 b)) 26 (upd ((va_up g 25 (upd (g 25) 1 b)) 26) 1 c)) 27 (upd ((va_up (va_up g 25 (upd (g 25) 1 b)) 26 (upd ((va_up g 25 (upd (g 25) 1 b)) 26) 1 c)) 27) 1 d)) 28 (upd ((va_up (va_up (va_up g 25 (upd (g 25) 1 b)) 26 (upd ((va_up g 25 (upd (g 25) 1 b)) 26) 1 c)) 27 (upd ((va_up (va_up g 25 (upd (g 25) 1 b)) 26 (upd ((va_up g 25 (upd (g 25) 1 b)) 26) 1 c)) 27) 1 d)) 28) 1 e)))
                                else ((-2), g)
                            else ((-2), g)
                        else ((-2), g)
                    else ((-2), g)
          else ((-2), g)
      else if 0 < ((g 25) 2) then ((-2), g)
        else if (u 0) = 0 then if b = 1 then if (S_X9_isIn u g c 0 (4096 - (16 * b))) = 0 then ((-2), g)
              else if (c - c / 16 * 16) = 0 then if (S_X9_isIn u g d 0 (4092 - (2 * b))) = 0 then ((-2), g)
                  else if (d - d / 2 * 2) = 0 then if (S_X9_isIn u g e 0 (4092 - (8 * b))) = 0 then ((-2), g)
                      else if (e - e / 4 * 4) = 0 then (0, (va_up (va_up (va_up (va_up g 25 (upd (g 25) 2 b)) 26 (upd ((va_up g 25 (upd (g 25) 2 b)) 26) 2 c)) 27 (upd ((va_up (va_up g 25 (upd (g 25) 2 b)) 26 (upd ((va_up g 25 (upd (g 25) 2 b)) 26) 2 c)) 27) 2 d)) 28 (upd ((va_up (va_up (va_up g 25 (upd (g 25) 2 b)) 26 (upd ((va_up g 25 (upd (g 25) 2 b)) 26) 2 c)) 27 (upd ((va_up (va_up g 25 (upd (g 25) 2 b)) 26 (upd ((va_up g 25 (upd (g 25) 2 b)) 26) 2 c)) 27) 2 d)) 28) 2 e)))
                        else ((-2), g)
                    else ((-2), g)
                else ((-2), g)
            else if b = 2 then if (S_X9_isIn u g c 0 (4096 - (16 * b))) = 0 then ((-2), g)
                else if (c - c / 16 * 16) = 0 then if (S_X9_isIn u g d 0 (4092 - (2 * b))) = 0 then ((-2), g)
                    else if (d - d / 2 * 2) = 0 then if (S_X9_isIn u g e 0 (4092 - (8 * b))) = 0 then ((-2), g)
                        else if (e - e / 4 * 4) = 0 then (0, (va_up (va_up (va_up (va_up g 25 (upd (g 25) 2 b)) 26 (upd ((va_up g 25 (upd (g 25) 2 b)) 26) 2 c)) 27 (upd ((va_up (va_up g 25 (upd (g 25) 2 b)) 26 (upd ((va_up g 25 (upd (g 25) 2 b)) 26) 2 c)) 27) 2 d)) 28 (upd ((va_up (va_up (va_up g 25 (upd (g 25) 2 b)) 26 (upd ((va_up g 25 (upd (g 25) 2 b)) 26) 2 c)) 27 (upd ((va_up (va_up g 25 (upd (g 25) 2 b)) 26 (upd ((va_up g 25 (upd (g 25) 2 b)) 26) 2 c)) 27) 2 d)) 28) 2 e)))
                          else ((-2), g)
                      else ((-2), g)
                  else ((-2), g)
              else if b = 4 then if (S_X9_isIn u g c 0 (4096 - (16 * b))) = 0 then ((-2), g)
                  else if (c - c / 16 * 16) = 0 then if (S_X9_isIn u g d 0 (4092 - (2 * b))) = 0 then ((-2), g)
                      else if (d - d / 2 * 2) = 0 then if (S_X9_isIn u g e 0 (4092 - (8 * b))) = 0 then ((-2), g)
                          else if (e - e / 4 * 4) = 0 then (0, (va_up (va_up (va_up (va_up g 25 (upd (g 25) 2 b)) 26 (upd ((va_up g 25 (upd (g 25) 2 b)) 26) 2 c)) 27 (upd ((va_up (va_up g 25 (upd (g 25) 2 b)) 26 (upd ((va_up g 25 (upd (g 25) 2 b)) 26) 2 c)) 27) 2 d)) 28 (upd ((va_up (va_up (va_up g 25 (upd (g 25) 2 b)) 26 (upd ((va_up g 25 (upd (g 25) 2 b)) 26) 2 c)) 27 (upd ((va_up (va_up g 25 (upd (g 25) 2 b)) 26 (upd ((va_up g 25 (upd (g 25) 2 b)) 26) 2 c)) 27) 2 d)) 28) 2 e)))
                            else ((-2), g)
                        else ((-2), g)
                    else ((-2), g)
                else if b = 8 then if (S_X9_isIn u g c 0 (4096 - (16 * b))) = 0 then ((-2), g)
                    else if (c - c / 16 * 16) = 0 then if (S_X9_isIn u g d 0 (4092 - (2 * b))) = 0 then ((-2), g)
                        else if (d - d / 2 * 2) = 0 then if (S_X9_isIn u g e 0 (4092 - (8 * b))) = 0 then ((-2), g)
                            else if (e - e / 4 * 4) = 0 then (0, (va_up (va_up (va_up (va_up g 25 (upd (g 25) 2 b)) 26 (upd ((va_up g 25 (upd (g 25) 2 b)) 26) 2 c)) 27 (upd ((va_up (va_up g 25 (upd (g 25) 2 b)) 26 (upd ((va_up g 25 (upd (g 25) 2 b)) 26) 2 c)) 27) 2 d)) 28 (upd ((va_up (va_up (va_up g 25 (upd (g 25) 2 b)) 26 (upd ((va_up g 25 (upd (g 25) 2 b)) 26) 2 c)) 27 (upd ((va_up (va_up g 25 (upd (g 25) 2 b)) 26 (upd ((va_up g 25 (upd (g 25) 2 b)) 26) 2 c)) 27) 2 d)) 28) 2 e)))
                              else ((-2), g)
                          else ((-2), g)
                      else ((-2), g)
                  else if b = 16 then if (S_X9_isIn u g c 0 (4096 - (16 * b))) = 0 then ((-2), g)
                      else if (c - c / 16 * 16) = 0 then if (S_X9_isIn u g d 0 (4092 - (2 * b))) = 0 then ((-2), g)
                          else if (d - d / 2 * 2) = 0 then if (S_X9_isIn u g e 0 (4092 - (8 * b))) = 0 then ((-2), g)
                              else if (e - e / 4 * 4) = 0 then (0, (va_up (va_up (va_up (va_up g 25 (upd (g 25) 2 b)) 26 (upd ((va_up g 25 (upd (g 25) 2 b)) 26) 2 c)) 27 (upd ((va_up (va_up g 25 (upd (g 25) 2 b)) 26 (upd ((va_up g 25 (upd (g 25) 2 b)) 26) 2 c)) 27) 2 d)) 28 (upd ((va_up (va_up (va_up g 25 (upd (g 25) 2 b)) 26 (upd ((va_up g 25 (upd (g 25) 2 b)) 26) 2 c)) 27 (upd ((va_up (va_up g 25 (upd (g 25) 2 b)) 26 (upd ((va_up g 25 (upd (g 25) 2 b)) 26) 2 c)) 27) 2 d)) 28) 2 e)))
                                else ((-2), g)
                            else ((-2), g)
                        else ((-2), g)
                    else ((-2), g)
          else ((-2), g)
set_option maxHeartbeats 1000000 in
set_option maxRecDepth 100000 in
theorem c_X9_queue (ε : ET) (ad : Nat → Nat) (v : Nat → Int32) (f : Nat → Nat → Int32) (u : Nat → Int32) (g : Nat → Nat → Int32) (a : Int32) (b : Int32) (c : Int32) (d : Int32) (e : Int32)  : CT ε yX9_queue cX9_queue 6 (some .int) 1 22 0 0 [.ref (ad 22), .int a, .int b, .int c, .int d, .int e] (WD ε ad v f u g) (DT (some (.int ((S_X9_queue u g a b c d e).1))) (WD ε ad v f u ((S_X9_queue u g a b c d e).2))) := by
  refine CT.of (own := RX9) (by decide) rfl (Nat.le_of_ble_eq_true rfl) (fun κ C hQ => ?_)
  refine j_iload_n (i := 1) C dX9_queue_0 rfl 1 rfl ?_
  refine j_iconst (x := 0) C dX9_queue_1 (by decide) ?_
  refine j_iconst (x := 2) C dX9_queue_2 (by decide) ?_
  refine c_S (As := [.int a, .int 0, .int 2]) (rest := []) (st1 := [.int (S_X9_isIn u g a 0 2)]) C (c_X9_isIn ε ad v f u g a 0 2  ) mt_X9_isIn lm_X9_7 dX9_queue_3 rfl rfl (by decide) (Nat.le_of_ble_eq_true rfl) rfl ?_
  refine j_if_eq (tgt := 52) C dX9_queue_6 (by decide) (fun c_1 => ?_) (fun c_1 => ?_)
  · refine j_bipush (x := (-2)) C dX9_queue_52 (by decide) ?_
    have hs : S_X9_queue u g a b c d e = ((-2), g) := by unfold S_X9_queue; rw [if_pos c_1]
    exact j_iret C hQ rfl dX9_queue_54 (dt_ifM hs)
  · by_cases c_2 : a = 0
    · refine j_to (lv2 := [(0, .ref (ad 22)), (1, .int 0), (2, .int b), (3, .int c), (4, .int d), (5, .int e)]) (st' := []) rfl (by first | rfl | (rw [c_2]; rfl)) (by first | rfl | (rw [c_2]; rfl) | rw [c_2]) ?_
      refine j_aload_n (i := 0) C dX9_queue_9 rfl 0 rfl ?_
      refine g_22_sizes C dX9_queue_10 lf_X9_11 ?_
      refine j_iload_n (i := 1) C dX9_queue_13 rfl 1 rfl ?_
      refine aln_25 (q := 0) (F := (g 25)) C dX9_queue_14 (by omega) rfl rfl ?_
      refine j_if_gt (tgt := 52) C dX9_queue_15 (by decide) (fun c_3 => ?_) (fun c_3 => ?_)
      · refine j_bipush (x := (-2)) C dX9_queue_52 (by decide) ?_
        have hs : S_X9_queue u g a b c d e = ((-2), g) := by unfold S_X9_queue; rw [if_neg c_1, if_pos c_2, if_pos c_3]
        exact j_iret C hQ rfl dX9_queue_54 (dt_ifM hs)
      · refine j_aload_n (i := 0) C dX9_queue_18 rfl 0 rfl ?_
        refine g_22_state (x := (u 0)) C dX9_queue_19 lf_X9_86 rfl ?_
        refine j_if_ne (tgt := 52) C dX9_queue_22 (by decide) (fun c_4 => ?_) (fun c_4 => ?_)
        · refine j_bipush (x := (-2)) C dX9_queue_52 (by decide) ?_
          have hs : S_X9_queue u g a b c d e = ((-2), g) := by unfold S_X9_queue; rw [if_neg c_1, if_pos c_2, if_neg c_3, if_neg c_4]
          exact j_iret C hQ rfl dX9_queue_54 (dt_ifM hs)
        · refine j_iload_n (i := 2) C dX9_queue_25 rfl 2 rfl ?_
          refine j_iconst (x := 1) C dX9_queue_26 (by decide) ?_
          refine j_icmp_eq (tgt := 55) C dX9_queue_27 (by decide) (fun c_5 => ?_) (fun c_5 => ?_)
          · refine j_iload_n (i := 3) C dX9_queue_55 rfl 3 rfl ?_
            refine j_iconst (x := 0) C dX9_queue_56 (by decide) ?_
            refine j_sipush (x := 4096) C dX9_queue_57 (by decide) ?_
            refine j_bipush (x := 16) C dX9_queue_60 (by decide) ?_
            refine j_iload_n (i := 2) C dX9_queue_62 rfl 2 rfl ?_
            refine j_imul C dX9_queue_63 ?_
            refine j_isub C dX9_queue_64 ?_
            refine c_S (As := [.int c, .int 0, .int (4096 - (16 * b))]) (rest := []) (st1 := [.int (S_X9_isIn u g c 0 (4096 - (16 * b)))]) C (c_X9_isIn ε ad v f u g c 0 (4096 - (16 * b))  ) mt_X9_isIn lm_X9_7 dX9_queue_65 rfl rfl (by decide) (Nat.le_of_ble_eq_true rfl) rfl ?_
            refine j_if_eq (tgt := 125) C dX9_queue_68 (by decide) (fun c_6 => ?_) (fun c_6 => ?_)
            · refine j_bipush (x := (-2)) C dX9_queue_125 (by decide) ?_
              have hs : S_X9_queue u g a b c d e = ((-2), g) := by unfold S_X9_queue; rw [if_neg c_1, if_pos c_2, if_neg c_3, if_pos c_4, if_pos c_5, if_pos c_6]
              exact j_iret C hQ rfl dX9_queue_127 (dt_ifM hs)
            · refine j_iload_n (i := 3) C dX9_queue_71 rfl 3 rfl ?_
              refine j_bipush (x := 16) C dX9_queue_72 (by decide) ?_
              refine j_irem C dX9_queue_74 (by decide) ?_
              refine j_if_ne (tgt := 125) C dX9_queue_75 (by decide) (fun c_7 => ?_) (fun c_7 => ?_)
              · refine j_bipush (x := (-2)) C dX9_queue_125 (by decide) ?_
                have hs : S_X9_queue u g a b c d e = ((-2), g) := by unfold S_X9_queue; rw [if_neg c_1, if_pos c_2, if_neg c_3, if_pos c_4, if_pos c_5, if_neg c_6, if_neg c_7]
                exact j_iret C hQ rfl dX9_queue_127 (dt_ifM hs)
              · refine j_iload (i := 4) C dX9_queue_78 4 rfl ?_
                refine j_iconst (x := 0) C dX9_queue_80 (by decide) ?_
                refine j_sipush (x := 4092) C dX9_queue_81 (by decide) ?_
                refine j_iconst (x := 2) C dX9_queue_84 (by decide) ?_
                refine j_iload_n (i := 2) C dX9_queue_85 rfl 2 rfl ?_
                refine j_imul C dX9_queue_86 ?_
                refine j_isub C dX9_queue_87 ?_
                refine c_S (As := [.int d, .int 0, .int (4092 - (2 * b))]) (rest := []) (st1 := [.int (S_X9_isIn u g d 0 (4092 - (2 * b)))]) C (c_X9_isIn ε ad v f u g d 0 (4092 - (2 * b))  ) mt_X9_isIn lm_X9_7 dX9_queue_88 rfl rfl (by decide) (Nat.le_of_ble_eq_true rfl) rfl ?_
                refine j_if_eq (tgt := 125) C dX9_queue_91 (by decide) (fun c_8 => ?_) (fun c_8 => ?_)
                · refine j_bipush (x := (-2)) C dX9_queue_125 (by decide) ?_
                  have hs : S_X9_queue u g a b c d e = ((-2), g) := by unfold S_X9_queue; rw [if_neg c_1, if_pos c_2, if_neg c_3, if_pos c_4, if_pos c_5, if_neg c_6, if_pos c_7, if_pos c_8]
                  exact j_iret C hQ rfl dX9_queue_127 (dt_ifM hs)
                · refine j_iload (i := 4) C dX9_queue_94 4 rfl ?_
                  refine j_iconst (x := 2) C dX9_queue_96 (by decide) ?_
                  refine j_irem C dX9_queue_97 (by decide) ?_
                  refine j_if_ne (tgt := 125) C dX9_queue_98 (by decide) (fun c_9 => ?_) (fun c_9 => ?_)
                  · refine j_bipush (x := (-2)) C dX9_queue_125 (by decide) ?_
                    have hs : S_X9_queue u g a b c d e = ((-2), g) := by unfold S_X9_queue; rw [if_neg c_1, if_pos c_2, if_neg c_3, if_pos c_4, if_pos c_5, if_neg c_6, if_pos c_7, if_neg c_8, if_neg c_9]
                    exact j_iret C hQ rfl dX9_queue_127 (dt_ifM hs)
                  · refine j_iload (i := 5) C dX9_queue_101 5 rfl ?_
                    refine j_iconst (x := 0) C dX9_queue_103 (by decide) ?_
                    refine j_sipush (x := 4092) C dX9_queue_104 (by decide) ?_
                    refine j_bipush (x := 8) C dX9_queue_107 (by decide) ?_
                    refine j_iload_n (i := 2) C dX9_queue_109 rfl 2 rfl ?_
                    refine j_imul C dX9_queue_110 ?_
                    refine j_isub C dX9_queue_111 ?_
                    refine c_S (As := [.int e, .int 0, .int (4092 - (8 * b))]) (rest := []) (st1 := [.int (S_X9_isIn u g e 0 (4092 - (8 * b)))]) C (c_X9_isIn ε ad v f u g e 0 (4092 - (8 * b))  ) mt_X9_isIn lm_X9_7 dX9_queue_112 rfl rfl (by decide) (Nat.le_of_ble_eq_true rfl) rfl ?_
                    refine j_if_eq (tgt := 125) C dX9_queue_115 (by decide) (fun c_10 => ?_) (fun c_10 => ?_)
                    · refine j_bipush (x := (-2)) C dX9_queue_125 (by decide) ?_
                      have hs : S_X9_queue u g a b c d e = ((-2), g) := by unfold S_X9_queue; rw [if_neg c_1, if_pos c_2, if_neg c_3, if_pos c_4, if_pos c_5, if_neg c_6, if_pos c_7, if_neg c_8, if_pos c_9, if_pos c_10]
                      exact j_iret C hQ rfl dX9_queue_127 (dt_ifM hs)
                    · refine j_iload (i := 5) C dX9_queue_118 5 rfl ?_
                      refine j_iconst (x := 4) C dX9_queue_120 (by decide) ?_
                      refine j_irem C dX9_queue_121 (by decide) ?_
                      refine j_if_eq (tgt := 128) C dX9_queue_122 (by decide) (fun c_11 => ?_) (fun c_11 => ?_)
                      · refine j_aload_n (i := 0) C dX9_queue_128 rfl 0 rfl ?_
                        refine g_22_sizes C dX9_queue_129 lf_X9_11 ?_
                        refine j_iload_n (i := 1) C dX9_queue_132 rfl 1 rfl ?_
                        refine j_iload_n (i := 2) C dX9_queue_133 rfl 2 rfl ?_
                        refine asn_25 (q := 0) (F2 := (g 25)) (F := (upd (g 25) 0 b)) C dX9_queue_134 (by omega) rfl rfl rfl ?_
                        refine j_aload_n (i := 0) C dX9_queue_135 rfl 0 rfl ?_
                        refine g_22_descriptors C dX9_queue_136 lf_X9_49 ?_
                        refine j_iload_n (i := 1) C dX9_queue_139 rfl 1 rfl ?_
                        refine j_iload_n (i := 3) C dX9_queue_140 rfl 3 rfl ?_
                        refine asn_26 (q := 0) (F2 := ((va_up g 25 (upd (g 25) 0 b)) 26)) (F := (upd ((va_up g 25 (upd (g 25) 0 b)) 26) 0 c)) C dX9_queue_141 (by omega) rfl rfl rfl ?_
                        refine j_aload_n (i := 0) C dX9_queue_142 rfl 0 rfl ?_
                        refine g_22_availables C dX9_queue_143 lf_X9_52 ?_
                        refine j_iload_n (i := 1) C dX9_queue_146 rfl 1 rfl ?_
                        refine j_iload (i := 4) C dX9_queue_147 4 rfl ?_
                        refine asn_27 (q := 0) (F2 := ((va_up (va_up g 25 (upd (g 25) 0 b)) 26 (upd ((va_up g 25 (upd (g 25) 0 b)) 26) 0 c)) 27)) (F := (upd ((va_up (va_up g 25 (upd (g 25) 0 b)) 26 (upd ((va_up g 25 (upd (g 25) 0 b)) 26) 0 c)) 27) 0 d)) C dX9_queue_149 (by omega) rfl rfl rfl ?_
                        refine j_aload_n (i := 0) C dX9_queue_150 rfl 0 rfl ?_
                        refine g_22_useds C dX9_queue_151 lf_X9_55 ?_
                        refine j_iload_n (i := 1) C dX9_queue_154 rfl 1 rfl ?_
                        refine j_iload (i := 5) C dX9_queue_155 5 rfl ?_
                        refine asn_28 (q := 0) (F2 := ((va_up (va_up (va_up g 25 (upd (g 25) 0 b)) 26 (upd ((va_up g 25 (upd (g 25) 0 b)) 26) 0 c)) 27 (upd ((va_up (va_up g 25 (upd (g 25) 0 b)) 26 (upd ((va_up g 25 (upd (g 25) 0 b)) 26) 0 c)) 27) 0 d)) 28)) (F := (upd ((va_up (va_up (va_up g 25 (upd (g 25) 0 b)) 26 (upd ((va_up g 25 (upd (g 25) 0 b)) 26) 0 c)) 27 (upd ((va_up (va_up g 25 (upd (g 25) 0 b)) 26 (upd ((va_up g 25 (upd (g 25) 0 b)) 26) 0 c)) 27) 0 d)) 28) 0 e)) C dX9_queue_157 (by omega) rfl rfl rfl ?_
                        refine j_iconst (x := 0) C dX9_queue_158 (by decide) ?_
                        have hs : S_X9_queue u g a b c d e = (0, (va_up (va_up (va_up (va_up g 25 (upd (g 25) 0 b)) 26 (upd ((va_up g 25 (upd (g 25) 0 b)) 26) 0 c)) 27 (upd ((va_up (va_up g 25 (upd (g 25) 0 b)) 26 (upd ((va_up g 25 (upd (g 25) 0 b)) 26) 0 c)) 27) 0 d)) 28 (upd ((va_up (va_up (va_up g 25 (upd (g 25) 0 b)) 26 (upd ((va_up g 25 (upd (g 25) 0 b)) 26) 0 c)) 27 (upd ((va_up (va_up g 25 (upd (g 25) 0 b)) 26 (upd ((va_up g 25 (upd (g 25) 0 b)) 26) 0 c)) 27) 0 d)) 28) 0 e))) := by unfold S_X9_queue; rw [if_neg c_1, if_pos c_2, if_neg c_3, if_pos c_4, if_pos c_5, if_neg c_6, if_pos c_7, if_neg c_8, if_pos c_9, if_neg c_10, if_pos c_11]
                        exact j_iret C hQ rfl dX9_queue_159 (dt_ifM hs)
                      · refine j_bipush (x := (-2)) C dX9_queue_125 (by decide) ?_
                        have hs : S_X9_queue u g a b c d e = ((-2), g) := by unfold S_X9_queue; rw [if_neg c_1, if_pos c_2, if_neg c_3, if_pos c_4, if_pos c_5, if_neg c_6, if_pos c_7, if_neg c_8, if_pos c_9, if_neg c_10, if_neg c_11]
                        exact j_iret C hQ rfl dX9_queue_127 (dt_ifM hs)
          · refine j_iload_n (i := 2) C dX9_queue_30 rfl 2 rfl ?_
            refine j_iconst (x := 2) C dX9_queue_31 (by decide) ?_
            refine j_icmp_eq (tgt := 55) C dX9_queue_32 (by decide) (fun c_12 => ?_) (fun c_12 => ?_)
            · refine j_iload_n (i := 3) C dX9_queue_55 rfl 3 rfl ?_
              refine j_iconst (x := 0) C dX9_queue_56 (by decide) ?_
              refine j_sipush (x := 4096) C dX9_queue_57 (by decide) ?_
              refine j_bipush (x := 16) C dX9_queue_60 (by decide) ?_
              refine j_iload_n (i := 2) C dX9_queue_62 rfl 2 rfl ?_
              refine j_imul C dX9_queue_63 ?_
              refine j_isub C dX9_queue_64 ?_
              refine c_S (As := [.int c, .int 0, .int (4096 - (16 * b))]) (rest := []) (st1 := [.int (S_X9_isIn u g c 0 (4096 - (16 * b)))]) C (c_X9_isIn ε ad v f u g c 0 (4096 - (16 * b))  ) mt_X9_isIn lm_X9_7 dX9_queue_65 rfl rfl (by decide) (Nat.le_of_ble_eq_true rfl) rfl ?_
              refine j_if_eq (tgt := 125) C dX9_queue_68 (by decide) (fun c_13 => ?_) (fun c_13 => ?_)
              · refine j_bipush (x := (-2)) C dX9_queue_125 (by decide) ?_
                have hs : S_X9_queue u g a b c d e = ((-2), g) := by unfold S_X9_queue; rw [if_neg c_1, if_pos c_2, if_neg c_3, if_pos c_4, if_neg c_5, if_pos c_12, if_pos c_13]
                exact j_iret C hQ rfl dX9_queue_127 (dt_ifM hs)
              · refine j_iload_n (i := 3) C dX9_queue_71 rfl 3 rfl ?_
                refine j_bipush (x := 16) C dX9_queue_72 (by decide) ?_
                refine j_irem C dX9_queue_74 (by decide) ?_
                refine j_if_ne (tgt := 125) C dX9_queue_75 (by decide) (fun c_14 => ?_) (fun c_14 => ?_)
                · refine j_bipush (x := (-2)) C dX9_queue_125 (by decide) ?_
                  have hs : S_X9_queue u g a b c d e = ((-2), g) := by unfold S_X9_queue; rw [if_neg c_1, if_pos c_2, if_neg c_3, if_pos c_4, if_neg c_5, if_pos c_12, if_neg c_13, if_neg c_14]
                  exact j_iret C hQ rfl dX9_queue_127 (dt_ifM hs)
                · refine j_iload (i := 4) C dX9_queue_78 4 rfl ?_
                  refine j_iconst (x := 0) C dX9_queue_80 (by decide) ?_
                  refine j_sipush (x := 4092) C dX9_queue_81 (by decide) ?_
                  refine j_iconst (x := 2) C dX9_queue_84 (by decide) ?_
                  refine j_iload_n (i := 2) C dX9_queue_85 rfl 2 rfl ?_
                  refine j_imul C dX9_queue_86 ?_
                  refine j_isub C dX9_queue_87 ?_
                  refine c_S (As := [.int d, .int 0, .int (4092 - (2 * b))]) (rest := []) (st1 := [.int (S_X9_isIn u g d 0 (4092 - (2 * b)))]) C (c_X9_isIn ε ad v f u g d 0 (4092 - (2 * b))  ) mt_X9_isIn lm_X9_7 dX9_queue_88 rfl rfl (by decide) (Nat.le_of_ble_eq_true rfl) rfl ?_
                  refine j_if_eq (tgt := 125) C dX9_queue_91 (by decide) (fun c_15 => ?_) (fun c_15 => ?_)
                  · refine j_bipush (x := (-2)) C dX9_queue_125 (by decide) ?_
                    have hs : S_X9_queue u g a b c d e = ((-2), g) := by unfold S_X9_queue; rw [if_neg c_1, if_pos c_2, if_neg c_3, if_pos c_4, if_neg c_5, if_pos c_12, if_neg c_13, if_pos c_14, if_pos c_15]
                    exact j_iret C hQ rfl dX9_queue_127 (dt_ifM hs)
                  · refine j_iload (i := 4) C dX9_queue_94 4 rfl ?_
                    refine j_iconst (x := 2) C dX9_queue_96 (by decide) ?_
                    refine j_irem C dX9_queue_97 (by decide) ?_
                    refine j_if_ne (tgt := 125) C dX9_queue_98 (by decide) (fun c_16 => ?_) (fun c_16 => ?_)
                    · refine j_bipush (x := (-2)) C dX9_queue_125 (by decide) ?_
                      have hs : S_X9_queue u g a b c d e = ((-2), g) := by unfold S_X9_queue; rw [if_neg c_1, if_pos c_2, if_neg c_3, if_pos c_4, if_neg c_5, if_pos c_12, if_neg c_13, if_pos c_14, if_neg c_15, if_neg c_16]
                      exact j_iret C hQ rfl dX9_queue_127 (dt_ifM hs)
                    · refine j_iload (i := 5) C dX9_queue_101 5 rfl ?_
                      refine j_iconst (x := 0) C dX9_queue_103 (by decide) ?_
                      refine j_sipush (x := 4092) C dX9_queue_104 (by decide) ?_
                      refine j_bipush (x := 8) C dX9_queue_107 (by decide) ?_
                      refine j_iload_n (i := 2) C dX9_queue_109 rfl 2 rfl ?_
                      refine j_imul C dX9_queue_110 ?_
                      refine j_isub C dX9_queue_111 ?_
                      refine c_S (As := [.int e, .int 0, .int (4092 - (8 * b))]) (rest := []) (st1 := [.int (S_X9_isIn u g e 0 (4092 - (8 * b)))]) C (c_X9_isIn ε ad v f u g e 0 (4092 - (8 * b))  ) mt_X9_isIn lm_X9_7 dX9_queue_112 rfl rfl (by decide) (Nat.le_of_ble_eq_true rfl) rfl ?_
                      refine j_if_eq (tgt := 125) C dX9_queue_115 (by decide) (fun c_17 => ?_) (fun c_17 => ?_)
                      · refine j_bipush (x := (-2)) C dX9_queue_125 (by decide) ?_
                        have hs : S_X9_queue u g a b c d e = ((-2), g) := by unfold S_X9_queue; rw [if_neg c_1, if_pos c_2, if_neg c_3, if_pos c_4, if_neg c_5, if_pos c_12, if_neg c_13, if_pos c_14, if_neg c_15, if_pos c_16, if_pos c_17]
                        exact j_iret C hQ rfl dX9_queue_127 (dt_ifM hs)
                      · refine j_iload (i := 5) C dX9_queue_118 5 rfl ?_
                        refine j_iconst (x := 4) C dX9_queue_120 (by decide) ?_
                        refine j_irem C dX9_queue_121 (by decide) ?_
                        refine j_if_eq (tgt := 128) C dX9_queue_122 (by decide) (fun c_18 => ?_) (fun c_18 => ?_)
                        · refine j_aload_n (i := 0) C dX9_queue_128 rfl 0 rfl ?_
                          refine g_22_sizes C dX9_queue_129 lf_X9_11 ?_
                          refine j_iload_n (i := 1) C dX9_queue_132 rfl 1 rfl ?_
                          refine j_iload_n (i := 2) C dX9_queue_133 rfl 2 rfl ?_
                          refine asn_25 (q := 0) (F2 := (g 25)) (F := (upd (g 25) 0 b)) C dX9_queue_134 (by omega) rfl rfl rfl ?_
                          refine j_aload_n (i := 0) C dX9_queue_135 rfl 0 rfl ?_
                          refine g_22_descriptors C dX9_queue_136 lf_X9_49 ?_
                          refine j_iload_n (i := 1) C dX9_queue_139 rfl 1 rfl ?_
                          refine j_iload_n (i := 3) C dX9_queue_140 rfl 3 rfl ?_
                          refine asn_26 (q := 0) (F2 := ((va_up g 25 (upd (g 25) 0 b)) 26)) (F := (upd ((va_up g 25 (upd (g 25) 0 b)) 26) 0 c)) C dX9_queue_141 (by omega) rfl rfl rfl ?_
                          refine j_aload_n (i := 0) C dX9_queue_142 rfl 0 rfl ?_
                          refine g_22_availables C dX9_queue_143 lf_X9_52 ?_
                          refine j_iload_n (i := 1) C dX9_queue_146 rfl 1 rfl ?_
                          refine j_iload (i := 4) C dX9_queue_147 4 rfl ?_
                          refine asn_27 (q := 0) (F2 := ((va_up (va_up g 25 (upd (g 25) 0 b)) 26 (upd ((va_up g 25 (upd (g 25) 0 b)) 26) 0 c)) 27)) (F := (upd ((va_up (va_up g 25 (upd (g 25) 0 b)) 26 (upd ((va_up g 25 (upd (g 25) 0 b)) 26) 0 c)) 27) 0 d)) C dX9_queue_149 (by omega) rfl rfl rfl ?_
                          refine j_aload_n (i := 0) C dX9_queue_150 rfl 0 rfl ?_
                          refine g_22_useds C dX9_queue_151 lf_X9_55 ?_
                          refine j_iload_n (i := 1) C dX9_queue_154 rfl 1 rfl ?_
                          refine j_iload (i := 5) C dX9_queue_155 5 rfl ?_
                          refine asn_28 (q := 0) (F2 := ((va_up (va_up (va_up g 25 (upd (g 25) 0 b)) 26 (upd ((va_up g 25 (upd (g 25) 0 b)) 26) 0 c)) 27 (upd ((va_up (va_up g 25 (upd (g 25) 0 b)) 26 (upd ((va_up g 25 (upd (g 25) 0 b)) 26) 0 c)) 27) 0 d)) 28)) (F := (upd ((va_up (va_up (va_up g 25 (upd (g 25) 0 b)) 26 (upd ((va_up g 25 (upd (g 25) 0 b)) 26) 0 c)) 27 (upd ((va_up (va_up g 25 (upd (g 25) 0 b)) 26 (upd ((va_up g 25 (upd (g 25) 0 b)) 26) 0 c)) 27) 0 d)) 28) 0 e)) C dX9_queue_157 (by omega) rfl rfl rfl ?_
                          refine j_iconst (x := 0) C dX9_queue_158 (by decide) ?_
                          have hs : S_X9_queue u g a b c d e = (0, (va_up (va_up (va_up (va_up g 25 (upd (g 25) 0 b)) 26 (upd ((va_up g 25 (upd (g 25) 0 b)) 26) 0 c)) 27 (upd ((va_up (va_up g 25 (upd (g 25) 0 b)) 26 (upd ((va_up g 25 (upd (g 25) 0 b)) 26) 0 c)) 27) 0 d)) 28 (upd ((va_up (va_up (va_up g 25 (upd (g 25) 0 b)) 26 (upd ((va_up g 25 (upd (g 25) 0 b)) 26) 0 c)) 27 (upd ((va_up (va_up g 25 (upd (g 25) 0 b)) 26 (upd ((va_up g 25 (upd (g 25) 0 b)) 26) 0 c)) 27) 0 d)) 28) 0 e))) := by unfold S_X9_queue; rw [if_neg c_1, if_pos c_2, if_neg c_3, if_pos c_4, if_neg c_5, if_pos c_12, if_neg c_13, if_pos c_14, if_neg c_15, if_pos c_16, if_neg c_17, if_pos c_18]
                          exact j_iret C hQ rfl dX9_queue_159 (dt_ifM hs)
                        · refine j_bipush (x := (-2)) C dX9_queue_125 (by decide) ?_
                          have hs : S_X9_queue u g a b c d e = ((-2), g) := by unfold S_X9_queue; rw [if_neg c_1, if_pos c_2, if_neg c_3, if_pos c_4, if_neg c_5, if_pos c_12, if_neg c_13, if_pos c_14, if_neg c_15, if_pos c_16, if_neg c_17, if_neg c_18]
                          exact j_iret C hQ rfl dX9_queue_127 (dt_ifM hs)
            · refine j_iload_n (i := 2) C dX9_queue_35 rfl 2 rfl ?_
              refine j_iconst (x := 4) C dX9_queue_36 (by decide) ?_
              refine j_icmp_eq (tgt := 55) C dX9_queue_37 (by decide) (fun c_19 => ?_) (fun c_19 => ?_)
              · refine j_iload_n (i := 3) C dX9_queue_55 rfl 3 rfl ?_
                refine j_iconst (x := 0) C dX9_queue_56 (by decide) ?_
                refine j_sipush (x := 4096) C dX9_queue_57 (by decide) ?_
                refine j_bipush (x := 16) C dX9_queue_60 (by decide) ?_
                refine j_iload_n (i := 2) C dX9_queue_62 rfl 2 rfl ?_
                refine j_imul C dX9_queue_63 ?_
                refine j_isub C dX9_queue_64 ?_
                refine c_S (As := [.int c, .int 0, .int (4096 - (16 * b))]) (rest := []) (st1 := [.int (S_X9_isIn u g c 0 (4096 - (16 * b)))]) C (c_X9_isIn ε ad v f u g c 0 (4096 - (16 * b))  ) mt_X9_isIn lm_X9_7 dX9_queue_65 rfl rfl (by decide) (Nat.le_of_ble_eq_true rfl) rfl ?_
                refine j_if_eq (tgt := 125) C dX9_queue_68 (by decide) (fun c_20 => ?_) (fun c_20 => ?_)
                · refine j_bipush (x := (-2)) C dX9_queue_125 (by decide) ?_
                  have hs : S_X9_queue u g a b c d e = ((-2), g) := by unfold S_X9_queue; rw [if_neg c_1, if_pos c_2, if_neg c_3, if_pos c_4, if_neg c_5, if_neg c_12, if_pos c_19, if_pos c_20]
                  exact j_iret C hQ rfl dX9_queue_127 (dt_ifM hs)
                · refine j_iload_n (i := 3) C dX9_queue_71 rfl 3 rfl ?_
                  refine j_bipush (x := 16) C dX9_queue_72 (by decide) ?_
                  refine j_irem C dX9_queue_74 (by decide) ?_
                  refine j_if_ne (tgt := 125) C dX9_queue_75 (by decide) (fun c_21 => ?_) (fun c_21 => ?_)
                  · refine j_bipush (x := (-2)) C dX9_queue_125 (by decide) ?_
                    have hs : S_X9_queue u g a b c d e = ((-2), g) := by unfold S_X9_queue; rw [if_neg c_1, if_pos c_2, if_neg c_3, if_pos c_4, if_neg c_5, if_neg c_12, if_pos c_19, if_neg c_20, if_neg c_21]
                    exact j_iret C hQ rfl dX9_queue_127 (dt_ifM hs)
                  · refine j_iload (i := 4) C dX9_queue_78 4 rfl ?_
                    refine j_iconst (x := 0) C dX9_queue_80 (by decide) ?_
                    refine j_sipush (x := 4092) C dX9_queue_81 (by decide) ?_
                    refine j_iconst (x := 2) C dX9_queue_84 (by decide) ?_
                    refine j_iload_n (i := 2) C dX9_queue_85 rfl 2 rfl ?_
                    refine j_imul C dX9_queue_86 ?_
                    refine j_isub C dX9_queue_87 ?_
                    refine c_S (As := [.int d, .int 0, .int (4092 - (2 * b))]) (rest := []) (st1 := [.int (S_X9_isIn u g d 0 (4092 - (2 * b)))]) C (c_X9_isIn ε ad v f u g d 0 (4092 - (2 * b))  ) mt_X9_isIn lm_X9_7 dX9_queue_88 rfl rfl (by decide) (Nat.le_of_ble_eq_true rfl) rfl ?_
                    refine j_if_eq (tgt := 125) C dX9_queue_91 (by decide) (fun c_22 => ?_) (fun c_22 => ?_)
                    · refine j_bipush (x := (-2)) C dX9_queue_125 (by decide) ?_
                      have hs : S_X9_queue u g a b c d e = ((-2), g) := by unfold S_X9_queue; rw [if_neg c_1, if_pos c_2, if_neg c_3, if_pos c_4, if_neg c_5, if_neg c_12, if_pos c_19, if_neg c_20, if_pos c_21, if_pos c_22]
                      exact j_iret C hQ rfl dX9_queue_127 (dt_ifM hs)
                    · refine j_iload (i := 4) C dX9_queue_94 4 rfl ?_
                      refine j_iconst (x := 2) C dX9_queue_96 (by decide) ?_
                      refine j_irem C dX9_queue_97 (by decide) ?_
                      refine j_if_ne (tgt := 125) C dX9_queue_98 (by decide) (fun c_23 => ?_) (fun c_23 => ?_)
                      · refine j_bipush (x := (-2)) C dX9_queue_125 (by decide) ?_
                        have hs : S_X9_queue u g a b c d e = ((-2), g) := by unfold S_X9_queue; rw [if_neg c_1, if_pos c_2, if_neg c_3, if_pos c_4, if_neg c_5, if_neg c_12, if_pos c_19, if_neg c_20, if_pos c_21, if_neg c_22, if_neg c_23]
                        exact j_iret C hQ rfl dX9_queue_127 (dt_ifM hs)
                      · refine j_iload (i := 5) C dX9_queue_101 5 rfl ?_
                        refine j_iconst (x := 0) C dX9_queue_103 (by decide) ?_
                        refine j_sipush (x := 4092) C dX9_queue_104 (by decide) ?_
                        refine j_bipush (x := 8) C dX9_queue_107 (by decide) ?_
                        refine j_iload_n (i := 2) C dX9_queue_109 rfl 2 rfl ?_
                        refine j_imul C dX9_queue_110 ?_
                        refine j_isub C dX9_queue_111 ?_
                        refine c_S (As := [.int e, .int 0, .int (4092 - (8 * b))]) (rest := []) (st1 := [.int (S_X9_isIn u g e 0 (4092 - (8 * b)))]) C (c_X9_isIn ε ad v f u g e 0 (4092 - (8 * b))  ) mt_X9_isIn lm_X9_7 dX9_queue_112 rfl rfl (by decide) (Nat.le_of_ble_eq_true rfl) rfl ?_
                        refine j_if_eq (tgt := 125) C dX9_queue_115 (by decide) (fun c_24 => ?_) (fun c_24 => ?_)
                        · refine j_bipush (x := (-2)) C dX9_queue_125 (by decide) ?_
                          have hs : S_X9_queue u g a b c d e = ((-2), g) := by unfold S_X9_queue; rw [if_neg c_1, if_pos c_2, if_neg c_3, if_pos c_4, if_neg c_5, if_neg c_12, if_pos c_19, if_neg c_20, if_pos c_21, if_neg c_22, if_pos c_23, if_pos c_24]
                          exact j_iret C hQ rfl dX9_queue_127 (dt_ifM hs)
                        · refine j_iload (i := 5) C dX9_queue_118 5 rfl ?_
                          refine j_iconst (x := 4) C dX9_queue_120 (by decide) ?_
                          refine j_irem C dX9_queue_121 (by decide) ?_
                          refine j_if_eq (tgt := 128) C dX9_queue_122 (by decide) (fun c_25 => ?_) (fun c_25 => ?_)
                          · refine j_aload_n (i := 0) C dX9_queue_128 rfl 0 rfl ?_
                            refine g_22_sizes C dX9_queue_129 lf_X9_11 ?_
                            refine j_iload_n (i := 1) C dX9_queue_132 rfl 1 rfl ?_
                            refine j_iload_n (i := 2) C dX9_queue_133 rfl 2 rfl ?_
                            refine asn_25 (q := 0) (F2 := (g 25)) (F := (upd (g 25) 0 b)) C dX9_queue_134 (by omega) rfl rfl rfl ?_
                            refine j_aload_n (i := 0) C dX9_queue_135 rfl 0 rfl ?_
                            refine g_22_descriptors C dX9_queue_136 lf_X9_49 ?_
                            refine j_iload_n (i := 1) C dX9_queue_139 rfl 1 rfl ?_
                            refine j_iload_n (i := 3) C dX9_queue_140 rfl 3 rfl ?_
                            refine asn_26 (q := 0) (F2 := ((va_up g 25 (upd (g 25) 0 b)) 26)) (F := (upd ((va_up g 25 (upd (g 25) 0 b)) 26) 0 c)) C dX9_queue_141 (by omega) rfl rfl rfl ?_
                            refine j_aload_n (i := 0) C dX9_queue_142 rfl 0 rfl ?_
                            refine g_22_availables C dX9_queue_143 lf_X9_52 ?_
                            refine j_iload_n (i := 1) C dX9_queue_146 rfl 1 rfl ?_
                            refine j_iload (i := 4) C dX9_queue_147 4 rfl ?_
                            refine asn_27 (q := 0) (F2 := ((va_up (va_up g 25 (upd (g 25) 0 b)) 26 (upd ((va_up g 25 (upd (g 25) 0 b)) 26) 0 c)) 27)) (F := (upd ((va_up (va_up g 25 (upd (g 25) 0 b)) 26 (upd ((va_up g 25 (upd (g 25) 0 b)) 26) 0 c)) 27) 0 d)) C dX9_queue_149 (by omega) rfl rfl rfl ?_
                            refine j_aload_n (i := 0) C dX9_queue_150 rfl 0 rfl ?_
                            refine g_22_useds C dX9_queue_151 lf_X9_55 ?_
                            refine j_iload_n (i := 1) C dX9_queue_154 rfl 1 rfl ?_
                            refine j_iload (i := 5) C dX9_queue_155 5 rfl ?_
                            refine asn_28 (q := 0) (F2 := ((va_up (va_up (va_up g 25 (upd (g 25) 0 b)) 26 (upd ((va_up g 25 (upd (g 25) 0 b)) 26) 0 c)) 27 (upd ((va_up (va_up g 25 (upd (g 25) 0 b)) 26 (upd ((va_up g 25 (upd (g 25) 0 b)) 26) 0 c)) 27) 0 d)) 28)) (F := (upd ((va_up (va_up (va_up g 25 (upd (g 25) 0 b)) 26 (upd ((va_up g 25 (upd (g 25) 0 b)) 26) 0 c)) 27 (upd ((va_up (va_up g 25 (upd (g 25) 0 b)) 26 (upd ((va_up g 25 (upd (g 25) 0 b)) 26) 0 c)) 27) 0 d)) 28) 0 e)) C dX9_queue_157 (by omega) rfl rfl rfl ?_
                            refine j_iconst (x := 0) C dX9_queue_158 (by decide) ?_
                            have hs : S_X9_queue u g a b c d e = (0, (va_up (va_up (va_up (va_up g 25 (upd (g 25) 0 b)) 26 (upd ((va_up g 25 (upd (g 25) 0 b)) 26) 0 c)) 27 (upd ((va_up (va_up g 25 (upd (g 25) 0 b)) 26 (upd ((va_up g 25 (upd (g 25) 0 b)) 26) 0 c)) 27) 0 d)) 28 (upd ((va_up (va_up (va_up g 25 (upd (g 25) 0 b)) 26 (upd ((va_up g 25 (upd (g 25) 0 b)) 26) 0 c)) 27 (upd ((va_up (va_up g 25 (upd (g 25) 0 b)) 26 (upd ((va_up g 25 (upd (g 25) 0 b)) 26) 0 c)) 27) 0 d)) 28) 0 e))) := by unfold S_X9_queue; rw [if_neg c_1, if_pos c_2, if_neg c_3, if_pos c_4, if_neg c_5, if_neg c_12, if_pos c_19, if_neg c_20, if_pos c_21, if_neg c_22, if_pos c_23, if_neg c_24, if_pos c_25]
                            exact j_iret C hQ rfl dX9_queue_159 (dt_ifM hs)
                          · refine j_bipush (x := (-2)) C dX9_queue_125 (by decide) ?_
                            have hs : S_X9_queue u g a b c d e = ((-2), g) := by unfold S_X9_queue; rw [if_neg c_1, if_pos c_2, if_neg c_3, if_pos c_4, if_neg c_5, if_neg c_12, if_pos c_19, if_neg c_20, if_pos c_21, if_neg c_22, if_pos c_23, if_neg c_24, if_neg c_25]
                            exact j_iret C hQ rfl dX9_queue_127 (dt_ifM hs)
              · refine j_iload_n (i := 2) C dX9_queue_40 rfl 2 rfl ?_
                refine j_bipush (x := 8) C dX9_queue_41 (by decide) ?_
                refine j_icmp_eq (tgt := 55) C dX9_queue_43 (by decide) (fun c_26 => ?_) (fun c_26 => ?_)
                · refine j_iload_n (i := 3) C dX9_queue_55 rfl 3 rfl ?_
                  refine j_iconst (x := 0) C dX9_queue_56 (by decide) ?_
                  refine j_sipush (x := 4096) C dX9_queue_57 (by decide) ?_
                  refine j_bipush (x := 16) C dX9_queue_60 (by decide) ?_
                  refine j_iload_n (i := 2) C dX9_queue_62 rfl 2 rfl ?_
                  refine j_imul C dX9_queue_63 ?_
                  refine j_isub C dX9_queue_64 ?_
                  refine c_S (As := [.int c, .int 0, .int (4096 - (16 * b))]) (rest := []) (st1 := [.int (S_X9_isIn u g c 0 (4096 - (16 * b)))]) C (c_X9_isIn ε ad v f u g c 0 (4096 - (16 * b))  ) mt_X9_isIn lm_X9_7 dX9_queue_65 rfl rfl (by decide) (Nat.le_of_ble_eq_true rfl) rfl ?_
                  refine j_if_eq (tgt := 125) C dX9_queue_68 (by decide) (fun c_27 => ?_) (fun c_27 => ?_)
                  · refine j_bipush (x := (-2)) C dX9_queue_125 (by decide) ?_
                    have hs : S_X9_queue u g a b c d e = ((-2), g) := by unfold S_X9_queue; rw [if_neg c_1, if_pos c_2, if_neg c_3, if_pos c_4, if_neg c_5, if_neg c_12, if_neg c_19, if_pos c_26, if_pos c_27]
                    exact j_iret C hQ rfl dX9_queue_127 (dt_ifM hs)
                  · refine j_iload_n (i := 3) C dX9_queue_71 rfl 3 rfl ?_
                    refine j_bipush (x := 16) C dX9_queue_72 (by decide) ?_
                    refine j_irem C dX9_queue_74 (by decide) ?_
                    refine j_if_ne (tgt := 125) C dX9_queue_75 (by decide) (fun c_28 => ?_) (fun c_28 => ?_)
                    · refine j_bipush (x := (-2)) C dX9_queue_125 (by decide) ?_
                      have hs : S_X9_queue u g a b c d e = ((-2), g) := by unfold S_X9_queue; rw [if_neg c_1, if_pos c_2, if_neg c_3, if_pos c_4, if_neg c_5, if_neg c_12, if_neg c_19, if_pos c_26, if_neg c_27, if_neg c_28]
                      exact j_iret C hQ rfl dX9_queue_127 (dt_ifM hs)
                    · refine j_iload (i := 4) C dX9_queue_78 4 rfl ?_
                      refine j_iconst (x := 0) C dX9_queue_80 (by decide) ?_
                      refine j_sipush (x := 4092) C dX9_queue_81 (by decide) ?_
                      refine j_iconst (x := 2) C dX9_queue_84 (by decide) ?_
                      refine j_iload_n (i := 2) C dX9_queue_85 rfl 2 rfl ?_
                      refine j_imul C dX9_queue_86 ?_
                      refine j_isub C dX9_queue_87 ?_
                      refine c_S (As := [.int d, .int 0, .int (4092 - (2 * b))]) (rest := []) (st1 := [.int (S_X9_isIn u g d 0 (4092 - (2 * b)))]) C (c_X9_isIn ε ad v f u g d 0 (4092 - (2 * b))  ) mt_X9_isIn lm_X9_7 dX9_queue_88 rfl rfl (by decide) (Nat.le_of_ble_eq_true rfl) rfl ?_
                      refine j_if_eq (tgt := 125) C dX9_queue_91 (by decide) (fun c_29 => ?_) (fun c_29 => ?_)
                      · refine j_bipush (x := (-2)) C dX9_queue_125 (by decide) ?_
                        have hs : S_X9_queue u g a b c d e = ((-2), g) := by unfold S_X9_queue; rw [if_neg c_1, if_pos c_2, if_neg c_3, if_pos c_4, if_neg c_5, if_neg c_12, if_neg c_19, if_pos c_26, if_neg c_27, if_pos c_28, if_pos c_29]
                        exact j_iret C hQ rfl dX9_queue_127 (dt_ifM hs)
                      · refine j_iload (i := 4) C dX9_queue_94 4 rfl ?_
                        refine j_iconst (x := 2) C dX9_queue_96 (by decide) ?_
                        refine j_irem C dX9_queue_97 (by decide) ?_
                        refine j_if_ne (tgt := 125) C dX9_queue_98 (by decide) (fun c_30 => ?_) (fun c_30 => ?_)
                        · refine j_bipush (x := (-2)) C dX9_queue_125 (by decide) ?_
                          have hs : S_X9_queue u g a b c d e = ((-2), g) := by unfold S_X9_queue; rw [if_neg c_1, if_pos c_2, if_neg c_3, if_pos c_4, if_neg c_5, if_neg c_12, if_neg c_19, if_pos c_26, if_neg c_27, if_pos c_28, if_neg c_29, if_neg c_30]
                          exact j_iret C hQ rfl dX9_queue_127 (dt_ifM hs)
                        · refine j_iload (i := 5) C dX9_queue_101 5 rfl ?_
                          refine j_iconst (x := 0) C dX9_queue_103 (by decide) ?_
                          refine j_sipush (x := 4092) C dX9_queue_104 (by decide) ?_
                          refine j_bipush (x := 8) C dX9_queue_107 (by decide) ?_
                          refine j_iload_n (i := 2) C dX9_queue_109 rfl 2 rfl ?_
                          refine j_imul C dX9_queue_110 ?_
                          refine j_isub C dX9_queue_111 ?_
                          refine c_S (As := [.int e, .int 0, .int (4092 - (8 * b))]) (rest := []) (st1 := [.int (S_X9_isIn u g e 0 (4092 - (8 * b)))]) C (c_X9_isIn ε ad v f u g e 0 (4092 - (8 * b))  ) mt_X9_isIn lm_X9_7 dX9_queue_112 rfl rfl (by decide) (Nat.le_of_ble_eq_true rfl) rfl ?_
                          refine j_if_eq (tgt := 125) C dX9_queue_115 (by decide) (fun c_31 => ?_) (fun c_31 => ?_)
                          · refine j_bipush (x := (-2)) C dX9_queue_125 (by decide) ?_
                            have hs : S_X9_queue u g a b c d e = ((-2), g) := by unfold S_X9_queue; rw [if_neg c_1, if_pos c_2, if_neg c_3, if_pos c_4, if_neg c_5, if_neg c_12, if_neg c_19, if_pos c_26, if_neg c_27, if_pos c_28, if_neg c_29, if_pos c_30, if_pos c_31]
                            exact j_iret C hQ rfl dX9_queue_127 (dt_ifM hs)
                          · refine j_iload (i := 5) C dX9_queue_118 5 rfl ?_
                            refine j_iconst (x := 4) C dX9_queue_120 (by decide) ?_
                            refine j_irem C dX9_queue_121 (by decide) ?_
                            refine j_if_eq (tgt := 128) C dX9_queue_122 (by decide) (fun c_32 => ?_) (fun c_32 => ?_)
                            · refine j_aload_n (i := 0) C dX9_queue_128 rfl 0 rfl ?_
                              refine g_22_sizes C dX9_queue_129 lf_X9_11 ?_
                              refine j_iload_n (i := 1) C dX9_queue_132 rfl 1 rfl ?_
                              refine j_iload_n (i := 2) C dX9_queue_133 rfl 2 rfl ?_
                              refine asn_25 (q := 0) (F2 := (g 25)) (F := (upd (g 25) 0 b)) C dX9_queue_134 (by omega) rfl rfl rfl ?_
                              refine j_aload_n (i := 0) C dX9_queue_135 rfl 0 rfl ?_
                              refine g_22_descriptors C dX9_queue_136 lf_X9_49 ?_
                              refine j_iload_n (i := 1) C dX9_queue_139 rfl 1 rfl ?_
                              refine j_iload_n (i := 3) C dX9_queue_140 rfl 3 rfl ?_
                              refine asn_26 (q := 0) (F2 := ((va_up g 25 (upd (g 25) 0 b)) 26)) (F := (upd ((va_up g 25 (upd (g 25) 0 b)) 26) 0 c)) C dX9_queue_141 (by omega) rfl rfl rfl ?_
                              refine j_aload_n (i := 0) C dX9_queue_142 rfl 0 rfl ?_
                              refine g_22_availables C dX9_queue_143 lf_X9_52 ?_
                              refine j_iload_n (i := 1) C dX9_queue_146 rfl 1 rfl ?_
                              refine j_iload (i := 4) C dX9_queue_147 4 rfl ?_
                              refine asn_27 (q := 0) (F2 := ((va_up (va_up g 25 (upd (g 25) 0 b)) 26 (upd ((va_up g 25 (upd (g 25) 0 b)) 26) 0 c)) 27)) (F := (upd ((va_up (va_up g 25 (upd (g 25) 0 b)) 26 (upd ((va_up g 25 (upd (g 25) 0 b)) 26) 0 c)) 27) 0 d)) C dX9_queue_149 (by omega) rfl rfl rfl ?_
                              refine j_aload_n (i := 0) C dX9_queue_150 rfl 0 rfl ?_
                              refine g_22_useds C dX9_queue_151 lf_X9_55 ?_
                              refine j_iload_n (i := 1) C dX9_queue_154 rfl 1 rfl ?_
                              refine j_iload (i := 5) C dX9_queue_155 5 rfl ?_
                              refine asn_28 (q := 0) (F2 := ((va_up (va_up (va_up g 25 (upd (g 25) 0 b)) 26 (upd ((va_up g 25 (upd (g 25) 0 b)) 26) 0 c)) 27 (upd ((va_up (va_up g 25 (upd (g 25) 0 b)) 26 (upd ((va_up g 25 (upd (g 25) 0 b)) 26) 0 c)) 27) 0 d)) 28)) (F := (upd ((va_up (va_up (va_up g 25 (upd (g 25) 0 b)) 26 (upd ((va_up g 25 (upd (g 25) 0 b)) 26) 0 c)) 27 (upd ((va_up (va_up g 25 (upd (g 25) 0 b)) 26 (upd ((va_up g 25 (upd (g 25) 0 b)) 26) 0 c)) 27) 0 d)) 28) 0 e)) C dX9_queue_157 (by omega) rfl rfl rfl ?_
                              refine j_iconst (x := 0) C dX9_queue_158 (by decide) ?_
                              have hs : S_X9_queue u g a b c d e = (0, (va_up (va_up (va_up (va_up g 25 (upd (g 25) 0 b)) 26 (upd ((va_up g 25 (upd (g 25) 0 b)) 26) 0 c)) 27 (upd ((va_up (va_up g 25 (upd (g 25) 0 b)) 26 (upd ((va_up g 25 (upd (g 25) 0 b)) 26) 0 c)) 27) 0 d)) 28 (upd ((va_up (va_up (va_up g 25 (upd (g 25) 0 b)) 26 (upd ((va_up g 25 (upd (g 25) 0 b)) 26) 0 c)) 27 (upd ((va_up (va_up g 25 (upd (g 25) 0 b)) 26 (upd ((va_up g 25 (upd (g 25) 0 b)) 26) 0 c)) 27) 0 d)) 28) 0 e))) := by unfold S_X9_queue; rw [if_neg c_1, if_pos c_2, if_neg c_3, if_pos c_4, if_neg c_5, if_neg c_12, if_neg c_19, if_pos c_26, if_neg c_27, if_pos c_28, if_neg c_29, if_pos c_30, if_neg c_31, if_pos c_32]
                              exact j_iret C hQ rfl dX9_queue_159 (dt_ifM hs)
                            · refine j_bipush (x := (-2)) C dX9_queue_125 (by decide) ?_
                              have hs : S_X9_queue u g a b c d e = ((-2), g) := by unfold S_X9_queue; rw [if_neg c_1, if_pos c_2, if_neg c_3, if_pos c_4, if_neg c_5, if_neg c_12, if_neg c_19, if_pos c_26, if_neg c_27, if_pos c_28, if_neg c_29, if_pos c_30, if_neg c_31, if_neg c_32]
                              exact j_iret C hQ rfl dX9_queue_127 (dt_ifM hs)
                · refine j_iload_n (i := 2) C dX9_queue_46 rfl 2 rfl ?_
                  refine j_bipush (x := 16) C dX9_queue_47 (by decide) ?_
                  refine j_icmp_eq (tgt := 55) C dX9_queue_49 (by decide) (fun c_33 => ?_) (fun c_33 => ?_)
                  · refine j_iload_n (i := 3) C dX9_queue_55 rfl 3 rfl ?_
                    refine j_iconst (x := 0) C dX9_queue_56 (by decide) ?_
                    refine j_sipush (x := 4096) C dX9_queue_57 (by decide) ?_
                    refine j_bipush (x := 16) C dX9_queue_60 (by decide) ?_
                    refine j_iload_n (i := 2) C dX9_queue_62 rfl 2 rfl ?_
                    refine j_imul C dX9_queue_63 ?_
                    refine j_isub C dX9_queue_64 ?_
                    refine c_S (As := [.int c, .int 0, .int (4096 - (16 * b))]) (rest := []) (st1 := [.int (S_X9_isIn u g c 0 (4096 - (16 * b)))]) C (c_X9_isIn ε ad v f u g c 0 (4096 - (16 * b))  ) mt_X9_isIn lm_X9_7 dX9_queue_65 rfl rfl (by decide) (Nat.le_of_ble_eq_true rfl) rfl ?_
                    refine j_if_eq (tgt := 125) C dX9_queue_68 (by decide) (fun c_34 => ?_) (fun c_34 => ?_)
                    · refine j_bipush (x := (-2)) C dX9_queue_125 (by decide) ?_
                      have hs : S_X9_queue u g a b c d e = ((-2), g) := by unfold S_X9_queue; rw [if_neg c_1, if_pos c_2, if_neg c_3, if_pos c_4, if_neg c_5, if_neg c_12, if_neg c_19, if_neg c_26, if_pos c_33, if_pos c_34]
                      exact j_iret C hQ rfl dX9_queue_127 (dt_ifM hs)
                    · refine j_iload_n (i := 3) C dX9_queue_71 rfl 3 rfl ?_
                      refine j_bipush (x := 16) C dX9_queue_72 (by decide) ?_
                      refine j_irem C dX9_queue_74 (by decide) ?_
                      refine j_if_ne (tgt := 125) C dX9_queue_75 (by decide) (fun c_35 => ?_) (fun c_35 => ?_)
                      · refine j_bipush (x := (-2)) C dX9_queue_125 (by decide) ?_
                        have hs : S_X9_queue u g a b c d e = ((-2), g) := by unfold S_X9_queue; rw [if_neg c_1, if_pos c_2, if_neg c_3, if_pos c_4, if_neg c_5, if_neg c_12, if_neg c_19, if_neg c_26, if_pos c_33, if_neg c_34, if_neg c_35]
                        exact j_iret C hQ rfl dX9_queue_127 (dt_ifM hs)
                      · refine j_iload (i := 4) C dX9_queue_78 4 rfl ?_
                        refine j_iconst (x := 0) C dX9_queue_80 (by decide) ?_
                        refine j_sipush (x := 4092) C dX9_queue_81 (by decide) ?_
                        refine j_iconst (x := 2) C dX9_queue_84 (by decide) ?_
                        refine j_iload_n (i := 2) C dX9_queue_85 rfl 2 rfl ?_
                        refine j_imul C dX9_queue_86 ?_
                        refine j_isub C dX9_queue_87 ?_
                        refine c_S (As := [.int d, .int 0, .int (4092 - (2 * b))]) (rest := []) (st1 := [.int (S_X9_isIn u g d 0 (4092 - (2 * b)))]) C (c_X9_isIn ε ad v f u g d 0 (4092 - (2 * b))  ) mt_X9_isIn lm_X9_7 dX9_queue_88 rfl rfl (by decide) (Nat.le_of_ble_eq_true rfl) rfl ?_
                        refine j_if_eq (tgt := 125) C dX9_queue_91 (by decide) (fun c_36 => ?_) (fun c_36 => ?_)
                        · refine j_bipush (x := (-2)) C dX9_queue_125 (by decide) ?_
                          have hs : S_X9_queue u g a b c d e = ((-2), g) := by unfold S_X9_queue; rw [if_neg c_1, if_pos c_2, if_neg c_3, if_pos c_4, if_neg c_5, if_neg c_12, if_neg c_19, if_neg c_26, if_pos c_33, if_neg c_34, if_pos c_35, if_pos c_36]
                          exact j_iret C hQ rfl dX9_queue_127 (dt_ifM hs)
                        · refine j_iload (i := 4) C dX9_queue_94 4 rfl ?_
                          refine j_iconst (x := 2) C dX9_queue_96 (by decide) ?_
                          refine j_irem C dX9_queue_97 (by decide) ?_
                          refine j_if_ne (tgt := 125) C dX9_queue_98 (by decide) (fun c_37 => ?_) (fun c_37 => ?_)
                          · refine j_bipush (x := (-2)) C dX9_queue_125 (by decide) ?_
                            have hs : S_X9_queue u g a b c d e = ((-2), g) := by unfold S_X9_queue; rw [if_neg c_1, if_pos c_2, if_neg c_3, if_pos c_4, if_neg c_5, if_neg c_12, if_neg c_19, if_neg c_26, if_pos c_33, if_neg c_34, if_pos c_35, if_neg c_36, if_neg c_37]
                            exact j_iret C hQ rfl dX9_queue_127 (dt_ifM hs)
                          · refine j_iload (i := 5) C dX9_queue_101 5 rfl ?_
                            refine j_iconst (x := 0) C dX9_queue_103 (by decide) ?_
                            refine j_sipush (x := 4092) C dX9_queue_104 (by decide) ?_
                            refine j_bipush (x := 8) C dX9_queue_107 (by decide) ?_
                            refine j_iload_n (i := 2) C dX9_queue_109 rfl 2 rfl ?_
                            refine j_imul C dX9_queue_110 ?_
                            refine j_isub C dX9_queue_111 ?_
                            refine c_S (As := [.int e, .int 0, .int (4092 - (8 * b))]) (rest := []) (st1 := [.int (S_X9_isIn u g e 0 (4092 - (8 * b)))]) C (c_X9_isIn ε ad v f u g e 0 (4092 - (8 * b))  ) mt_X9_isIn lm_X9_7 dX9_queue_112 rfl rfl (by decide) (Nat.le_of_ble_eq_true rfl) rfl ?_
                            refine j_if_eq (tgt := 125) C dX9_queue_115 (by decide) (fun c_38 => ?_) (fun c_38 => ?_)
                            · refine j_bipush (x := (-2)) C dX9_queue_125 (by decide) ?_
                              have hs : S_X9_queue u g a b c d e = ((-2), g) := by unfold S_X9_queue; rw [if_neg c_1, if_pos c_2, if_neg c_3, if_pos c_4, if_neg c_5, if_neg c_12, if_neg c_19, if_neg c_26, if_pos c_33, if_neg c_34, if_pos c_35, if_neg c_36, if_pos c_37, if_pos c_38]
                              exact j_iret C hQ rfl dX9_queue_127 (dt_ifM hs)
                            · refine j_iload (i := 5) C dX9_queue_118 5 rfl ?_
                              refine j_iconst (x := 4) C dX9_queue_120 (by decide) ?_
                              refine j_irem C dX9_queue_121 (by decide) ?_
                              refine j_if_eq (tgt := 128) C dX9_queue_122 (by decide) (fun c_39 => ?_) (fun c_39 => ?_)
                              · refine j_aload_n (i := 0) C dX9_queue_128 rfl 0 rfl ?_
                                refine g_22_sizes C dX9_queue_129 lf_X9_11 ?_
                                refine j_iload_n (i := 1) C dX9_queue_132 rfl 1 rfl ?_
                                refine j_iload_n (i := 2) C dX9_queue_133 rfl 2 rfl ?_
                                refine asn_25 (q := 0) (F2 := (g 25)) (F := (upd (g 25) 0 b)) C dX9_queue_134 (by omega) rfl rfl rfl ?_
                                refine j_aload_n (i := 0) C dX9_queue_135 rfl 0 rfl ?_
                                refine g_22_descriptors C dX9_queue_136 lf_X9_49 ?_
                                refine j_iload_n (i := 1) C dX9_queue_139 rfl 1 rfl ?_
                                refine j_iload_n (i := 3) C dX9_queue_140 rfl 3 rfl ?_
                                refine asn_26 (q := 0) (F2 := ((va_up g 25 (upd (g 25) 0 b)) 26)) (F := (upd ((va_up g 25 (upd (g 25) 0 b)) 26) 0 c)) C dX9_queue_141 (by omega) rfl rfl rfl ?_
                                refine j_aload_n (i := 0) C dX9_queue_142 rfl 0 rfl ?_
                                refine g_22_availables C dX9_queue_143 lf_X9_52 ?_
                                refine j_iload_n (i := 1) C dX9_queue_146 rfl 1 rfl ?_
                                refine j_iload (i := 4) C dX9_queue_147 4 rfl ?_
                                refine asn_27 (q := 0) (F2 := ((va_up (va_up g 25 (upd (g 25) 0 b)) 26 (upd ((va_up g 25 (upd (g 25) 0 b)) 26) 0 c)) 27)) (F := (upd ((va_up (va_up g 25 (upd (g 25) 0 b)) 26 (upd ((va_up g 25 (upd (g 25) 0 b)) 26) 0 c)) 27) 0 d)) C dX9_queue_149 (by omega) rfl rfl rfl ?_
                                refine j_aload_n (i := 0) C dX9_queue_150 rfl 0 rfl ?_
                                refine g_22_useds C dX9_queue_151 lf_X9_55 ?_
                                refine j_iload_n (i := 1) C dX9_queue_154 rfl 1 rfl ?_
                                refine j_iload (i := 5) C dX9_queue_155 5 rfl ?_
                                refine asn_28 (q := 0) (F2 := ((va_up (va_up (va_up g 25 (upd (g 25) 0 b)) 26 (upd ((va_up g 25 (upd (g 25) 0 b)) 26) 0 c)) 27 (upd ((va_up (va_up g 25 (upd (g 25) 0 b)) 26 (upd ((va_up g 25 (upd (g 25) 0 b)) 26) 0 c)) 27) 0 d)) 28)) (F := (upd ((va_up (va_up (va_up g 25 (upd (g 25) 0 b)) 26 (upd ((va_up g 25 (upd (g 25) 0 b)) 26) 0 c)) 27 (upd ((va_up (va_up g 25 (upd (g 25) 0 b)) 26 (upd ((va_up g 25 (upd (g 25) 0 b)) 26) 0 c)) 27) 0 d)) 28) 0 e)) C dX9_queue_157 (by omega) rfl rfl rfl ?_
                                refine j_iconst (x := 0) C dX9_queue_158 (by decide) ?_
                                have hs : S_X9_queue u g a b c d e = (0, (va_up (va_up (va_up (va_up g 25 (upd (g 25) 0 b)) 26 (upd ((va_up g 25 (upd (g 25) 0 b)) 26) 0 c)) 27 (upd ((va_up (va_up g 25 (upd (g 25) 0 b)) 26 (upd ((va_up g 25 (upd (g 25) 0 b)) 26) 0 c)) 27) 0 d)) 28 (upd ((va_up (va_up (va_up g 25 (upd (g 25) 0 b)) 26 (upd ((va_up g 25 (upd (g 25) 0 b)) 26) 0 c)) 27 (upd ((va_up (va_up g 25 (upd (g 25) 0 b)) 26 (upd ((va_up g 25 (upd (g 25) 0 b)) 26) 0 c)) 27) 0 d)) 28) 0 e))) := by unfold S_X9_queue; rw [if_neg c_1, if_pos c_2, if_neg c_3, if_pos c_4, if_neg c_5, if_neg c_12, if_neg c_19, if_neg c_26, if_pos c_33, if_neg c_34, if_pos c_35, if_neg c_36, if_pos c_37, if_neg c_38, if_pos c_39]
                                exact j_iret C hQ rfl dX9_queue_159 (dt_ifM hs)
                              · refine j_bipush (x := (-2)) C dX9_queue_125 (by decide) ?_
                                have hs : S_X9_queue u g a b c d e = ((-2), g) := by unfold S_X9_queue; rw [if_neg c_1, if_pos c_2, if_neg c_3, if_pos c_4, if_neg c_5, if_neg c_12, if_neg c_19, if_neg c_26, if_pos c_33, if_neg c_34, if_pos c_35, if_neg c_36, if_pos c_37, if_neg c_38, if_neg c_39]
                                exact j_iret C hQ rfl dX9_queue_127 (dt_ifM hs)
                  · refine j_bipush (x := (-2)) C dX9_queue_52 (by decide) ?_
                    have hs : S_X9_queue u g a b c d e = ((-2), g) := by unfold S_X9_queue; rw [if_neg c_1, if_pos c_2, if_neg c_3, if_pos c_4, if_neg c_5, if_neg c_12, if_neg c_19, if_neg c_26, if_neg c_33]
                    exact j_iret C hQ rfl dX9_queue_54 (dt_ifM hs)
    · by_cases c_40 : a = 1
      · refine j_to (lv2 := [(0, .ref (ad 22)), (1, .int 1), (2, .int b), (3, .int c), (4, .int d), (5, .int e)]) (st' := []) rfl (by first | rfl | (rw [c_40]; rfl)) (by first | rfl | (rw [c_40]; rfl) | rw [c_40]) ?_
        refine j_aload_n (i := 0) C dX9_queue_9 rfl 0 rfl ?_
        refine g_22_sizes C dX9_queue_10 lf_X9_11 ?_
        refine j_iload_n (i := 1) C dX9_queue_13 rfl 1 rfl ?_
        refine aln_25 (q := 1) (F := (g 25)) C dX9_queue_14 (by omega) rfl rfl ?_
        refine j_if_gt (tgt := 52) C dX9_queue_15 (by decide) (fun c_41 => ?_) (fun c_41 => ?_)
        · refine j_bipush (x := (-2)) C dX9_queue_52 (by decide) ?_
          have hs : S_X9_queue u g a b c d e = ((-2), g) := by unfold S_X9_queue; rw [if_neg c_1, if_neg c_2, if_pos c_40, if_pos c_41]
          exact j_iret C hQ rfl dX9_queue_54 (dt_ifM hs)
        · refine j_aload_n (i := 0) C dX9_queue_18 rfl 0 rfl ?_
          refine g_22_state (x := (u 0)) C dX9_queue_19 lf_X9_86 rfl ?_
          refine j_if_ne (tgt := 52) C dX9_queue_22 (by decide) (fun c_42 => ?_) (fun c_42 => ?_)
          · refine j_bipush (x := (-2)) C dX9_queue_52 (by decide) ?_
            have hs : S_X9_queue u g a b c d e = ((-2), g) := by unfold S_X9_queue; rw [if_neg c_1, if_neg c_2, if_pos c_40, if_neg c_41, if_neg c_42]
            exact j_iret C hQ rfl dX9_queue_54 (dt_ifM hs)
          · refine j_iload_n (i := 2) C dX9_queue_25 rfl 2 rfl ?_
            refine j_iconst (x := 1) C dX9_queue_26 (by decide) ?_
            refine j_icmp_eq (tgt := 55) C dX9_queue_27 (by decide) (fun c_43 => ?_) (fun c_43 => ?_)
            · refine j_iload_n (i := 3) C dX9_queue_55 rfl 3 rfl ?_
              refine j_iconst (x := 0) C dX9_queue_56 (by decide) ?_
              refine j_sipush (x := 4096) C dX9_queue_57 (by decide) ?_
              refine j_bipush (x := 16) C dX9_queue_60 (by decide) ?_
              refine j_iload_n (i := 2) C dX9_queue_62 rfl 2 rfl ?_
              refine j_imul C dX9_queue_63 ?_
              refine j_isub C dX9_queue_64 ?_
              refine c_S (As := [.int c, .int 0, .int (4096 - (16 * b))]) (rest := []) (st1 := [.int (S_X9_isIn u g c 0 (4096 - (16 * b)))]) C (c_X9_isIn ε ad v f u g c 0 (4096 - (16 * b))  ) mt_X9_isIn lm_X9_7 dX9_queue_65 rfl rfl (by decide) (Nat.le_of_ble_eq_true rfl) rfl ?_
              refine j_if_eq (tgt := 125) C dX9_queue_68 (by decide) (fun c_44 => ?_) (fun c_44 => ?_)
              · refine j_bipush (x := (-2)) C dX9_queue_125 (by decide) ?_
                have hs : S_X9_queue u g a b c d e = ((-2), g) := by unfold S_X9_queue; rw [if_neg c_1, if_neg c_2, if_pos c_40, if_neg c_41, if_pos c_42, if_pos c_43, if_pos c_44]
                exact j_iret C hQ rfl dX9_queue_127 (dt_ifM hs)
              · refine j_iload_n (i := 3) C dX9_queue_71 rfl 3 rfl ?_
                refine j_bipush (x := 16) C dX9_queue_72 (by decide) ?_
                refine j_irem C dX9_queue_74 (by decide) ?_
                refine j_if_ne (tgt := 125) C dX9_queue_75 (by decide) (fun c_45 => ?_) (fun c_45 => ?_)
                · refine j_bipush (x := (-2)) C dX9_queue_125 (by decide) ?_
                  have hs : S_X9_queue u g a b c d e = ((-2), g) := by unfold S_X9_queue; rw [if_neg c_1, if_neg c_2, if_pos c_40, if_neg c_41, if_pos c_42, if_pos c_43, if_neg c_44, if_neg c_45]
                  exact j_iret C hQ rfl dX9_queue_127 (dt_ifM hs)
                · refine j_iload (i := 4) C dX9_queue_78 4 rfl ?_
                  refine j_iconst (x := 0) C dX9_queue_80 (by decide) ?_
                  refine j_sipush (x := 4092) C dX9_queue_81 (by decide) ?_
                  refine j_iconst (x := 2) C dX9_queue_84 (by decide) ?_
                  refine j_iload_n (i := 2) C dX9_queue_85 rfl 2 rfl ?_
                  refine j_imul C dX9_queue_86 ?_
                  refine j_isub C dX9_queue_87 ?_
                  refine c_S (As := [.int d, .int 0, .int (4092 - (2 * b))]) (rest := []) (st1 := [.int (S_X9_isIn u g d 0 (4092 - (2 * b)))]) C (c_X9_isIn ε ad v f u g d 0 (4092 - (2 * b))  ) mt_X9_isIn lm_X9_7 dX9_queue_88 rfl rfl (by decide) (Nat.le_of_ble_eq_true rfl) rfl ?_
                  refine j_if_eq (tgt := 125) C dX9_queue_91 (by decide) (fun c_46 => ?_) (fun c_46 => ?_)
                  · refine j_bipush (x := (-2)) C dX9_queue_125 (by decide) ?_
                    have hs : S_X9_queue u g a b c d e = ((-2), g) := by unfold S_X9_queue; rw [if_neg c_1, if_neg c_2, if_pos c_40, if_neg c_41, if_pos c_42, if_pos c_43, if_neg c_44, if_pos c_45, if_pos c_46]
                    exact j_iret C hQ rfl dX9_queue_127 (dt_ifM hs)
                  · refine j_iload (i := 4) C dX9_queue_94 4 rfl ?_
                    refine j_iconst (x := 2) C dX9_queue_96 (by decide) ?_
                    refine j_irem C dX9_queue_97 (by decide) ?_
                    refine j_if_ne (tgt := 125) C dX9_queue_98 (by decide) (fun c_47 => ?_) (fun c_47 => ?_)
                    · refine j_bipush (x := (-2)) C dX9_queue_125 (by decide) ?_
                      have hs : S_X9_queue u g a b c d e = ((-2), g) := by unfold S_X9_queue; rw [if_neg c_1, if_neg c_2, if_pos c_40, if_neg c_41, if_pos c_42, if_pos c_43, if_neg c_44, if_pos c_45, if_neg c_46, if_neg c_47]
                      exact j_iret C hQ rfl dX9_queue_127 (dt_ifM hs)
                    · refine j_iload (i := 5) C dX9_queue_101 5 rfl ?_
                      refine j_iconst (x := 0) C dX9_queue_103 (by decide) ?_
                      refine j_sipush (x := 4092) C dX9_queue_104 (by decide) ?_
                      refine j_bipush (x := 8) C dX9_queue_107 (by decide) ?_
                      refine j_iload_n (i := 2) C dX9_queue_109 rfl 2 rfl ?_
                      refine j_imul C dX9_queue_110 ?_
                      refine j_isub C dX9_queue_111 ?_
                      refine c_S (As := [.int e, .int 0, .int (4092 - (8 * b))]) (rest := []) (st1 := [.int (S_X9_isIn u g e 0 (4092 - (8 * b)))]) C (c_X9_isIn ε ad v f u g e 0 (4092 - (8 * b))  ) mt_X9_isIn lm_X9_7 dX9_queue_112 rfl rfl (by decide) (Nat.le_of_ble_eq_true rfl) rfl ?_
                      refine j_if_eq (tgt := 125) C dX9_queue_115 (by decide) (fun c_48 => ?_) (fun c_48 => ?_)
                      · refine j_bipush (x := (-2)) C dX9_queue_125 (by decide) ?_
                        have hs : S_X9_queue u g a b c d e = ((-2), g) := by unfold S_X9_queue; rw [if_neg c_1, if_neg c_2, if_pos c_40, if_neg c_41, if_pos c_42, if_pos c_43, if_neg c_44, if_pos c_45, if_neg c_46, if_pos c_47, if_pos c_48]
                        exact j_iret C hQ rfl dX9_queue_127 (dt_ifM hs)
                      · refine j_iload (i := 5) C dX9_queue_118 5 rfl ?_
                        refine j_iconst (x := 4) C dX9_queue_120 (by decide) ?_
                        refine j_irem C dX9_queue_121 (by decide) ?_
                        refine j_if_eq (tgt := 128) C dX9_queue_122 (by decide) (fun c_49 => ?_) (fun c_49 => ?_)
                        · refine j_aload_n (i := 0) C dX9_queue_128 rfl 0 rfl ?_
                          refine g_22_sizes C dX9_queue_129 lf_X9_11 ?_
                          refine j_iload_n (i := 1) C dX9_queue_132 rfl 1 rfl ?_
                          refine j_iload_n (i := 2) C dX9_queue_133 rfl 2 rfl ?_
                          refine asn_25 (q := 1) (F2 := (g 25)) (F := (upd (g 25) 1 b)) C dX9_queue_134 (by omega) rfl rfl rfl ?_
                          refine j_aload_n (i := 0) C dX9_queue_135 rfl 0 rfl ?_
                          refine g_22_descriptors C dX9_queue_136 lf_X9_49 ?_
                          refine j_iload_n (i := 1) C dX9_queue_139 rfl 1 rfl ?_
                          refine j_iload_n (i := 3) C dX9_queue_140 rfl 3 rfl ?_
                          refine asn_26 (q := 1) (F2 := ((va_up g 25 (upd (g 25) 1 b)) 26)) (F := (upd ((va_up g 25 (upd (g 25) 1 b)) 26) 1 c)) C dX9_queue_141 (by omega) rfl rfl rfl ?_
                          refine j_aload_n (i := 0) C dX9_queue_142 rfl 0 rfl ?_
                          refine g_22_availables C dX9_queue_143 lf_X9_52 ?_
                          refine j_iload_n (i := 1) C dX9_queue_146 rfl 1 rfl ?_
                          refine j_iload (i := 4) C dX9_queue_147 4 rfl ?_
                          refine asn_27 (q := 1) (F2 := ((va_up (va_up g 25 (upd (g 25) 1 b)) 26 (upd ((va_up g 25 (upd (g 25) 1 b)) 26) 1 c)) 27)) (F := (upd ((va_up (va_up g 25 (upd (g 25) 1 b)) 26 (upd ((va_up g 25 (upd (g 25) 1 b)) 26) 1 c)) 27) 1 d)) C dX9_queue_149 (by omega) rfl rfl rfl ?_
                          refine j_aload_n (i := 0) C dX9_queue_150 rfl 0 rfl ?_
                          refine g_22_useds C dX9_queue_151 lf_X9_55 ?_
                          refine j_iload_n (i := 1) C dX9_queue_154 rfl 1 rfl ?_
                          refine j_iload (i := 5) C dX9_queue_155 5 rfl ?_
                          refine asn_28 (q := 1) (F2 := ((va_up (va_up (va_up g 25 (upd (g 25) 1 b)) 26 (upd ((va_up g 25 (upd (g 25) 1 b)) 26) 1 c)) 27 (upd ((va_up (va_up g 25 (upd (g 25) 1 b)) 26 (upd ((va_up g 25 (upd (g 25) 1 b)) 26) 1 c)) 27) 1 d)) 28)) (F := (upd ((va_up (va_up (va_up g 25 (upd (g 25) 1 b)) 26 (upd ((va_up g 25 (upd (g 25) 1 b)) 26) 1 c)) 27 (upd ((va_up (va_up g 25 (upd (g 25) 1 b)) 26 (upd ((va_up g 25 (upd (g 25) 1 b)) 26) 1 c)) 27) 1 d)) 28) 1 e)) C dX9_queue_157 (by omega) rfl rfl rfl ?_
                          refine j_iconst (x := 0) C dX9_queue_158 (by decide) ?_
                          have hs : S_X9_queue u g a b c d e = (0, (va_up (va_up (va_up (va_up g 25 (upd (g 25) 1 b)) 26 (upd ((va_up g 25 (upd (g 25) 1 b)) 26) 1 c)) 27 (upd ((va_up (va_up g 25 (upd (g 25) 1 b)) 26 (upd ((va_up g 25 (upd (g 25) 1 b)) 26) 1 c)) 27) 1 d)) 28 (upd ((va_up (va_up (va_up g 25 (upd (g 25) 1 b)) 26 (upd ((va_up g 25 (upd (g 25) 1 b)) 26) 1 c)) 27 (upd ((va_up (va_up g 25 (upd (g 25) 1 b)) 26 (upd ((va_up g 25 (upd (g 25) 1 b)) 26) 1 c)) 27) 1 d)) 28) 1 e))) := by unfold S_X9_queue; rw [if_neg c_1, if_neg c_2, if_pos c_40, if_neg c_41, if_pos c_42, if_pos c_43, if_neg c_44, if_pos c_45, if_neg c_46, if_pos c_47, if_neg c_48, if_pos c_49]
                          exact j_iret C hQ rfl dX9_queue_159 (dt_ifM hs)
                        · refine j_bipush (x := (-2)) C dX9_queue_125 (by decide) ?_
                          have hs : S_X9_queue u g a b c d e = ((-2), g) := by unfold S_X9_queue; rw [if_neg c_1, if_neg c_2, if_pos c_40, if_neg c_41, if_pos c_42, if_pos c_43, if_neg c_44, if_pos c_45, if_neg c_46, if_pos c_47, if_neg c_48, if_neg c_49]
                          exact j_iret C hQ rfl dX9_queue_127 (dt_ifM hs)
            · refine j_iload_n (i := 2) C dX9_queue_30 rfl 2 rfl ?_
              refine j_iconst (x := 2) C dX9_queue_31 (by decide) ?_
              refine j_icmp_eq (tgt := 55) C dX9_queue_32 (by decide) (fun c_50 => ?_) (fun c_50 => ?_)
              · refine j_iload_n (i := 3) C dX9_queue_55 rfl 3 rfl ?_
                refine j_iconst (x := 0) C dX9_queue_56 (by decide) ?_
                refine j_sipush (x := 4096) C dX9_queue_57 (by decide) ?_
                refine j_bipush (x := 16) C dX9_queue_60 (by decide) ?_
                refine j_iload_n (i := 2) C dX9_queue_62 rfl 2 rfl ?_
                refine j_imul C dX9_queue_63 ?_
                refine j_isub C dX9_queue_64 ?_
                refine c_S (As := [.int c, .int 0, .int (4096 - (16 * b))]) (rest := []) (st1 := [.int (S_X9_isIn u g c 0 (4096 - (16 * b)))]) C (c_X9_isIn ε ad v f u g c 0 (4096 - (16 * b))  ) mt_X9_isIn lm_X9_7 dX9_queue_65 rfl rfl (by decide) (Nat.le_of_ble_eq_true rfl) rfl ?_
                refine j_if_eq (tgt := 125) C dX9_queue_68 (by decide) (fun c_51 => ?_) (fun c_51 => ?_)
                · refine j_bipush (x := (-2)) C dX9_queue_125 (by decide) ?_
                  have hs : S_X9_queue u g a b c d e = ((-2), g) := by unfold S_X9_queue; rw [if_neg c_1, if_neg c_2, if_pos c_40, if_neg c_41, if_pos c_42, if_neg c_43, if_pos c_50, if_pos c_51]
                  exact j_iret C hQ rfl dX9_queue_127 (dt_ifM hs)
                · refine j_iload_n (i := 3) C dX9_queue_71 rfl 3 rfl ?_
                  refine j_bipush (x := 16) C dX9_queue_72 (by decide) ?_
                  refine j_irem C dX9_queue_74 (by decide) ?_
                  refine j_if_ne (tgt := 125) C dX9_queue_75 (by decide) (fun c_52 => ?_) (fun c_52 => ?_)
                  · refine j_bipush (x := (-2)) C dX9_queue_125 (by decide) ?_
                    have hs : S_X9_queue u g a b c d e = ((-2), g) := by unfold S_X9_queue; rw [if_neg c_1, if_neg c_2, if_pos c_40, if_neg c_41, if_pos c_42, if_neg c_43, if_pos c_50, if_neg c_51, if_neg c_52]
                    exact j_iret C hQ rfl dX9_queue_127 (dt_ifM hs)
                  · refine j_iload (i := 4) C dX9_queue_78 4 rfl ?_
                    refine j_iconst (x := 0) C dX9_queue_80 (by decide) ?_
                    refine j_sipush (x := 4092) C dX9_queue_81 (by decide) ?_
                    refine j_iconst (x := 2) C dX9_queue_84 (by decide) ?_
                    refine j_iload_n (i := 2) C dX9_queue_85 rfl 2 rfl ?_
                    refine j_imul C dX9_queue_86 ?_
                    refine j_isub C dX9_queue_87 ?_
                    refine c_S (As := [.int d, .int 0, .int (4092 - (2 * b))]) (rest := []) (st1 := [.int (S_X9_isIn u g d 0 (4092 - (2 * b)))]) C (c_X9_isIn ε ad v f u g d 0 (4092 - (2 * b))  ) mt_X9_isIn lm_X9_7 dX9_queue_88 rfl rfl (by decide) (Nat.le_of_ble_eq_true rfl) rfl ?_
                    refine j_if_eq (tgt := 125) C dX9_queue_91 (by decide) (fun c_53 => ?_) (fun c_53 => ?_)
                    · refine j_bipush (x := (-2)) C dX9_queue_125 (by decide) ?_
                      have hs : S_X9_queue u g a b c d e = ((-2), g) := by unfold S_X9_queue; rw [if_neg c_1, if_neg c_2, if_pos c_40, if_neg c_41, if_pos c_42, if_neg c_43, if_pos c_50, if_neg c_51, if_pos c_52, if_pos c_53]
                      exact j_iret C hQ rfl dX9_queue_127 (dt_ifM hs)
                    · refine j_iload (i := 4) C dX9_queue_94 4 rfl ?_
                      refine j_iconst (x := 2) C dX9_queue_96 (by decide) ?_
                      refine j_irem C dX9_queue_97 (by decide) ?_
                      refine j_if_ne (tgt := 125) C dX9_queue_98 (by decide) (fun c_54 => ?_) (fun c_54 => ?_)
                      · refine j_bipush (x := (-2)) C dX9_queue_125 (by decide) ?_
                        have hs : S_X9_queue u g a b c d e = ((-2), g) := by unfold S_X9_queue; rw [if_neg c_1, if_neg c_2, if_pos c_40, if_neg c_41, if_pos c_42, if_neg c_43, if_pos c_50, if_neg c_51, if_pos c_52, if_neg c_53, if_neg c_54]
                        exact j_iret C hQ rfl dX9_queue_127 (dt_ifM hs)
                      · refine j_iload (i := 5) C dX9_queue_101 5 rfl ?_
                        refine j_iconst (x := 0) C dX9_queue_103 (by decide) ?_
                        refine j_sipush (x := 4092) C dX9_queue_104 (by decide) ?_
                        refine j_bipush (x := 8) C dX9_queue_107 (by decide) ?_
                        refine j_iload_n (i := 2) C dX9_queue_109 rfl 2 rfl ?_
                        refine j_imul C dX9_queue_110 ?_
                        refine j_isub C dX9_queue_111 ?_
                        refine c_S (As := [.int e, .int 0, .int (4092 - (8 * b))]) (rest := []) (st1 := [.int (S_X9_isIn u g e 0 (4092 - (8 * b)))]) C (c_X9_isIn ε ad v f u g e 0 (4092 - (8 * b))  ) mt_X9_isIn lm_X9_7 dX9_queue_112 rfl rfl (by decide) (Nat.le_of_ble_eq_true rfl) rfl ?_
                        refine j_if_eq (tgt := 125) C dX9_queue_115 (by decide) (fun c_55 => ?_) (fun c_55 => ?_)
                        · refine j_bipush (x := (-2)) C dX9_queue_125 (by decide) ?_
                          have hs : S_X9_queue u g a b c d e = ((-2), g) := by unfold S_X9_queue; rw [if_neg c_1, if_neg c_2, if_pos c_40, if_neg c_41, if_pos c_42, if_neg c_43, if_pos c_50, if_neg c_51, if_pos c_52, if_neg c_53, if_pos c_54, if_pos c_55]
                          exact j_iret C hQ rfl dX9_queue_127 (dt_ifM hs)
                        · refine j_iload (i := 5) C dX9_queue_118 5 rfl ?_
                          refine j_iconst (x := 4) C dX9_queue_120 (by decide) ?_
                          refine j_irem C dX9_queue_121 (by decide) ?_
                          refine j_if_eq (tgt := 128) C dX9_queue_122 (by decide) (fun c_56 => ?_) (fun c_56 => ?_)
                          · refine j_aload_n (i := 0) C dX9_queue_128 rfl 0 rfl ?_
                            refine g_22_sizes C dX9_queue_129 lf_X9_11 ?_
                            refine j_iload_n (i := 1) C dX9_queue_132 rfl 1 rfl ?_
                            refine j_iload_n (i := 2) C dX9_queue_133 rfl 2 rfl ?_
                            refine asn_25 (q := 1) (F2 := (g 25)) (F := (upd (g 25) 1 b)) C dX9_queue_134 (by omega) rfl rfl rfl ?_
                            refine j_aload_n (i := 0) C dX9_queue_135 rfl 0 rfl ?_
                            refine g_22_descriptors C dX9_queue_136 lf_X9_49 ?_
                            refine j_iload_n (i := 1) C dX9_queue_139 rfl 1 rfl ?_
                            refine j_iload_n (i := 3) C dX9_queue_140 rfl 3 rfl ?_
                            refine asn_26 (q := 1) (F2 := ((va_up g 25 (upd (g 25) 1 b)) 26)) (F := (upd ((va_up g 25 (upd (g 25) 1 b)) 26) 1 c)) C dX9_queue_141 (by omega) rfl rfl rfl ?_
                            refine j_aload_n (i := 0) C dX9_queue_142 rfl 0 rfl ?_
                            refine g_22_availables C dX9_queue_143 lf_X9_52 ?_
                            refine j_iload_n (i := 1) C dX9_queue_146 rfl 1 rfl ?_
                            refine j_iload (i := 4) C dX9_queue_147 4 rfl ?_
                            refine asn_27 (q := 1) (F2 := ((va_up (va_up g 25 (upd (g 25) 1 b)) 26 (upd ((va_up g 25 (upd (g 25) 1 b)) 26) 1 c)) 27)) (F := (upd ((va_up (va_up g 25 (upd (g 25) 1 b)) 26 (upd ((va_up g 25 (upd (g 25) 1 b)) 26) 1 c)) 27) 1 d)) C dX9_queue_149 (by omega) rfl rfl rfl ?_
                            refine j_aload_n (i := 0) C dX9_queue_150 rfl 0 rfl ?_
                            refine g_22_useds C dX9_queue_151 lf_X9_55 ?_
                            refine j_iload_n (i := 1) C dX9_queue_154 rfl 1 rfl ?_
                            refine j_iload (i := 5) C dX9_queue_155 5 rfl ?_
                            refine asn_28 (q := 1) (F2 := ((va_up (va_up (va_up g 25 (upd (g 25) 1 b)) 26 (upd ((va_up g 25 (upd (g 25) 1 b)) 26) 1 c)) 27 (upd ((va_up (va_up g 25 (upd (g 25) 1 b)) 26 (upd ((va_up g 25 (upd (g 25) 1 b)) 26) 1 c)) 27) 1 d)) 28)) (F := (upd ((va_up (va_up (va_up g 25 (upd (g 25) 1 b)) 26 (upd ((va_up g 25 (upd (g 25) 1 b)) 26) 1 c)) 27 (upd ((va_up (va_up g 25 (upd (g 25) 1 b)) 26 (upd ((va_up g 25 (upd (g 25) 1 b)) 26) 1 c)) 27) 1 d)) 28) 1 e)) C dX9_queue_157 (by omega) rfl rfl rfl ?_
                            refine j_iconst (x := 0) C dX9_queue_158 (by decide) ?_
                            have hs : S_X9_queue u g a b c d e = (0, (va_up (va_up (va_up (va_up g 25 (upd (g 25) 1 b)) 26 (upd ((va_up g 25 (upd (g 25) 1 b)) 26) 1 c)) 27 (upd ((va_up (va_up g 25 (upd (g 25) 1 b)) 26 (upd ((va_up g 25 (upd (g 25) 1 b)) 26) 1 c)) 27) 1 d)) 28 (upd ((va_up (va_up (va_up g 25 (upd (g 25) 1 b)) 26 (upd ((va_up g 25 (upd (g 25) 1 b)) 26) 1 c)) 27 (upd ((va_up (va_up g 25 (upd (g 25) 1 b)) 26 (upd ((va_up g 25 (upd (g 25) 1 b)) 26) 1 c)) 27) 1 d)) 28) 1 e))) := by unfold S_X9_queue; rw [if_neg c_1, if_neg c_2, if_pos c_40, if_neg c_41, if_pos c_42, if_neg c_43, if_pos c_50, if_neg c_51, if_pos c_52, if_neg c_53, if_pos c_54, if_neg c_55, if_pos c_56]
                            exact j_iret C hQ rfl dX9_queue_159 (dt_ifM hs)
                          · refine j_bipush (x := (-2)) C dX9_queue_125 (by decide) ?_
                            have hs : S_X9_queue u g a b c d e = ((-2), g) := by unfold S_X9_queue; rw [if_neg c_1, if_neg c_2, if_pos c_40, if_neg c_41, if_pos c_42, if_neg c_43, if_pos c_50, if_neg c_51, if_pos c_52, if_neg c_53, if_pos c_54, if_neg c_55, if_neg c_56]
                            exact j_iret C hQ rfl dX9_queue_127 (dt_ifM hs)
              · refine j_iload_n (i := 2) C dX9_queue_35 rfl 2 rfl ?_
                refine j_iconst (x := 4) C dX9_queue_36 (by decide) ?_
                refine j_icmp_eq (tgt := 55) C dX9_queue_37 (by decide) (fun c_57 => ?_) (fun c_57 => ?_)
                · refine j_iload_n (i := 3) C dX9_queue_55 rfl 3 rfl ?_
                  refine j_iconst (x := 0) C dX9_queue_56 (by decide) ?_
                  refine j_sipush (x := 4096) C dX9_queue_57 (by decide) ?_
                  refine j_bipush (x := 16) C dX9_queue_60 (by decide) ?_
                  refine j_iload_n (i := 2) C dX9_queue_62 rfl 2 rfl ?_
                  refine j_imul C dX9_queue_63 ?_
                  refine j_isub C dX9_queue_64 ?_
                  refine c_S (As := [.int c, .int 0, .int (4096 - (16 * b))]) (rest := []) (st1 := [.int (S_X9_isIn u g c 0 (4096 - (16 * b)))]) C (c_X9_isIn ε ad v f u g c 0 (4096 - (16 * b))  ) mt_X9_isIn lm_X9_7 dX9_queue_65 rfl rfl (by decide) (Nat.le_of_ble_eq_true rfl) rfl ?_
                  refine j_if_eq (tgt := 125) C dX9_queue_68 (by decide) (fun c_58 => ?_) (fun c_58 => ?_)
                  · refine j_bipush (x := (-2)) C dX9_queue_125 (by decide) ?_
                    have hs : S_X9_queue u g a b c d e = ((-2), g) := by unfold S_X9_queue; rw [if_neg c_1, if_neg c_2, if_pos c_40, if_neg c_41, if_pos c_42, if_neg c_43, if_neg c_50, if_pos c_57, if_pos c_58]
                    exact j_iret C hQ rfl dX9_queue_127 (dt_ifM hs)
                  · refine j_iload_n (i := 3) C dX9_queue_71 rfl 3 rfl ?_
                    refine j_bipush (x := 16) C dX9_queue_72 (by decide) ?_
                    refine j_irem C dX9_queue_74 (by decide) ?_
                    refine j_if_ne (tgt := 125) C dX9_queue_75 (by decide) (fun c_59 => ?_) (fun c_59 => ?_)
                    · refine j_bipush (x := (-2)) C dX9_queue_125 (by decide) ?_
                      have hs : S_X9_queue u g a b c d e = ((-2), g) := by unfold S_X9_queue; rw [if_neg c_1, if_neg c_2, if_pos c_40, if_neg c_41, if_pos c_42, if_neg c_43, if_neg c_50, if_pos c_57, if_neg c_58, if_neg c_59]
                      exact j_iret C hQ rfl dX9_queue_127 (dt_ifM hs)
                    · refine j_iload (i := 4) C dX9_queue_78 4 rfl ?_
                      refine j_iconst (x := 0) C dX9_queue_80 (by decide) ?_
                      refine j_sipush (x := 4092) C dX9_queue_81 (by decide) ?_
                      refine j_iconst (x := 2) C dX9_queue_84 (by decide) ?_
                      refine j_iload_n (i := 2) C dX9_queue_85 rfl 2 rfl ?_
                      refine j_imul C dX9_queue_86 ?_
                      refine j_isub C dX9_queue_87 ?_
                      refine c_S (As := [.int d, .int 0, .int (4092 - (2 * b))]) (rest := []) (st1 := [.int (S_X9_isIn u g d 0 (4092 - (2 * b)))]) C (c_X9_isIn ε ad v f u g d 0 (4092 - (2 * b))  ) mt_X9_isIn lm_X9_7 dX9_queue_88 rfl rfl (by decide) (Nat.le_of_ble_eq_true rfl) rfl ?_
                      refine j_if_eq (tgt := 125) C dX9_queue_91 (by decide) (fun c_60 => ?_) (fun c_60 => ?_)
                      · refine j_bipush (x := (-2)) C dX9_queue_125 (by decide) ?_
                        have hs : S_X9_queue u g a b c d e = ((-2), g) := by unfold S_X9_queue; rw [if_neg c_1, if_neg c_2, if_pos c_40, if_neg c_41, if_pos c_42, if_neg c_43, if_neg c_50, if_pos c_57, if_neg c_58, if_pos c_59, if_pos c_60]
                        exact j_iret C hQ rfl dX9_queue_127 (dt_ifM hs)
                      · refine j_iload (i := 4) C dX9_queue_94 4 rfl ?_
                        refine j_iconst (x := 2) C dX9_queue_96 (by decide) ?_
                        refine j_irem C dX9_queue_97 (by decide) ?_
                        refine j_if_ne (tgt := 125) C dX9_queue_98 (by decide) (fun c_61 => ?_) (fun c_61 => ?_)
                        · refine j_bipush (x := (-2)) C dX9_queue_125 (by decide) ?_
                          have hs : S_X9_queue u g a b c d e = ((-2), g) := by unfold S_X9_queue; rw [if_neg c_1, if_neg c_2, if_pos c_40, if_neg c_41, if_pos c_42, if_neg c_43, if_neg c_50, if_pos c_57, if_neg c_58, if_pos c_59, if_neg c_60, if_neg c_61]
                          exact j_iret C hQ rfl dX9_queue_127 (dt_ifM hs)
                        · refine j_iload (i := 5) C dX9_queue_101 5 rfl ?_
                          refine j_iconst (x := 0) C dX9_queue_103 (by decide) ?_
                          refine j_sipush (x := 4092) C dX9_queue_104 (by decide) ?_
                          refine j_bipush (x := 8) C dX9_queue_107 (by decide) ?_
                          refine j_iload_n (i := 2) C dX9_queue_109 rfl 2 rfl ?_
                          refine j_imul C dX9_queue_110 ?_
                          refine j_isub C dX9_queue_111 ?_
                          refine c_S (As := [.int e, .int 0, .int (4092 - (8 * b))]) (rest := []) (st1 := [.int (S_X9_isIn u g e 0 (4092 - (8 * b)))]) C (c_X9_isIn ε ad v f u g e 0 (4092 - (8 * b))  ) mt_X9_isIn lm_X9_7 dX9_queue_112 rfl rfl (by decide) (Nat.le_of_ble_eq_true rfl) rfl ?_
                          refine j_if_eq (tgt := 125) C dX9_queue_115 (by decide) (fun c_62 => ?_) (fun c_62 => ?_)
                          · refine j_bipush (x := (-2)) C dX9_queue_125 (by decide) ?_
                            have hs : S_X9_queue u g a b c d e = ((-2), g) := by unfold S_X9_queue; rw [if_neg c_1, if_neg c_2, if_pos c_40, if_neg c_41, if_pos c_42, if_neg c_43, if_neg c_50, if_pos c_57, if_neg c_58, if_pos c_59, if_neg c_60, if_pos c_61, if_pos c_62]
                            exact j_iret C hQ rfl dX9_queue_127 (dt_ifM hs)
                          · refine j_iload (i := 5) C dX9_queue_118 5 rfl ?_
                            refine j_iconst (x := 4) C dX9_queue_120 (by decide) ?_
                            refine j_irem C dX9_queue_121 (by decide) ?_
                            refine j_if_eq (tgt := 128) C dX9_queue_122 (by decide) (fun c_63 => ?_) (fun c_63 => ?_)
                            · refine j_aload_n (i := 0) C dX9_queue_128 rfl 0 rfl ?_
                              refine g_22_sizes C dX9_queue_129 lf_X9_11 ?_
                              refine j_iload_n (i := 1) C dX9_queue_132 rfl 1 rfl ?_
                              refine j_iload_n (i := 2) C dX9_queue_133 rfl 2 rfl ?_
                              refine asn_25 (q := 1) (F2 := (g 25)) (F := (upd (g 25) 1 b)) C dX9_queue_134 (by omega) rfl rfl rfl ?_
                              refine j_aload_n (i := 0) C dX9_queue_135 rfl 0 rfl ?_
                              refine g_22_descriptors C dX9_queue_136 lf_X9_49 ?_
                              refine j_iload_n (i := 1) C dX9_queue_139 rfl 1 rfl ?_
                              refine j_iload_n (i := 3) C dX9_queue_140 rfl 3 rfl ?_
                              refine asn_26 (q := 1) (F2 := ((va_up g 25 (upd (g 25) 1 b)) 26)) (F := (upd ((va_up g 25 (upd (g 25) 1 b)) 26) 1 c)) C dX9_queue_141 (by omega) rfl rfl rfl ?_
                              refine j_aload_n (i := 0) C dX9_queue_142 rfl 0 rfl ?_
                              refine g_22_availables C dX9_queue_143 lf_X9_52 ?_
                              refine j_iload_n (i := 1) C dX9_queue_146 rfl 1 rfl ?_
                              refine j_iload (i := 4) C dX9_queue_147 4 rfl ?_
                              refine asn_27 (q := 1) (F2 := ((va_up (va_up g 25 (upd (g 25) 1 b)) 26 (upd ((va_up g 25 (upd (g 25) 1 b)) 26) 1 c)) 27)) (F := (upd ((va_up (va_up g 25 (upd (g 25) 1 b)) 26 (upd ((va_up g 25 (upd (g 25) 1 b)) 26) 1 c)) 27) 1 d)) C dX9_queue_149 (by omega) rfl rfl rfl ?_
                              refine j_aload_n (i := 0) C dX9_queue_150 rfl 0 rfl ?_
                              refine g_22_useds C dX9_queue_151 lf_X9_55 ?_
                              refine j_iload_n (i := 1) C dX9_queue_154 rfl 1 rfl ?_
                              refine j_iload (i := 5) C dX9_queue_155 5 rfl ?_
                              refine asn_28 (q := 1) (F2 := ((va_up (va_up (va_up g 25 (upd (g 25) 1 b)) 26 (upd ((va_up g 25 (upd (g 25) 1 b)) 26) 1 c)) 27 (upd ((va_up (va_up g 25 (upd (g 25) 1 b)) 26 (upd ((va_up g 25 (upd (g 25) 1 b)) 26) 1 c)) 27) 1 d)) 28)) (F := (upd ((va_up (va_up (va_up g 25 (upd (g 25) 1 b)) 26 (upd ((va_up g 25 (upd (g 25) 1 b)) 26) 1 c)) 27 (upd ((va_up (va_up g 25 (upd (g 25) 1 b)) 26 (upd ((va_up g 25 (upd (g 25) 1 b)) 26) 1 c)) 27) 1 d)) 28) 1 e)) C dX9_queue_157 (by omega) rfl rfl rfl ?_
                              refine j_iconst (x := 0) C dX9_queue_158 (by decide) ?_
                              have hs : S_X9_queue u g a b c d e = (0, (va_up (va_up (va_up (va_up g 25 (upd (g 25) 1 b)) 26 (upd ((va_up g 25 (upd (g 25) 1 b)) 26) 1 c)) 27 (upd ((va_up (va_up g 25 (upd (g 25) 1 b)) 26 (upd ((va_up g 25 (upd (g 25) 1 b)) 26) 1 c)) 27) 1 d)) 28 (upd ((va_up (va_up (va_up g 25 (upd (g 25) 1 b)) 26 (upd ((va_up g 25 (upd (g 25) 1 b)) 26) 1 c)) 27 (upd ((va_up (va_up g 25 (upd (g 25) 1 b)) 26 (upd ((va_up g 25 (upd (g 25) 1 b)) 26) 1 c)) 27) 1 d)) 28) 1 e))) := by unfold S_X9_queue; rw [if_neg c_1, if_neg c_2, if_pos c_40, if_neg c_41, if_pos c_42, if_neg c_43, if_neg c_50, if_pos c_57, if_neg c_58, if_pos c_59, if_neg c_60, if_pos c_61, if_neg c_62, if_pos c_63]
                              exact j_iret C hQ rfl dX9_queue_159 (dt_ifM hs)
                            · refine j_bipush (x := (-2)) C dX9_queue_125 (by decide) ?_
                              have hs : S_X9_queue u g a b c d e = ((-2), g) := by unfold S_X9_queue; rw [if_neg c_1, if_neg c_2, if_pos c_40, if_neg c_41, if_pos c_42, if_neg c_43, if_neg c_50, if_pos c_57, if_neg c_58, if_pos c_59, if_neg c_60, if_pos c_61, if_neg c_62, if_neg c_63]
                              exact j_iret C hQ rfl dX9_queue_127 (dt_ifM hs)
                · refine j_iload_n (i := 2) C dX9_queue_40 rfl 2 rfl ?_
                  refine j_bipush (x := 8) C dX9_queue_41 (by decide) ?_
                  refine j_icmp_eq (tgt := 55) C dX9_queue_43 (by decide) (fun c_64 => ?_) (fun c_64 => ?_)
                  · refine j_iload_n (i := 3) C dX9_queue_55 rfl 3 rfl ?_
                    refine j_iconst (x := 0) C dX9_queue_56 (by decide) ?_
                    refine j_sipush (x := 4096) C dX9_queue_57 (by decide) ?_
                    refine j_bipush (x := 16) C dX9_queue_60 (by decide) ?_
                    refine j_iload_n (i := 2) C dX9_queue_62 rfl 2 rfl ?_
                    refine j_imul C dX9_queue_63 ?_
                    refine j_isub C dX9_queue_64 ?_
                    refine c_S (As := [.int c, .int 0, .int (4096 - (16 * b))]) (rest := []) (st1 := [.int (S_X9_isIn u g c 0 (4096 - (16 * b)))]) C (c_X9_isIn ε ad v f u g c 0 (4096 - (16 * b))  ) mt_X9_isIn lm_X9_7 dX9_queue_65 rfl rfl (by decide) (Nat.le_of_ble_eq_true rfl) rfl ?_
                    refine j_if_eq (tgt := 125) C dX9_queue_68 (by decide) (fun c_65 => ?_) (fun c_65 => ?_)
                    · refine j_bipush (x := (-2)) C dX9_queue_125 (by decide) ?_
                      have hs : S_X9_queue u g a b c d e = ((-2), g) := by unfold S_X9_queue; rw [if_neg c_1, if_neg c_2, if_pos c_40, if_neg c_41, if_pos c_42, if_neg c_43, if_neg c_50, if_neg c_57, if_pos c_64, if_pos c_65]
                      exact j_iret C hQ rfl dX9_queue_127 (dt_ifM hs)
                    · refine j_iload_n (i := 3) C dX9_queue_71 rfl 3 rfl ?_
                      refine j_bipush (x := 16) C dX9_queue_72 (by decide) ?_
                      refine j_irem C dX9_queue_74 (by decide) ?_
                      refine j_if_ne (tgt := 125) C dX9_queue_75 (by decide) (fun c_66 => ?_) (fun c_66 => ?_)
                      · refine j_bipush (x := (-2)) C dX9_queue_125 (by decide) ?_
                        have hs : S_X9_queue u g a b c d e = ((-2), g) := by unfold S_X9_queue; rw [if_neg c_1, if_neg c_2, if_pos c_40, if_neg c_41, if_pos c_42, if_neg c_43, if_neg c_50, if_neg c_57, if_pos c_64, if_neg c_65, if_neg c_66]
                        exact j_iret C hQ rfl dX9_queue_127 (dt_ifM hs)
                      · refine j_iload (i := 4) C dX9_queue_78 4 rfl ?_
                        refine j_iconst (x := 0) C dX9_queue_80 (by decide) ?_
                        refine j_sipush (x := 4092) C dX9_queue_81 (by decide) ?_
                        refine j_iconst (x := 2) C dX9_queue_84 (by decide) ?_
                        refine j_iload_n (i := 2) C dX9_queue_85 rfl 2 rfl ?_
                        refine j_imul C dX9_queue_86 ?_
                        refine j_isub C dX9_queue_87 ?_
                        refine c_S (As := [.int d, .int 0, .int (4092 - (2 * b))]) (rest := []) (st1 := [.int (S_X9_isIn u g d 0 (4092 - (2 * b)))]) C (c_X9_isIn ε ad v f u g d 0 (4092 - (2 * b))  ) mt_X9_isIn lm_X9_7 dX9_queue_88 rfl rfl (by decide) (Nat.le_of_ble_eq_true rfl) rfl ?_
                        refine j_if_eq (tgt := 125) C dX9_queue_91 (by decide) (fun c_67 => ?_) (fun c_67 => ?_)
                        · refine j_bipush (x := (-2)) C dX9_queue_125 (by decide) ?_
                          have hs : S_X9_queue u g a b c d e = ((-2), g) := by unfold S_X9_queue; rw [if_neg c_1, if_neg c_2, if_pos c_40, if_neg c_41, if_pos c_42, if_neg c_43, if_neg c_50, if_neg c_57, if_pos c_64, if_neg c_65, if_pos c_66, if_pos c_67]
                          exact j_iret C hQ rfl dX9_queue_127 (dt_ifM hs)
                        · refine j_iload (i := 4) C dX9_queue_94 4 rfl ?_
                          refine j_iconst (x := 2) C dX9_queue_96 (by decide) ?_
                          refine j_irem C dX9_queue_97 (by decide) ?_
                          refine j_if_ne (tgt := 125) C dX9_queue_98 (by decide) (fun c_68 => ?_) (fun c_68 => ?_)
                          · refine j_bipush (x := (-2)) C dX9_queue_125 (by decide) ?_
                            have hs : S_X9_queue u g a b c d e = ((-2), g) := by unfold S_X9_queue; rw [if_neg c_1, if_neg c_2, if_pos c_40, if_neg c_41, if_pos c_42, if_neg c_43, if_neg c_50, if_neg c_57, if_pos c_64, if_neg c_65, if_pos c_66, if_neg c_67, if_neg c_68]
                            exact j_iret C hQ rfl dX9_queue_127 (dt_ifM hs)
                          · refine j_iload (i := 5) C dX9_queue_101 5 rfl ?_
                            refine j_iconst (x := 0) C dX9_queue_103 (by decide) ?_
                            refine j_sipush (x := 4092) C dX9_queue_104 (by decide) ?_
                            refine j_bipush (x := 8) C dX9_queue_107 (by decide) ?_
                            refine j_iload_n (i := 2) C dX9_queue_109 rfl 2 rfl ?_
                            refine j_imul C dX9_queue_110 ?_
                            refine j_isub C dX9_queue_111 ?_
                            refine c_S (As := [.int e, .int 0, .int (4092 - (8 * b))]) (rest := []) (st1 := [.int (S_X9_isIn u g e 0 (4092 - (8 * b)))]) C (c_X9_isIn ε ad v f u g e 0 (4092 - (8 * b))  ) mt_X9_isIn lm_X9_7 dX9_queue_112 rfl rfl (by decide) (Nat.le_of_ble_eq_true rfl) rfl ?_
                            refine j_if_eq (tgt := 125) C dX9_queue_115 (by decide) (fun c_69 => ?_) (fun c_69 => ?_)
                            · refine j_bipush (x := (-2)) C dX9_queue_125 (by decide) ?_
                              have hs : S_X9_queue u g a b c d e = ((-2), g) := by unfold S_X9_queue; rw [if_neg c_1, if_neg c_2, if_pos c_40, if_neg c_41, if_pos c_42, if_neg c_43, if_neg c_50, if_neg c_57, if_pos c_64, if_neg c_65, if_pos c_66, if_neg c_67, if_pos c_68, if_pos c_69]
                              exact j_iret C hQ rfl dX9_queue_127 (dt_ifM hs)
                            · refine j_iload (i := 5) C dX9_queue_118 5 rfl ?_
                              refine j_iconst (x := 4) C dX9_queue_120 (by decide) ?_
                              refine j_irem C dX9_queue_121 (by decide) ?_
                              refine j_if_eq (tgt := 128) C dX9_queue_122 (by decide) (fun c_70 => ?_) (fun c_70 => ?_)
                              · refine j_aload_n (i := 0) C dX9_queue_128 rfl 0 rfl ?_
                                refine g_22_sizes C dX9_queue_129 lf_X9_11 ?_
                                refine j_iload_n (i := 1) C dX9_queue_132 rfl 1 rfl ?_
                                refine j_iload_n (i := 2) C dX9_queue_133 rfl 2 rfl ?_
                                refine asn_25 (q := 1) (F2 := (g 25)) (F := (upd (g 25) 1 b)) C dX9_queue_134 (by omega) rfl rfl rfl ?_
                                refine j_aload_n (i := 0) C dX9_queue_135 rfl 0 rfl ?_
                                refine g_22_descriptors C dX9_queue_136 lf_X9_49 ?_
                                refine j_iload_n (i := 1) C dX9_queue_139 rfl 1 rfl ?_
                                refine j_iload_n (i := 3) C dX9_queue_140 rfl 3 rfl ?_
                                refine asn_26 (q := 1) (F2 := ((va_up g 25 (upd (g 25) 1 b)) 26)) (F := (upd ((va_up g 25 (upd (g 25) 1 b)) 26) 1 c)) C dX9_queue_141 (by omega) rfl rfl rfl ?_
                                refine j_aload_n (i := 0) C dX9_queue_142 rfl 0 rfl ?_
                                refine g_22_availables C dX9_queue_143 lf_X9_52 ?_
                                refine j_iload_n (i := 1) C dX9_queue_146 rfl 1 rfl ?_
                                refine j_iload (i := 4) C dX9_queue_147 4 rfl ?_
                                refine asn_27 (q := 1) (F2 := ((va_up (va_up g 25 (upd (g 25) 1 b)) 26 (upd ((va_up g 25 (upd (g 25) 1 b)) 26) 1 c)) 27)) (F := (upd ((va_up (va_up g 25 (upd (g 25) 1 b)) 26 (upd ((va_up g 25 (upd (g 25) 1 b)) 26) 1 c)) 27) 1 d)) C dX9_queue_149 (by omega) rfl rfl rfl ?_
                                refine j_aload_n (i := 0) C dX9_queue_150 rfl 0 rfl ?_
                                refine g_22_useds C dX9_queue_151 lf_X9_55 ?_
                                refine j_iload_n (i := 1) C dX9_queue_154 rfl 1 rfl ?_
                                refine j_iload (i := 5) C dX9_queue_155 5 rfl ?_
                                refine asn_28 (q := 1) (F2 := ((va_up (va_up (va_up g 25 (upd (g 25) 1 b)) 26 (upd ((va_up g 25 (upd (g 25) 1 b)) 26) 1 c)) 27 (upd ((va_up (va_up g 25 (upd (g 25) 1 b)) 26 (upd ((va_up g 25 (upd (g 25) 1 b)) 26) 1 c)) 27) 1 d)) 28)) (F := (upd ((va_up (va_up (va_up g 25 (upd (g 25) 1 b)) 26 (upd ((va_up g 25 (upd (g 25) 1 b)) 26) 1 c)) 27 (upd ((va_up (va_up g 25 (upd (g 25) 1 b)) 26 (upd ((va_up g 25 (upd (g 25) 1 b)) 26) 1 c)) 27) 1 d)) 28) 1 e)) C dX9_queue_157 (by omega) rfl rfl rfl ?_
                                refine j_iconst (x := 0) C dX9_queue_158 (by decide) ?_
                                have hs : S_X9_queue u g a b c d e = (0, (va_up (va_up (va_up (va_up g 25 (upd (g 25) 1 b)) 26 (upd ((va_up g 25 (upd (g 25) 1 b)) 26) 1 c)) 27 (upd ((va_up (va_up g 25 (upd (g 25) 1 b)) 26 (upd ((va_up g 25 (upd (g 25) 1 b)) 26) 1 c)) 27) 1 d)) 28 (upd ((va_up (va_up (va_up g 25 (upd (g 25) 1 b)) 26 (upd ((va_up g 25 (upd (g 25) 1 b)) 26) 1 c)) 27 (upd ((va_up (va_up g 25 (upd (g 25) 1 b)) 26 (upd ((va_up g 25 (upd (g 25) 1 b)) 26) 1 c)) 27) 1 d)) 28) 1 e))) := by unfold S_X9_queue; rw [if_neg c_1, if_neg c_2, if_pos c_40, if_neg c_41, if_pos c_42, if_neg c_43, if_neg c_50, if_neg c_57, if_pos c_64, if_neg c_65, if_pos c_66, if_neg c_67, if_pos c_68, if_neg c_69, if_pos c_70]
                                exact j_iret C hQ rfl dX9_queue_159 (dt_ifM hs)
                              · refine j_bipush (x := (-2)) C dX9_queue_125 (by decide) ?_
                                have hs : S_X9_queue u g a b c d e = ((-2), g) := by unfold S_X9_queue; rw [if_neg c_1, if_neg c_2, if_pos c_40, if_neg c_41, if_pos c_42, if_neg c_43, if_neg c_50, if_neg c_57, if_pos c_64, if_neg c_65, if_pos c_66, if_neg c_67, if_pos c_68, if_neg c_69, if_neg c_70]
                                exact j_iret C hQ rfl dX9_queue_127 (dt_ifM hs)
                  · refine j_iload_n (i := 2) C dX9_queue_46 rfl 2 rfl ?_
                    refine j_bipush (x := 16) C dX9_queue_47 (by decide) ?_
                    refine j_icmp_eq (tgt := 55) C dX9_queue_49 (by decide) (fun c_71 => ?_) (fun c_71 => ?_)
                    · refine j_iload_n (i := 3) C dX9_queue_55 rfl 3 rfl ?_
                      refine j_iconst (x := 0) C dX9_queue_56 (by decide) ?_
                      refine j_sipush (x := 4096) C dX9_queue_57 (by decide) ?_
                      refine j_bipush (x := 16) C dX9_queue_60 (by decide) ?_
                      refine j_iload_n (i := 2) C dX9_queue_62 rfl 2 rfl ?_
                      refine j_imul C dX9_queue_63 ?_
                      refine j_isub C dX9_queue_64 ?_
                      refine c_S (As := [.int c, .int 0, .int (4096 - (16 * b))]) (rest := []) (st1 := [.int (S_X9_isIn u g c 0 (4096 - (16 * b)))]) C (c_X9_isIn ε ad v f u g c 0 (4096 - (16 * b))  ) mt_X9_isIn lm_X9_7 dX9_queue_65 rfl rfl (by decide) (Nat.le_of_ble_eq_true rfl) rfl ?_
                      refine j_if_eq (tgt := 125) C dX9_queue_68 (by decide) (fun c_72 => ?_) (fun c_72 => ?_)
                      · refine j_bipush (x := (-2)) C dX9_queue_125 (by decide) ?_
                        have hs : S_X9_queue u g a b c d e = ((-2), g) := by unfold S_X9_queue; rw [if_neg c_1, if_neg c_2, if_pos c_40, if_neg c_41, if_pos c_42, if_neg c_43, if_neg c_50, if_neg c_57, if_neg c_64, if_pos c_71, if_pos c_72]
                        exact j_iret C hQ rfl dX9_queue_127 (dt_ifM hs)
                      · refine j_iload_n (i := 3) C dX9_queue_71 rfl 3 rfl ?_
                        refine j_bipush (x := 16) C dX9_queue_72 (by decide) ?_
                        refine j_irem C dX9_queue_74 (by decide) ?_
                        refine j_if_ne (tgt := 125) C dX9_queue_75 (by decide) (fun c_73 => ?_) (fun c_73 => ?_)
                        · refine j_bipush (x := (-2)) C dX9_queue_125 (by decide) ?_
                          have hs : S_X9_queue u g a b c d e = ((-2), g) := by unfold S_X9_queue; rw [if_neg c_1, if_neg c_2, if_pos c_40, if_neg c_41, if_pos c_42, if_neg c_43, if_neg c_50, if_neg c_57, if_neg c_64, if_pos c_71, if_neg c_72, if_neg c_73]
                          exact j_iret C hQ rfl dX9_queue_127 (dt_ifM hs)
                        · refine j_iload (i := 4) C dX9_queue_78 4 rfl ?_
                          refine j_iconst (x := 0) C dX9_queue_80 (by decide) ?_
                          refine j_sipush (x := 4092) C dX9_queue_81 (by decide) ?_
                          refine j_iconst (x := 2) C dX9_queue_84 (by decide) ?_
                          refine j_iload_n (i := 2) C dX9_queue_85 rfl 2 rfl ?_
                          refine j_imul C dX9_queue_86 ?_
                          refine j_isub C dX9_queue_87 ?_
                          refine c_S (As := [.int d, .int 0, .int (4092 - (2 * b))]) (rest := []) (st1 := [.int (S_X9_isIn u g d 0 (4092 - (2 * b)))]) C (c_X9_isIn ε ad v f u g d 0 (4092 - (2 * b))  ) mt_X9_isIn lm_X9_7 dX9_queue_88 rfl rfl (by decide) (Nat.le_of_ble_eq_true rfl) rfl ?_
                          refine j_if_eq (tgt := 125) C dX9_queue_91 (by decide) (fun c_74 => ?_) (fun c_74 => ?_)
                          · refine j_bipush (x := (-2)) C dX9_queue_125 (by decide) ?_
                            have hs : S_X9_queue u g a b c d e = ((-2), g) := by unfold S_X9_queue; rw [if_neg c_1, if_neg c_2, if_pos c_40, if_neg c_41, if_pos c_42, if_neg c_43, if_neg c_50, if_neg c_57, if_neg c_64, if_pos c_71, if_neg c_72, if_pos c_73, if_pos c_74]
                            exact j_iret C hQ rfl dX9_queue_127 (dt_ifM hs)
                          · refine j_iload (i := 4) C dX9_queue_94 4 rfl ?_
                            refine j_iconst (x := 2) C dX9_queue_96 (by decide) ?_
                            refine j_irem C dX9_queue_97 (by decide) ?_
                            refine j_if_ne (tgt := 125) C dX9_queue_98 (by decide) (fun c_75 => ?_) (fun c_75 => ?_)
                            · refine j_bipush (x := (-2)) C dX9_queue_125 (by decide) ?_
                              have hs : S_X9_queue u g a b c d e = ((-2), g) := by unfold S_X9_queue; rw [if_neg c_1, if_neg c_2, if_pos c_40, if_neg c_41, if_pos c_42, if_neg c_43, if_neg c_50, if_neg c_57, if_neg c_64, if_pos c_71, if_neg c_72, if_pos c_73, if_neg c_74, if_neg c_75]
                              exact j_iret C hQ rfl dX9_queue_127 (dt_ifM hs)
                            · refine j_iload (i := 5) C dX9_queue_101 5 rfl ?_
                              refine j_iconst (x := 0) C dX9_queue_103 (by decide) ?_
                              refine j_sipush (x := 4092) C dX9_queue_104 (by decide) ?_
                              refine j_bipush (x := 8) C dX9_queue_107 (by decide) ?_
                              refine j_iload_n (i := 2) C dX9_queue_109 rfl 2 rfl ?_
                              refine j_imul C dX9_queue_110 ?_
                              refine j_isub C dX9_queue_111 ?_
                              refine c_S (As := [.int e, .int 0, .int (4092 - (8 * b))]) (rest := []) (st1 := [.int (S_X9_isIn u g e 0 (4092 - (8 * b)))]) C (c_X9_isIn ε ad v f u g e 0 (4092 - (8 * b))  ) mt_X9_isIn lm_X9_7 dX9_queue_112 rfl rfl (by decide) (Nat.le_of_ble_eq_true rfl) rfl ?_
                              refine j_if_eq (tgt := 125) C dX9_queue_115 (by decide) (fun c_76 => ?_) (fun c_76 => ?_)
                              · refine j_bipush (x := (-2)) C dX9_queue_125 (by decide) ?_
                                have hs : S_X9_queue u g a b c d e = ((-2), g) := by unfold S_X9_queue; rw [if_neg c_1, if_neg c_2, if_pos c_40, if_neg c_41, if_pos c_42, if_neg c_43, if_neg c_50, if_neg c_57, if_neg c_64, if_pos c_71, if_neg c_72, if_pos c_73, if_neg c_74, if_pos c_75, if_pos c_76]
                                exact j_iret C hQ rfl dX9_queue_127 (dt_ifM hs)
                              · refine j_iload (i := 5) C dX9_queue_118 5 rfl ?_
                                refine j_iconst (x := 4) C dX9_queue_120 (by decide) ?_
                                refine j_irem C dX9_queue_121 (by decide) ?_
                                refine j_if_eq (tgt := 128) C dX9_queue_122 (by decide) (fun c_77 => ?_) (fun c_77 => ?_)
                                · refine j_aload_n (i := 0) C dX9_queue_128 rfl 0 rfl ?_
                                  refine g_22_sizes C dX9_queue_129 lf_X9_11 ?_
                                  refine j_iload_n (i := 1) C dX9_queue_132 rfl 1 rfl ?_
                                  refine j_iload_n (i := 2) C dX9_queue_133 rfl 2 rfl ?_
                                  refine asn_25 (q := 1) (F2 := (g 25)) (F := (upd (g 25) 1 b)) C dX9_queue_134 (by omega) rfl rfl rfl ?_
                                  refine j_aload_n (i := 0) C dX9_queue_135 rfl 0 rfl ?_
                                  refine g_22_descriptors C dX9_queue_136 lf_X9_49 ?_
                                  refine j_iload_n (i := 1) C dX9_queue_139 rfl 1 rfl ?_
                                  refine j_iload_n (i := 3) C dX9_queue_140 rfl 3 rfl ?_
                                  refine asn_26 (q := 1) (F2 := ((va_up g 25 (upd (g 25) 1 b)) 26)) (F := (upd ((va_up g 25 (upd (g 25) 1 b)) 26) 1 c)) C dX9_queue_141 (by omega) rfl rfl rfl ?_
                                  refine j_aload_n (i := 0) C dX9_queue_142 rfl 0 rfl ?_
                                  refine g_22_availables C dX9_queue_143 lf_X9_52 ?_
                                  refine j_iload_n (i := 1) C dX9_queue_146 rfl 1 rfl ?_
                                  refine j_iload (i := 4) C dX9_queue_147 4 rfl ?_
                                  refine asn_27 (q := 1) (F2 := ((va_up (va_up g 25 (upd (g 25) 1 b)) 26 (upd ((va_up g 25 (upd (g 25) 1 b)) 26) 1 c)) 27)) (F := (upd ((va_up (va_up g 25 (upd (g 25) 1 b)) 26 (upd ((va_up g 25 (upd (g 25) 1 b)) 26) 1 c)) 27) 1 d)) C dX9_queue_149 (by omega) rfl rfl rfl ?_
                                  refine j_aload_n (i := 0) C dX9_queue_150 rfl 0 rfl ?_
                                  refine g_22_useds C dX9_queue_151 lf_X9_55 ?_
                                  refine j_iload_n (i := 1) C dX9_queue_154 rfl 1 rfl ?_
                                  refine j_iload (i := 5) C dX9_queue_155 5 rfl ?_
                                  refine asn_28 (q := 1) (F2 := ((va_up (va_up (va_up g 25 (upd (g 25) 1 b)) 26 (upd ((va_up g 25 (upd (g 25) 1 b)) 26) 1 c)) 27 (upd ((va_up (va_up g 25 (upd (g 25) 1 b)) 26 (upd ((va_up g 25 (upd (g 25) 1 b)) 26) 1 c)) 27) 1 d)) 28)) (F := (upd ((va_up (va_up (va_up g 25 (upd (g 25) 1 b)) 26 (upd ((va_up g 25 (upd (g 25) 1 b)) 26) 1 c)) 27 (upd ((va_up (va_up g 25 (upd (g 25) 1 b)) 26 (upd ((va_up g 25 (upd (g 25) 1 b)) 26) 1 c)) 27) 1 d)) 28) 1 e)) C dX9_queue_157 (by omega) rfl rfl rfl ?_
                                  refine j_iconst (x := 0) C dX9_queue_158 (by decide) ?_
                                  have hs : S_X9_queue u g a b c d e = (0, (va_up (va_up (va_up (va_up g 25 (upd (g 25) 1 b)) 26 (upd ((va_up g 25 (upd (g 25) 1 b)) 26) 1 c)) 27 (upd ((va_up (va_up g 25 (upd (g 25) 1 b)) 26 (upd ((va_up g 25 (upd (g 25) 1 b)) 26) 1 c)) 27) 1 d)) 28 (upd ((va_up (va_up (va_up g 25 (upd (g 25) 1 b)) 26 (upd ((va_up g 25 (upd (g 25) 1 b)) 26) 1 c)) 27 (upd ((va_up (va_up g 25 (upd (g 25) 1 b)) 26 (upd ((va_up g 25 (upd (g 25) 1 b)) 26) 1 c)) 27) 1 d)) 28) 1 e))) := by unfold S_X9_queue; rw [if_neg c_1, if_neg c_2, if_pos c_40, if_neg c_41, if_pos c_42, if_neg c_43, if_neg c_50, if_neg c_57, if_neg c_64, if_pos c_71, if_neg c_72, if_pos c_73, if_neg c_74, if_pos c_75, if_neg c_76, if_pos c_77]
                                  exact j_iret C hQ rfl dX9_queue_159 (dt_ifM hs)
                                · refine j_bipush (x := (-2)) C dX9_queue_125 (by decide) ?_
                                  have hs : S_X9_queue u g a b c d e = ((-2), g) := by unfold S_X9_queue; rw [if_neg c_1, if_neg c_2, if_pos c_40, if_neg c_41, if_pos c_42, if_neg c_43, if_neg c_50, if_neg c_57, if_neg c_64, if_pos c_71, if_neg c_72, if_pos c_73, if_neg c_74, if_pos c_75, if_neg c_76, if_neg c_77]
                                  exact j_iret C hQ rfl dX9_queue_127 (dt_ifM hs)
                    · refine j_bipush (x := (-2)) C dX9_queue_52 (by decide) ?_
                      have hs : S_X9_queue u g a b c d e = ((-2), g) := by unfold S_X9_queue; rw [if_neg c_1, if_neg c_2, if_pos c_40, if_neg c_41, if_pos c_42, if_neg c_43, if_neg c_50, if_neg c_57, if_neg c_64, if_neg c_71]
                      exact j_iret C hQ rfl dX9_queue_54 (dt_ifM hs)
      · have c_78 : a = 2 := in2 c_1 c_2 c_40
        refine j_to (lv2 := [(0, .ref (ad 22)), (1, .int 2), (2, .int b), (3, .int c), (4, .int d), (5, .int e)]) (st' := []) rfl (by first | rfl | (rw [c_78]; rfl)) (by first | rfl | (rw [c_78]; rfl) | rw [c_78]) ?_
        refine j_aload_n (i := 0) C dX9_queue_9 rfl 0 rfl ?_
        refine g_22_sizes C dX9_queue_10 lf_X9_11 ?_
        refine j_iload_n (i := 1) C dX9_queue_13 rfl 1 rfl ?_
        refine aln_25 (q := 2) (F := (g 25)) C dX9_queue_14 (by omega) rfl rfl ?_
        refine j_if_gt (tgt := 52) C dX9_queue_15 (by decide) (fun c_79 => ?_) (fun c_79 => ?_)
        · refine j_bipush (x := (-2)) C dX9_queue_52 (by decide) ?_
          have hs : S_X9_queue u g a b c d e = ((-2), g) := by unfold S_X9_queue; rw [if_neg c_1, if_neg c_2, if_neg c_40, if_pos c_79]
          exact j_iret C hQ rfl dX9_queue_54 (dt_ifM hs)
        · refine j_aload_n (i := 0) C dX9_queue_18 rfl 0 rfl ?_
          refine g_22_state (x := (u 0)) C dX9_queue_19 lf_X9_86 rfl ?_
          refine j_if_ne (tgt := 52) C dX9_queue_22 (by decide) (fun c_80 => ?_) (fun c_80 => ?_)
          · refine j_bipush (x := (-2)) C dX9_queue_52 (by decide) ?_
            have hs : S_X9_queue u g a b c d e = ((-2), g) := by unfold S_X9_queue; rw [if_neg c_1, if_neg c_2, if_neg c_40, if_neg c_79, if_neg c_80]
            exact j_iret C hQ rfl dX9_queue_54 (dt_ifM hs)
          · refine j_iload_n (i := 2) C dX9_queue_25 rfl 2 rfl ?_
            refine j_iconst (x := 1) C dX9_queue_26 (by decide) ?_
            refine j_icmp_eq (tgt := 55) C dX9_queue_27 (by decide) (fun c_81 => ?_) (fun c_81 => ?_)
            · refine j_iload_n (i := 3) C dX9_queue_55 rfl 3 rfl ?_
              refine j_iconst (x := 0) C dX9_queue_56 (by decide) ?_
              refine j_sipush (x := 4096) C dX9_queue_57 (by decide) ?_
              refine j_bipush (x := 16) C dX9_queue_60 (by decide) ?_
              refine j_iload_n (i := 2) C dX9_queue_62 rfl 2 rfl ?_
              refine j_imul C dX9_queue_63 ?_
              refine j_isub C dX9_queue_64 ?_
              refine c_S (As := [.int c, .int 0, .int (4096 - (16 * b))]) (rest := []) (st1 := [.int (S_X9_isIn u g c 0 (4096 - (16 * b)))]) C (c_X9_isIn ε ad v f u g c 0 (4096 - (16 * b))  ) mt_X9_isIn lm_X9_7 dX9_queue_65 rfl rfl (by decide) (Nat.le_of_ble_eq_true rfl) rfl ?_
              refine j_if_eq (tgt := 125) C dX9_queue_68 (by decide) (fun c_82 => ?_) (fun c_82 => ?_)
              · refine j_bipush (x := (-2)) C dX9_queue_125 (by decide) ?_
                have hs : S_X9_queue u g a b c d e = ((-2), g) := by unfold S_X9_queue; rw [if_neg c_1, if_neg c_2, if_neg c_40, if_neg c_79, if_pos c_80, if_pos c_81, if_pos c_82]
                exact j_iret C hQ rfl dX9_queue_127 (dt_ifM hs)
              · refine j_iload_n (i := 3) C dX9_queue_71 rfl 3 rfl ?_
                refine j_bipush (x := 16) C dX9_queue_72 (by decide) ?_
                refine j_irem C dX9_queue_74 (by decide) ?_
                refine j_if_ne (tgt := 125) C dX9_queue_75 (by decide) (fun c_83 => ?_) (fun c_83 => ?_)
                · refine j_bipush (x := (-2)) C dX9_queue_125 (by decide) ?_
                  have hs : S_X9_queue u g a b c d e = ((-2), g) := by unfold S_X9_queue; rw [if_neg c_1, if_neg c_2, if_neg c_40, if_neg c_79, if_pos c_80, if_pos c_81, if_neg c_82, if_neg c_83]
                  exact j_iret C hQ rfl dX9_queue_127 (dt_ifM hs)
                · refine j_iload (i := 4) C dX9_queue_78 4 rfl ?_
                  refine j_iconst (x := 0) C dX9_queue_80 (by decide) ?_
                  refine j_sipush (x := 4092) C dX9_queue_81 (by decide) ?_
                  refine j_iconst (x := 2) C dX9_queue_84 (by decide) ?_
                  refine j_iload_n (i := 2) C dX9_queue_85 rfl 2 rfl ?_
                  refine j_imul C dX9_queue_86 ?_
                  refine j_isub C dX9_queue_87 ?_
                  refine c_S (As := [.int d, .int 0, .int (4092 - (2 * b))]) (rest := []) (st1 := [.int (S_X9_isIn u g d 0 (4092 - (2 * b)))]) C (c_X9_isIn ε ad v f u g d 0 (4092 - (2 * b))  ) mt_X9_isIn lm_X9_7 dX9_queue_88 rfl rfl (by decide) (Nat.le_of_ble_eq_true rfl) rfl ?_
                  refine j_if_eq (tgt := 125) C dX9_queue_91 (by decide) (fun c_84 => ?_) (fun c_84 => ?_)
                  · refine j_bipush (x := (-2)) C dX9_queue_125 (by decide) ?_
                    have hs : S_X9_queue u g a b c d e = ((-2), g) := by unfold S_X9_queue; rw [if_neg c_1, if_neg c_2, if_neg c_40, if_neg c_79, if_pos c_80, if_pos c_81, if_neg c_82, if_pos c_83, if_pos c_84]
                    exact j_iret C hQ rfl dX9_queue_127 (dt_ifM hs)
                  · refine j_iload (i := 4) C dX9_queue_94 4 rfl ?_
                    refine j_iconst (x := 2) C dX9_queue_96 (by decide) ?_
                    refine j_irem C dX9_queue_97 (by decide) ?_
                    refine j_if_ne (tgt := 125) C dX9_queue_98 (by decide) (fun c_85 => ?_) (fun c_85 => ?_)
                    · refine j_bipush (x := (-2)) C dX9_queue_125 (by decide) ?_
                      have hs : S_X9_queue u g a b c d e = ((-2), g) := by unfold S_X9_queue; rw [if_neg c_1, if_neg c_2, if_neg c_40, if_neg c_79, if_pos c_80, if_pos c_81, if_neg c_82, if_pos c_83, if_neg c_84, if_neg c_85]
                      exact j_iret C hQ rfl dX9_queue_127 (dt_ifM hs)
                    · refine j_iload (i := 5) C dX9_queue_101 5 rfl ?_
                      refine j_iconst (x := 0) C dX9_queue_103 (by decide) ?_
                      refine j_sipush (x := 4092) C dX9_queue_104 (by decide) ?_
                      refine j_bipush (x := 8) C dX9_queue_107 (by decide) ?_
                      refine j_iload_n (i := 2) C dX9_queue_109 rfl 2 rfl ?_
                      refine j_imul C dX9_queue_110 ?_
                      refine j_isub C dX9_queue_111 ?_
                      refine c_S (As := [.int e, .int 0, .int (4092 - (8 * b))]) (rest := []) (st1 := [.int (S_X9_isIn u g e 0 (4092 - (8 * b)))]) C (c_X9_isIn ε ad v f u g e 0 (4092 - (8 * b))  ) mt_X9_isIn lm_X9_7 dX9_queue_112 rfl rfl (by decide) (Nat.le_of_ble_eq_true rfl) rfl ?_
                      refine j_if_eq (tgt := 125) C dX9_queue_115 (by decide) (fun c_86 => ?_) (fun c_86 => ?_)
                      · refine j_bipush (x := (-2)) C dX9_queue_125 (by decide) ?_
                        have hs : S_X9_queue u g a b c d e = ((-2), g) := by unfold S_X9_queue; rw [if_neg c_1, if_neg c_2, if_neg c_40, if_neg c_79, if_pos c_80, if_pos c_81, if_neg c_82, if_pos c_83, if_neg c_84, if_pos c_85, if_pos c_86]
                        exact j_iret C hQ rfl dX9_queue_127 (dt_ifM hs)
                      · refine j_iload (i := 5) C dX9_queue_118 5 rfl ?_
                        refine j_iconst (x := 4) C dX9_queue_120 (by decide) ?_
                        refine j_irem C dX9_queue_121 (by decide) ?_
                        refine j_if_eq (tgt := 128) C dX9_queue_122 (by decide) (fun c_87 => ?_) (fun c_87 => ?_)
                        · refine j_aload_n (i := 0) C dX9_queue_128 rfl 0 rfl ?_
                          refine g_22_sizes C dX9_queue_129 lf_X9_11 ?_
                          refine j_iload_n (i := 1) C dX9_queue_132 rfl 1 rfl ?_
                          refine j_iload_n (i := 2) C dX9_queue_133 rfl 2 rfl ?_
                          refine asn_25 (q := 2) (F2 := (g 25)) (F := (upd (g 25) 2 b)) C dX9_queue_134 (by omega) rfl rfl rfl ?_
                          refine j_aload_n (i := 0) C dX9_queue_135 rfl 0 rfl ?_
                          refine g_22_descriptors C dX9_queue_136 lf_X9_49 ?_
                          refine j_iload_n (i := 1) C dX9_queue_139 rfl 1 rfl ?_
                          refine j_iload_n (i := 3) C dX9_queue_140 rfl 3 rfl ?_
                          refine asn_26 (q := 2) (F2 := ((va_up g 25 (upd (g 25) 2 b)) 26)) (F := (upd ((va_up g 25 (upd (g 25) 2 b)) 26) 2 c)) C dX9_queue_141 (by omega) rfl rfl rfl ?_
                          refine j_aload_n (i := 0) C dX9_queue_142 rfl 0 rfl ?_
                          refine g_22_availables C dX9_queue_143 lf_X9_52 ?_
                          refine j_iload_n (i := 1) C dX9_queue_146 rfl 1 rfl ?_
                          refine j_iload (i := 4) C dX9_queue_147 4 rfl ?_
                          refine asn_27 (q := 2) (F2 := ((va_up (va_up g 25 (upd (g 25) 2 b)) 26 (upd ((va_up g 25 (upd (g 25) 2 b)) 26) 2 c)) 27)) (F := (upd ((va_up (va_up g 25 (upd (g 25) 2 b)) 26 (upd ((va_up g 25 (upd (g 25) 2 b)) 26) 2 c)) 27) 2 d)) C dX9_queue_149 (by omega) rfl rfl rfl ?_
                          refine j_aload_n (i := 0) C dX9_queue_150 rfl 0 rfl ?_
                          refine g_22_useds C dX9_queue_151 lf_X9_55 ?_
                          refine j_iload_n (i := 1) C dX9_queue_154 rfl 1 rfl ?_
                          refine j_iload (i := 5) C dX9_queue_155 5 rfl ?_
                          refine asn_28 (q := 2) (F2 := ((va_up (va_up (va_up g 25 (upd (g 25) 2 b)) 26 (upd ((va_up g 25 (upd (g 25) 2 b)) 26) 2 c)) 27 (upd ((va_up (va_up g 25 (upd (g 25) 2 b)) 26 (upd ((va_up g 25 (upd (g 25) 2 b)) 26) 2 c)) 27) 2 d)) 28)) (F := (upd ((va_up (va_up (va_up g 25 (upd (g 25) 2 b)) 26 (upd ((va_up g 25 (upd (g 25) 2 b)) 26) 2 c)) 27 (upd ((va_up (va_up g 25 (upd (g 25) 2 b)) 26 (upd ((va_up g 25 (upd (g 25) 2 b)) 26) 2 c)) 27) 2 d)) 28) 2 e)) C dX9_queue_157 (by omega) rfl rfl rfl ?_
                          refine j_iconst (x := 0) C dX9_queue_158 (by decide) ?_
                          have hs : S_X9_queue u g a b c d e = (0, (va_up (va_up (va_up (va_up g 25 (upd (g 25) 2 b)) 26 (upd ((va_up g 25 (upd (g 25) 2 b)) 26) 2 c)) 27 (upd ((va_up (va_up g 25 (upd (g 25) 2 b)) 26 (upd ((va_up g 25 (upd (g 25) 2 b)) 26) 2 c)) 27) 2 d)) 28 (upd ((va_up (va_up (va_up g 25 (upd (g 25) 2 b)) 26 (upd ((va_up g 25 (upd (g 25) 2 b)) 26) 2 c)) 27 (upd ((va_up (va_up g 25 (upd (g 25) 2 b)) 26 (upd ((va_up g 25 (upd (g 25) 2 b)) 26) 2 c)) 27) 2 d)) 28) 2 e))) := by unfold S_X9_queue; rw [if_neg c_1, if_neg c_2, if_neg c_40, if_neg c_79, if_pos c_80, if_pos c_81, if_neg c_82, if_pos c_83, if_neg c_84, if_pos c_85, if_neg c_86, if_pos c_87]
                          exact j_iret C hQ rfl dX9_queue_159 (dt_ifM hs)
                        · refine j_bipush (x := (-2)) C dX9_queue_125 (by decide) ?_
                          have hs : S_X9_queue u g a b c d e = ((-2), g) := by unfold S_X9_queue; rw [if_neg c_1, if_neg c_2, if_neg c_40, if_neg c_79, if_pos c_80, if_pos c_81, if_neg c_82, if_pos c_83, if_neg c_84, if_pos c_85, if_neg c_86, if_neg c_87]
                          exact j_iret C hQ rfl dX9_queue_127 (dt_ifM hs)
            · refine j_iload_n (i := 2) C dX9_queue_30 rfl 2 rfl ?_
              refine j_iconst (x := 2) C dX9_queue_31 (by decide) ?_
              refine j_icmp_eq (tgt := 55) C dX9_queue_32 (by decide) (fun c_88 => ?_) (fun c_88 => ?_)
              · refine j_iload_n (i := 3) C dX9_queue_55 rfl 3 rfl ?_
                refine j_iconst (x := 0) C dX9_queue_56 (by decide) ?_
                refine j_sipush (x := 4096) C dX9_queue_57 (by decide) ?_
                refine j_bipush (x := 16) C dX9_queue_60 (by decide) ?_
                refine j_iload_n (i := 2) C dX9_queue_62 rfl 2 rfl ?_
                refine j_imul C dX9_queue_63 ?_
                refine j_isub C dX9_queue_64 ?_
                refine c_S (As := [.int c, .int 0, .int (4096 - (16 * b))]) (rest := []) (st1 := [.int (S_X9_isIn u g c 0 (4096 - (16 * b)))]) C (c_X9_isIn ε ad v f u g c 0 (4096 - (16 * b))  ) mt_X9_isIn lm_X9_7 dX9_queue_65 rfl rfl (by decide) (Nat.le_of_ble_eq_true rfl) rfl ?_
                refine j_if_eq (tgt := 125) C dX9_queue_68 (by decide) (fun c_89 => ?_) (fun c_89 => ?_)
                · refine j_bipush (x := (-2)) C dX9_queue_125 (by decide) ?_
                  have hs : S_X9_queue u g a b c d e = ((-2), g) := by unfold S_X9_queue; rw [if_neg c_1, if_neg c_2, if_neg c_40, if_neg c_79, if_pos c_80, if_neg c_81, if_pos c_88, if_pos c_89]
                  exact j_iret C hQ rfl dX9_queue_127 (dt_ifM hs)
                · refine j_iload_n (i := 3) C dX9_queue_71 rfl 3 rfl ?_
                  refine j_bipush (x := 16) C dX9_queue_72 (by decide) ?_
                  refine j_irem C dX9_queue_74 (by decide) ?_
                  refine j_if_ne (tgt := 125) C dX9_queue_75 (by decide) (fun c_90 => ?_) (fun c_90 => ?_)
                  · refine j_bipush (x := (-2)) C dX9_queue_125 (by decide) ?_
                    have hs : S_X9_queue u g a b c d e = ((-2), g) := by unfold S_X9_queue; rw [if_neg c_1, if_neg c_2, if_neg c_40, if_neg c_79, if_pos c_80, if_neg c_81, if_pos c_88, if_neg c_89, if_neg c_90]
                    exact j_iret C hQ rfl dX9_queue_127 (dt_ifM hs)
                  · refine j_iload (i := 4) C dX9_queue_78 4 rfl ?_
                    refine j_iconst (x := 0) C dX9_queue_80 (by decide) ?_
                    refine j_sipush (x := 4092) C dX9_queue_81 (by decide) ?_
                    refine j_iconst (x := 2) C dX9_queue_84 (by decide) ?_
                    refine j_iload_n (i := 2) C dX9_queue_85 rfl 2 rfl ?_
                    refine j_imul C dX9_queue_86 ?_
                    refine j_isub C dX9_queue_87 ?_
                    refine c_S (As := [.int d, .int 0, .int (4092 - (2 * b))]) (rest := []) (st1 := [.int (S_X9_isIn u g d 0 (4092 - (2 * b)))]) C (c_X9_isIn ε ad v f u g d 0 (4092 - (2 * b))  ) mt_X9_isIn lm_X9_7 dX9_queue_88 rfl rfl (by decide) (Nat.le_of_ble_eq_true rfl) rfl ?_
                    refine j_if_eq (tgt := 125) C dX9_queue_91 (by decide) (fun c_91 => ?_) (fun c_91 => ?_)
                    · refine j_bipush (x := (-2)) C dX9_queue_125 (by decide) ?_
                      have hs : S_X9_queue u g a b c d e = ((-2), g) := by unfold S_X9_queue; rw [if_neg c_1, if_neg c_2, if_neg c_40, if_neg c_79, if_pos c_80, if_neg c_81, if_pos c_88, if_neg c_89, if_pos c_90, if_pos c_91]
                      exact j_iret C hQ rfl dX9_queue_127 (dt_ifM hs)
                    · refine j_iload (i := 4) C dX9_queue_94 4 rfl ?_
                      refine j_iconst (x := 2) C dX9_queue_96 (by decide) ?_
                      refine j_irem C dX9_queue_97 (by decide) ?_
                      refine j_if_ne (tgt := 125) C dX9_queue_98 (by decide) (fun c_92 => ?_) (fun c_92 => ?_)
                      · refine j_bipush (x := (-2)) C dX9_queue_125 (by decide) ?_
                        have hs : S_X9_queue u g a b c d e = ((-2), g) := by unfold S_X9_queue; rw [if_neg c_1, if_neg c_2, if_neg c_40, if_neg c_79, if_pos c_80, if_neg c_81, if_pos c_88, if_neg c_89, if_pos c_90, if_neg c_91, if_neg c_92]
                        exact j_iret C hQ rfl dX9_queue_127 (dt_ifM hs)
                      · refine j_iload (i := 5) C dX9_queue_101 5 rfl ?_
                        refine j_iconst (x := 0) C dX9_queue_103 (by decide) ?_
                        refine j_sipush (x := 4092) C dX9_queue_104 (by decide) ?_
                        refine j_bipush (x := 8) C dX9_queue_107 (by decide) ?_
                        refine j_iload_n (i := 2) C dX9_queue_109 rfl 2 rfl ?_
                        refine j_imul C dX9_queue_110 ?_
                        refine j_isub C dX9_queue_111 ?_
                        refine c_S (As := [.int e, .int 0, .int (4092 - (8 * b))]) (rest := []) (st1 := [.int (S_X9_isIn u g e 0 (4092 - (8 * b)))]) C (c_X9_isIn ε ad v f u g e 0 (4092 - (8 * b))  ) mt_X9_isIn lm_X9_7 dX9_queue_112 rfl rfl (by decide) (Nat.le_of_ble_eq_true rfl) rfl ?_
                        refine j_if_eq (tgt := 125) C dX9_queue_115 (by decide) (fun c_93 => ?_) (fun c_93 => ?_)
                        · refine j_bipush (x := (-2)) C dX9_queue_125 (by decide) ?_
                          have hs : S_X9_queue u g a b c d e = ((-2), g) := by unfold S_X9_queue; rw [if_neg c_1, if_neg c_2, if_neg c_40, if_neg c_79, if_pos c_80, if_neg c_81, if_pos c_88, if_neg c_89, if_pos c_90, if_neg c_91, if_pos c_92, if_pos c_93]
                          exact j_iret C hQ rfl dX9_queue_127 (dt_ifM hs)
                        · refine j_iload (i := 5) C dX9_queue_118 5 rfl ?_
                          refine j_iconst (x := 4) C dX9_queue_120 (by decide) ?_
                          refine j_irem C dX9_queue_121 (by decide) ?_
                          refine j_if_eq (tgt := 128) C dX9_queue_122 (by decide) (fun c_94 => ?_) (fun c_94 => ?_)
                          · refine j_aload_n (i := 0) C dX9_queue_128 rfl 0 rfl ?_
                            refine g_22_sizes C dX9_queue_129 lf_X9_11 ?_
                            refine j_iload_n (i := 1) C dX9_queue_132 rfl 1 rfl ?_
                            refine j_iload_n (i := 2) C dX9_queue_133 rfl 2 rfl ?_
                            refine asn_25 (q := 2) (F2 := (g 25)) (F := (upd (g 25) 2 b)) C dX9_queue_134 (by omega) rfl rfl rfl ?_
                            refine j_aload_n (i := 0) C dX9_queue_135 rfl 0 rfl ?_
                            refine g_22_descriptors C dX9_queue_136 lf_X9_49 ?_
                            refine j_iload_n (i := 1) C dX9_queue_139 rfl 1 rfl ?_
                            refine j_iload_n (i := 3) C dX9_queue_140 rfl 3 rfl ?_
                            refine asn_26 (q := 2) (F2 := ((va_up g 25 (upd (g 25) 2 b)) 26)) (F := (upd ((va_up g 25 (upd (g 25) 2 b)) 26) 2 c)) C dX9_queue_141 (by omega) rfl rfl rfl ?_
                            refine j_aload_n (i := 0) C dX9_queue_142 rfl 0 rfl ?_
                            refine g_22_availables C dX9_queue_143 lf_X9_52 ?_
                            refine j_iload_n (i := 1) C dX9_queue_146 rfl 1 rfl ?_
                            refine j_iload (i := 4) C dX9_queue_147 4 rfl ?_
                            refine asn_27 (q := 2) (F2 := ((va_up (va_up g 25 (upd (g 25) 2 b)) 26 (upd ((va_up g 25 (upd (g 25) 2 b)) 26) 2 c)) 27)) (F := (upd ((va_up (va_up g 25 (upd (g 25) 2 b)) 26 (upd ((va_up g 25 (upd (g 25) 2 b)) 26) 2 c)) 27) 2 d)) C dX9_queue_149 (by omega) rfl rfl rfl ?_
                            refine j_aload_n (i := 0) C dX9_queue_150 rfl 0 rfl ?_
                            refine g_22_useds C dX9_queue_151 lf_X9_55 ?_
                            refine j_iload_n (i := 1) C dX9_queue_154 rfl 1 rfl ?_
                            refine j_iload (i := 5) C dX9_queue_155 5 rfl ?_
                            refine asn_28 (q := 2) (F2 := ((va_up (va_up (va_up g 25 (upd (g 25) 2 b)) 26 (upd ((va_up g 25 (upd (g 25) 2 b)) 26) 2 c)) 27 (upd ((va_up (va_up g 25 (upd (g 25) 2 b)) 26 (upd ((va_up g 25 (upd (g 25) 2 b)) 26) 2 c)) 27) 2 d)) 28)) (F := (upd ((va_up (va_up (va_up g 25 (upd (g 25) 2 b)) 26 (upd ((va_up g 25 (upd (g 25) 2 b)) 26) 2 c)) 27 (upd ((va_up (va_up g 25 (upd (g 25) 2 b)) 26 (upd ((va_up g 25 (upd (g 25) 2 b)) 26) 2 c)) 27) 2 d)) 28) 2 e)) C dX9_queue_157 (by omega) rfl rfl rfl ?_
                            refine j_iconst (x := 0) C dX9_queue_158 (by decide) ?_
                            have hs : S_X9_queue u g a b c d e = (0, (va_up (va_up (va_up (va_up g 25 (upd (g 25) 2 b)) 26 (upd ((va_up g 25 (upd (g 25) 2 b)) 26) 2 c)) 27 (upd ((va_up (va_up g 25 (upd (g 25) 2 b)) 26 (upd ((va_up g 25 (upd (g 25) 2 b)) 26) 2 c)) 27) 2 d)) 28 (upd ((va_up (va_up (va_up g 25 (upd (g 25) 2 b)) 26 (upd ((va_up g 25 (upd (g 25) 2 b)) 26) 2 c)) 27 (upd ((va_up (va_up g 25 (upd (g 25) 2 b)) 26 (upd ((va_up g 25 (upd (g 25) 2 b)) 26) 2 c)) 27) 2 d)) 28) 2 e))) := by unfold S_X9_queue; rw [if_neg c_1, if_neg c_2, if_neg c_40, if_neg c_79, if_pos c_80, if_neg c_81, if_pos c_88, if_neg c_89, if_pos c_90, if_neg c_91, if_pos c_92, if_neg c_93, if_pos c_94]
                            exact j_iret C hQ rfl dX9_queue_159 (dt_ifM hs)
                          · refine j_bipush (x := (-2)) C dX9_queue_125 (by decide) ?_
                            have hs : S_X9_queue u g a b c d e = ((-2), g) := by unfold S_X9_queue; rw [if_neg c_1, if_neg c_2, if_neg c_40, if_neg c_79, if_pos c_80, if_neg c_81, if_pos c_88, if_neg c_89, if_pos c_90, if_neg c_91, if_pos c_92, if_neg c_93, if_neg c_94]
                            exact j_iret C hQ rfl dX9_queue_127 (dt_ifM hs)
              · refine j_iload_n (i := 2) C dX9_queue_35 rfl 2 rfl ?_
                refine j_iconst (x := 4) C dX9_queue_36 (by decide) ?_
                refine j_icmp_eq (tgt := 55) C dX9_queue_37 (by decide) (fun c_95 => ?_) (fun c_95 => ?_)
                · refine j_iload_n (i := 3) C dX9_queue_55 rfl 3 rfl ?_
                  refine j_iconst (x := 0) C dX9_queue_56 (by decide) ?_
                  refine j_sipush (x := 4096) C dX9_queue_57 (by decide) ?_
                  refine j_bipush (x := 16) C dX9_queue_60 (by decide) ?_
                  refine j_iload_n (i := 2) C dX9_queue_62 rfl 2 rfl ?_
                  refine j_imul C dX9_queue_63 ?_
                  refine j_isub C dX9_queue_64 ?_
                  refine c_S (As := [.int c, .int 0, .int (4096 - (16 * b))]) (rest := []) (st1 := [.int (S_X9_isIn u g c 0 (4096 - (16 * b)))]) C (c_X9_isIn ε ad v f u g c 0 (4096 - (16 * b))  ) mt_X9_isIn lm_X9_7 dX9_queue_65 rfl rfl (by decide) (Nat.le_of_ble_eq_true rfl) rfl ?_
                  refine j_if_eq (tgt := 125) C dX9_queue_68 (by decide) (fun c_96 => ?_) (fun c_96 => ?_)
                  · refine j_bipush (x := (-2)) C dX9_queue_125 (by decide) ?_
                    have hs : S_X9_queue u g a b c d e = ((-2), g) := by unfold S_X9_queue; rw [if_neg c_1, if_neg c_2, if_neg c_40, if_neg c_79, if_pos c_80, if_neg c_81, if_neg c_88, if_pos c_95, if_pos c_96]
                    exact j_iret C hQ rfl dX9_queue_127 (dt_ifM hs)
                  · refine j_iload_n (i := 3) C dX9_queue_71 rfl 3 rfl ?_
                    refine j_bipush (x := 16) C dX9_queue_72 (by decide) ?_
                    refine j_irem C dX9_queue_74 (by decide) ?_
                    refine j_if_ne (tgt := 125) C dX9_queue_75 (by decide) (fun c_97 => ?_) (fun c_97 => ?_)
                    · refine j_bipush (x := (-2)) C dX9_queue_125 (by decide) ?_
                      have hs : S_X9_queue u g a b c d e = ((-2), g) := by unfold S_X9_queue; rw [if_neg c_1, if_neg c_2, if_neg c_40, if_neg c_79, if_pos c_80, if_neg c_81, if_neg c_88, if_pos c_95, if_neg c_96, if_neg c_97]
                      exact j_iret C hQ rfl dX9_queue_127 (dt_ifM hs)
                    · refine j_iload (i := 4) C dX9_queue_78 4 rfl ?_
                      refine j_iconst (x := 0) C dX9_queue_80 (by decide) ?_
                      refine j_sipush (x := 4092) C dX9_queue_81 (by decide) ?_
                      refine j_iconst (x := 2) C dX9_queue_84 (by decide) ?_
                      refine j_iload_n (i := 2) C dX9_queue_85 rfl 2 rfl ?_
                      refine j_imul C dX9_queue_86 ?_
                      refine j_isub C dX9_queue_87 ?_
                      refine c_S (As := [.int d, .int 0, .int (4092 - (2 * b))]) (rest := []) (st1 := [.int (S_X9_isIn u g d 0 (4092 - (2 * b)))]) C (c_X9_isIn ε ad v f u g d 0 (4092 - (2 * b))  ) mt_X9_isIn lm_X9_7 dX9_queue_88 rfl rfl (by decide) (Nat.le_of_ble_eq_true rfl) rfl ?_
                      refine j_if_eq (tgt := 125) C dX9_queue_91 (by decide) (fun c_98 => ?_) (fun c_98 => ?_)
                      · refine j_bipush (x := (-2)) C dX9_queue_125 (by decide) ?_
                        have hs : S_X9_queue u g a b c d e = ((-2), g) := by unfold S_X9_queue; rw [if_neg c_1, if_neg c_2, if_neg c_40, if_neg c_79, if_pos c_80, if_neg c_81, if_neg c_88, if_pos c_95, if_neg c_96, if_pos c_97, if_pos c_98]
                        exact j_iret C hQ rfl dX9_queue_127 (dt_ifM hs)
                      · refine j_iload (i := 4) C dX9_queue_94 4 rfl ?_
                        refine j_iconst (x := 2) C dX9_queue_96 (by decide) ?_
                        refine j_irem C dX9_queue_97 (by decide) ?_
                        refine j_if_ne (tgt := 125) C dX9_queue_98 (by decide) (fun c_99 => ?_) (fun c_99 => ?_)
                        · refine j_bipush (x := (-2)) C dX9_queue_125 (by decide) ?_
                          have hs : S_X9_queue u g a b c d e = ((-2), g) := by unfold S_X9_queue; rw [if_neg c_1, if_neg c_2, if_neg c_40, if_neg c_79, if_pos c_80, if_neg c_81, if_neg c_88, if_pos c_95, if_neg c_96, if_pos c_97, if_neg c_98, if_neg c_99]
                          exact j_iret C hQ rfl dX9_queue_127 (dt_ifM hs)
                        · refine j_iload (i := 5) C dX9_queue_101 5 rfl ?_
                          refine j_iconst (x := 0) C dX9_queue_103 (by decide) ?_
                          refine j_sipush (x := 4092) C dX9_queue_104 (by decide) ?_
                          refine j_bipush (x := 8) C dX9_queue_107 (by decide) ?_
                          refine j_iload_n (i := 2) C dX9_queue_109 rfl 2 rfl ?_
                          refine j_imul C dX9_queue_110 ?_
                          refine j_isub C dX9_queue_111 ?_
                          refine c_S (As := [.int e, .int 0, .int (4092 - (8 * b))]) (rest := []) (st1 := [.int (S_X9_isIn u g e 0 (4092 - (8 * b)))]) C (c_X9_isIn ε ad v f u g e 0 (4092 - (8 * b))  ) mt_X9_isIn lm_X9_7 dX9_queue_112 rfl rfl (by decide) (Nat.le_of_ble_eq_true rfl) rfl ?_
                          refine j_if_eq (tgt := 125) C dX9_queue_115 (by decide) (fun c_100 => ?_) (fun c_100 => ?_)
                          · refine j_bipush (x := (-2)) C dX9_queue_125 (by decide) ?_
                            have hs : S_X9_queue u g a b c d e = ((-2), g) := by unfold S_X9_queue; rw [if_neg c_1, if_neg c_2, if_neg c_40, if_neg c_79, if_pos c_80, if_neg c_81, if_neg c_88, if_pos c_95, if_neg c_96, if_pos c_97, if_neg c_98, if_pos c_99, if_pos c_100]
                            exact j_iret C hQ rfl dX9_queue_127 (dt_ifM hs)
                          · refine j_iload (i := 5) C dX9_queue_118 5 rfl ?_
                            refine j_iconst (x := 4) C dX9_queue_120 (by decide) ?_
                            refine j_irem C dX9_queue_121 (by decide) ?_
                            refine j_if_eq (tgt := 128) C dX9_queue_122 (by decide) (fun c_101 => ?_) (fun c_101 => ?_)
                            · refine j_aload_n (i := 0) C dX9_queue_128 rfl 0 rfl ?_
                              refine g_22_sizes C dX9_queue_129 lf_X9_11 ?_
                              refine j_iload_n (i := 1) C dX9_queue_132 rfl 1 rfl ?_
                              refine j_iload_n (i := 2) C dX9_queue_133 rfl 2 rfl ?_
                              refine asn_25 (q := 2) (F2 := (g 25)) (F := (upd (g 25) 2 b)) C dX9_queue_134 (by omega) rfl rfl rfl ?_
                              refine j_aload_n (i := 0) C dX9_queue_135 rfl 0 rfl ?_
                              refine g_22_descriptors C dX9_queue_136 lf_X9_49 ?_
                              refine j_iload_n (i := 1) C dX9_queue_139 rfl 1 rfl ?_
                              refine j_iload_n (i := 3) C dX9_queue_140 rfl 3 rfl ?_
                              refine asn_26 (q := 2) (F2 := ((va_up g 25 (upd (g 25) 2 b)) 26)) (F := (upd ((va_up g 25 (upd (g 25) 2 b)) 26) 2 c)) C dX9_queue_141 (by omega) rfl rfl rfl ?_
                              refine j_aload_n (i := 0) C dX9_queue_142 rfl 0 rfl ?_
                              refine g_22_availables C dX9_queue_143 lf_X9_52 ?_
                              refine j_iload_n (i := 1) C dX9_queue_146 rfl 1 rfl ?_
                              refine j_iload (i := 4) C dX9_queue_147 4 rfl ?_
                              refine asn_27 (q := 2) (F2 := ((va_up (va_up g 25 (upd (g 25) 2 b)) 26 (upd ((va_up g 25 (upd (g 25) 2 b)) 26) 2 c)) 27)) (F := (upd ((va_up (va_up g 25 (upd (g 25) 2 b)) 26 (upd ((va_up g 25 (upd (g 25) 2 b)) 26) 2 c)) 27) 2 d)) C dX9_queue_149 (by omega) rfl rfl rfl ?_
                              refine j_aload_n (i := 0) C dX9_queue_150 rfl 0 rfl ?_
                              refine g_22_useds C dX9_queue_151 lf_X9_55 ?_
                              refine j_iload_n (i := 1) C dX9_queue_154 rfl 1 rfl ?_
                              refine j_iload (i := 5) C dX9_queue_155 5 rfl ?_
                              refine asn_28 (q := 2) (F2 := ((va_up (va_up (va_up g 25 (upd (g 25) 2 b)) 26 (upd ((va_up g 25 (upd (g 25) 2 b)) 26) 2 c)) 27 (upd ((va_up (va_up g 25 (upd (g 25) 2 b)) 26 (upd ((va_up g 25 (upd (g 25) 2 b)) 26) 2 c)) 27) 2 d)) 28)) (F := (upd ((va_up (va_up (va_up g 25 (upd (g 25) 2 b)) 26 (upd ((va_up g 25 (upd (g 25) 2 b)) 26) 2 c)) 27 (upd ((va_up (va_up g 25 (upd (g 25) 2 b)) 26 (upd ((va_up g 25 (upd (g 25) 2 b)) 26) 2 c)) 27) 2 d)) 28) 2 e)) C dX9_queue_157 (by omega) rfl rfl rfl ?_
                              refine j_iconst (x := 0) C dX9_queue_158 (by decide) ?_
                              have hs : S_X9_queue u g a b c d e = (0, (va_up (va_up (va_up (va_up g 25 (upd (g 25) 2 b)) 26 (upd ((va_up g 25 (upd (g 25) 2 b)) 26) 2 c)) 27 (upd ((va_up (va_up g 25 (upd (g 25) 2 b)) 26 (upd ((va_up g 25 (upd (g 25) 2 b)) 26) 2 c)) 27) 2 d)) 28 (upd ((va_up (va_up (va_up g 25 (upd (g 25) 2 b)) 26 (upd ((va_up g 25 (upd (g 25) 2 b)) 26) 2 c)) 27 (upd ((va_up (va_up g 25 (upd (g 25) 2 b)) 26 (upd ((va_up g 25 (upd (g 25) 2 b)) 26) 2 c)) 27) 2 d)) 28) 2 e))) := by unfold S_X9_queue; rw [if_neg c_1, if_neg c_2, if_neg c_40, if_neg c_79, if_pos c_80, if_neg c_81, if_neg c_88, if_pos c_95, if_neg c_96, if_pos c_97, if_neg c_98, if_pos c_99, if_neg c_100, if_pos c_101]
                              exact j_iret C hQ rfl dX9_queue_159 (dt_ifM hs)
                            · refine j_bipush (x := (-2)) C dX9_queue_125 (by decide) ?_
                              have hs : S_X9_queue u g a b c d e = ((-2), g) := by unfold S_X9_queue; rw [if_neg c_1, if_neg c_2, if_neg c_40, if_neg c_79, if_pos c_80, if_neg c_81, if_neg c_88, if_pos c_95, if_neg c_96, if_pos c_97, if_neg c_98, if_pos c_99, if_neg c_100, if_neg c_101]
                              exact j_iret C hQ rfl dX9_queue_127 (dt_ifM hs)
                · refine j_iload_n (i := 2) C dX9_queue_40 rfl 2 rfl ?_
                  refine j_bipush (x := 8) C dX9_queue_41 (by decide) ?_
                  refine j_icmp_eq (tgt := 55) C dX9_queue_43 (by decide) (fun c_102 => ?_) (fun c_102 => ?_)
                  · refine j_iload_n (i := 3) C dX9_queue_55 rfl 3 rfl ?_
                    refine j_iconst (x := 0) C dX9_queue_56 (by decide) ?_
                    refine j_sipush (x := 4096) C dX9_queue_57 (by decide) ?_
                    refine j_bipush (x := 16) C dX9_queue_60 (by decide) ?_
                    refine j_iload_n (i := 2) C dX9_queue_62 rfl 2 rfl ?_
                    refine j_imul C dX9_queue_63 ?_
                    refine j_isub C dX9_queue_64 ?_
                    refine c_S (As := [.int c, .int 0, .int (4096 - (16 * b))]) (rest := []) (st1 := [.int (S_X9_isIn u g c 0 (4096 - (16 * b)))]) C (c_X9_isIn ε ad v f u g c 0 (4096 - (16 * b))  ) mt_X9_isIn lm_X9_7 dX9_queue_65 rfl rfl (by decide) (Nat.le_of_ble_eq_true rfl) rfl ?_
                    refine j_if_eq (tgt := 125) C dX9_queue_68 (by decide) (fun c_103 => ?_) (fun c_103 => ?_)
                    · refine j_bipush (x := (-2)) C dX9_queue_125 (by decide) ?_
                      have hs : S_X9_queue u g a b c d e = ((-2), g) := by unfold S_X9_queue; rw [if_neg c_1, if_neg c_2, if_neg c_40, if_neg c_79, if_pos c_80, if_neg c_81, if_neg c_88, if_neg c_95, if_pos c_102, if_pos c_103]
                      exact j_iret C hQ rfl dX9_queue_127 (dt_ifM hs)
                    · refine j_iload_n (i := 3) C dX9_queue_71 rfl 3 rfl ?_
                      refine j_bipush (x := 16) C dX9_queue_72 (by decide) ?_
                      refine j_irem C dX9_queue_74 (by decide) ?_
                      refine j_if_ne (tgt := 125) C dX9_queue_75 (by decide) (fun c_104 => ?_) (fun c_104 => ?_)
                      · refine j_bipush (x := (-2)) C dX9_queue_125 (by decide) ?_
                        have hs : S_X9_queue u g a b c d e = ((-2), g) := by unfold S_X9_queue; rw [if_neg c_1, if_neg c_2, if_neg c_40, if_neg c_79, if_pos c_80, if_neg c_81, if_neg c_88, if_neg c_95, if_pos c_102, if_neg c_103, if_neg c_104]
                        exact j_iret C hQ rfl dX9_queue_127 (dt_ifM hs)
                      · refine j_iload (i := 4) C dX9_queue_78 4 rfl ?_
                        refine j_iconst (x := 0) C dX9_queue_80 (by decide) ?_
                        refine j_sipush (x := 4092) C dX9_queue_81 (by decide) ?_
                        refine j_iconst (x := 2) C dX9_queue_84 (by decide) ?_
                        refine j_iload_n (i := 2) C dX9_queue_85 rfl 2 rfl ?_
                        refine j_imul C dX9_queue_86 ?_
                        refine j_isub C dX9_queue_87 ?_
                        refine c_S (As := [.int d, .int 0, .int (4092 - (2 * b))]) (rest := []) (st1 := [.int (S_X9_isIn u g d 0 (4092 - (2 * b)))]) C (c_X9_isIn ε ad v f u g d 0 (4092 - (2 * b))  ) mt_X9_isIn lm_X9_7 dX9_queue_88 rfl rfl (by decide) (Nat.le_of_ble_eq_true rfl) rfl ?_
                        refine j_if_eq (tgt := 125) C dX9_queue_91 (by decide) (fun c_105 => ?_) (fun c_105 => ?_)
                        · refine j_bipush (x := (-2)) C dX9_queue_125 (by decide) ?_
                          have hs : S_X9_queue u g a b c d e = ((-2), g) := by unfold S_X9_queue; rw [if_neg c_1, if_neg c_2, if_neg c_40, if_neg c_79, if_pos c_80, if_neg c_81, if_neg c_88, if_neg c_95, if_pos c_102, if_neg c_103, if_pos c_104, if_pos c_105]
                          exact j_iret C hQ rfl dX9_queue_127 (dt_ifM hs)
                        · refine j_iload (i := 4) C dX9_queue_94 4 rfl ?_
                          refine j_iconst (x := 2) C dX9_queue_96 (by decide) ?_
                          refine j_irem C dX9_queue_97 (by decide) ?_
                          refine j_if_ne (tgt := 125) C dX9_queue_98 (by decide) (fun c_106 => ?_) (fun c_106 => ?_)
                          · refine j_bipush (x := (-2)) C dX9_queue_125 (by decide) ?_
                            have hs : S_X9_queue u g a b c d e = ((-2), g) := by unfold S_X9_queue; rw [if_neg c_1, if_neg c_2, if_neg c_40, if_neg c_79, if_pos c_80, if_neg c_81, if_neg c_88, if_neg c_95, if_pos c_102, if_neg c_103, if_pos c_104, if_neg c_105, if_neg c_106]
                            exact j_iret C hQ rfl dX9_queue_127 (dt_ifM hs)
                          · refine j_iload (i := 5) C dX9_queue_101 5 rfl ?_
                            refine j_iconst (x := 0) C dX9_queue_103 (by decide) ?_
                            refine j_sipush (x := 4092) C dX9_queue_104 (by decide) ?_
                            refine j_bipush (x := 8) C dX9_queue_107 (by decide) ?_
                            refine j_iload_n (i := 2) C dX9_queue_109 rfl 2 rfl ?_
                            refine j_imul C dX9_queue_110 ?_
                            refine j_isub C dX9_queue_111 ?_
                            refine c_S (As := [.int e, .int 0, .int (4092 - (8 * b))]) (rest := []) (st1 := [.int (S_X9_isIn u g e 0 (4092 - (8 * b)))]) C (c_X9_isIn ε ad v f u g e 0 (4092 - (8 * b))  ) mt_X9_isIn lm_X9_7 dX9_queue_112 rfl rfl (by decide) (Nat.le_of_ble_eq_true rfl) rfl ?_
                            refine j_if_eq (tgt := 125) C dX9_queue_115 (by decide) (fun c_107 => ?_) (fun c_107 => ?_)
                            · refine j_bipush (x := (-2)) C dX9_queue_125 (by decide) ?_
                              have hs : S_X9_queue u g a b c d e = ((-2), g) := by unfold S_X9_queue; rw [if_neg c_1, if_neg c_2, if_neg c_40, if_neg c_79, if_pos c_80, if_neg c_81, if_neg c_88, if_neg c_95, if_pos c_102, if_neg c_103, if_pos c_104, if_neg c_105, if_pos c_106, if_pos c_107]
                              exact j_iret C hQ rfl dX9_queue_127 (dt_ifM hs)
                            · refine j_iload (i := 5) C dX9_queue_118 5 rfl ?_
                              refine j_iconst (x := 4) C dX9_queue_120 (by decide) ?_
                              refine j_irem C dX9_queue_121 (by decide) ?_
                              refine j_if_eq (tgt := 128) C dX9_queue_122 (by decide) (fun c_108 => ?_) (fun c_108 => ?_)
                              · refine j_aload_n (i := 0) C dX9_queue_128 rfl 0 rfl ?_
                                refine g_22_sizes C dX9_queue_129 lf_X9_11 ?_
                                refine j_iload_n (i := 1) C dX9_queue_132 rfl 1 rfl ?_
                                refine j_iload_n (i := 2) C dX9_queue_133 rfl 2 rfl ?_
                                refine asn_25 (q := 2) (F2 := (g 25)) (F := (upd (g 25) 2 b)) C dX9_queue_134 (by omega) rfl rfl rfl ?_
                                refine j_aload_n (i := 0) C dX9_queue_135 rfl 0 rfl ?_
                                refine g_22_descriptors C dX9_queue_136 lf_X9_49 ?_
                                refine j_iload_n (i := 1) C dX9_queue_139 rfl 1 rfl ?_
                                refine j_iload_n (i := 3) C dX9_queue_140 rfl 3 rfl ?_
                                refine asn_26 (q := 2) (F2 := ((va_up g 25 (upd (g 25) 2 b)) 26)) (F := (upd ((va_up g 25 (upd (g 25) 2 b)) 26) 2 c)) C dX9_queue_141 (by omega) rfl rfl rfl ?_
                                refine j_aload_n (i := 0) C dX9_queue_142 rfl 0 rfl ?_
                                refine g_22_availables C dX9_queue_143 lf_X9_52 ?_
                                refine j_iload_n (i := 1) C dX9_queue_146 rfl 1 rfl ?_
                                refine j_iload (i := 4) C dX9_queue_147 4 rfl ?_
                                refine asn_27 (q := 2) (F2 := ((va_up (va_up g 25 (upd (g 25) 2 b)) 26 (upd ((va_up g 25 (upd (g 25) 2 b)) 26) 2 c)) 27)) (F := (upd ((va_up (va_up g 25 (upd (g 25) 2 b)) 26 (upd ((va_up g 25 (upd (g 25) 2 b)) 26) 2 c)) 27) 2 d)) C dX9_queue_149 (by omega) rfl rfl rfl ?_
                                refine j_aload_n (i := 0) C dX9_queue_150 rfl 0 rfl ?_
                                refine g_22_useds C dX9_queue_151 lf_X9_55 ?_
                                refine j_iload_n (i := 1) C dX9_queue_154 rfl 1 rfl ?_
                                refine j_iload (i := 5) C dX9_queue_155 5 rfl ?_
                                refine asn_28 (q := 2) (F2 := ((va_up (va_up (va_up g 25 (upd (g 25) 2 b)) 26 (upd ((va_up g 25 (upd (g 25) 2 b)) 26) 2 c)) 27 (upd ((va_up (va_up g 25 (upd (g 25) 2 b)) 26 (upd ((va_up g 25 (upd (g 25) 2 b)) 26) 2 c)) 27) 2 d)) 28)) (F := (upd ((va_up (va_up (va_up g 25 (upd (g 25) 2 b)) 26 (upd ((va_up g 25 (upd (g 25) 2 b)) 26) 2 c)) 27 (upd ((va_up (va_up g 25 (upd (g 25) 2 b)) 26 (upd ((va_up g 25 (upd (g 25) 2 b)) 26) 2 c)) 27) 2 d)) 28) 2 e)) C dX9_queue_157 (by omega) rfl rfl rfl ?_
                                refine j_iconst (x := 0) C dX9_queue_158 (by decide) ?_
                                have hs : S_X9_queue u g a b c d e = (0, (va_up (va_up (va_up (va_up g 25 (upd (g 25) 2 b)) 26 (upd ((va_up g 25 (upd (g 25) 2 b)) 26) 2 c)) 27 (upd ((va_up (va_up g 25 (upd (g 25) 2 b)) 26 (upd ((va_up g 25 (upd (g 25) 2 b)) 26) 2 c)) 27) 2 d)) 28 (upd ((va_up (va_up (va_up g 25 (upd (g 25) 2 b)) 26 (upd ((va_up g 25 (upd (g 25) 2 b)) 26) 2 c)) 27 (upd ((va_up (va_up g 25 (upd (g 25) 2 b)) 26 (upd ((va_up g 25 (upd (g 25) 2 b)) 26) 2 c)) 27) 2 d)) 28) 2 e))) := by unfold S_X9_queue; rw [if_neg c_1, if_neg c_2, if_neg c_40, if_neg c_79, if_pos c_80, if_neg c_81, if_neg c_88, if_neg c_95, if_pos c_102, if_neg c_103, if_pos c_104, if_neg c_105, if_pos c_106, if_neg c_107, if_pos c_108]
                                exact j_iret C hQ rfl dX9_queue_159 (dt_ifM hs)
                              · refine j_bipush (x := (-2)) C dX9_queue_125 (by decide) ?_
                                have hs : S_X9_queue u g a b c d e = ((-2), g) := by unfold S_X9_queue; rw [if_neg c_1, if_neg c_2, if_neg c_40, if_neg c_79, if_pos c_80, if_neg c_81, if_neg c_88, if_neg c_95, if_pos c_102, if_neg c_103, if_pos c_104, if_neg c_105, if_pos c_106, if_neg c_107, if_neg c_108]
                                exact j_iret C hQ rfl dX9_queue_127 (dt_ifM hs)
                  · refine j_iload_n (i := 2) C dX9_queue_46 rfl 2 rfl ?_
                    refine j_bipush (x := 16) C dX9_queue_47 (by decide) ?_
                    refine j_icmp_eq (tgt := 55) C dX9_queue_49 (by decide) (fun c_109 => ?_) (fun c_109 => ?_)
                    · refine j_iload_n (i := 3) C dX9_queue_55 rfl 3 rfl ?_
                      refine j_iconst (x := 0) C dX9_queue_56 (by decide) ?_
                      refine j_sipush (x := 4096) C dX9_queue_57 (by decide) ?_
                      refine j_bipush (x := 16) C dX9_queue_60 (by decide) ?_
                      refine j_iload_n (i := 2) C dX9_queue_62 rfl 2 rfl ?_
                      refine j_imul C dX9_queue_63 ?_
                      refine j_isub C dX9_queue_64 ?_
                      refine c_S (As := [.int c, .int 0, .int (4096 - (16 * b))]) (rest := []) (st1 := [.int (S_X9_isIn u g c 0 (4096 - (16 * b)))]) C (c_X9_isIn ε ad v f u g c 0 (4096 - (16 * b))  ) mt_X9_isIn lm_X9_7 dX9_queue_65 rfl rfl (by decide) (Nat.le_of_ble_eq_true rfl) rfl ?_
                      refine j_if_eq (tgt := 125) C dX9_queue_68 (by decide) (fun c_110 => ?_) (fun c_110 => ?_)
                      · refine j_bipush (x := (-2)) C dX9_queue_125 (by decide) ?_
                        have hs : S_X9_queue u g a b c d e = ((-2), g) := by unfold S_X9_queue; rw [if_neg c_1, if_neg c_2, if_neg c_40, if_neg c_79, if_pos c_80, if_neg c_81, if_neg c_88, if_neg c_95, if_neg c_102, if_pos c_109, if_pos c_110]
                        exact j_iret C hQ rfl dX9_queue_127 (dt_ifM hs)
                      · refine j_iload_n (i := 3) C dX9_queue_71 rfl 3 rfl ?_
                        refine j_bipush (x := 16) C dX9_queue_72 (by decide) ?_
                        refine j_irem C dX9_queue_74 (by decide) ?_
                        refine j_if_ne (tgt := 125) C dX9_queue_75 (by decide) (fun c_111 => ?_) (fun c_111 => ?_)
                        · refine j_bipush (x := (-2)) C dX9_queue_125 (by decide) ?_
                          have hs : S_X9_queue u g a b c d e = ((-2), g) := by unfold S_X9_queue; rw [if_neg c_1, if_neg c_2, if_neg c_40, if_neg c_79, if_pos c_80, if_neg c_81, if_neg c_88, if_neg c_95, if_neg c_102, if_pos c_109, if_neg c_110, if_neg c_111]
                          exact j_iret C hQ rfl dX9_queue_127 (dt_ifM hs)
                        · refine j_iload (i := 4) C dX9_queue_78 4 rfl ?_
                          refine j_iconst (x := 0) C dX9_queue_80 (by decide) ?_
                          refine j_sipush (x := 4092) C dX9_queue_81 (by decide) ?_
                          refine j_iconst (x := 2) C dX9_queue_84 (by decide) ?_
                          refine j_iload_n (i := 2) C dX9_queue_85 rfl 2 rfl ?_
                          refine j_imul C dX9_queue_86 ?_
                          refine j_isub C dX9_queue_87 ?_
                          refine c_S (As := [.int d, .int 0, .int (4092 - (2 * b))]) (rest := []) (st1 := [.int (S_X9_isIn u g d 0 (4092 - (2 * b)))]) C (c_X9_isIn ε ad v f u g d 0 (4092 - (2 * b))  ) mt_X9_isIn lm_X9_7 dX9_queue_88 rfl rfl (by decide) (Nat.le_of_ble_eq_true rfl) rfl ?_
                          refine j_if_eq (tgt := 125) C dX9_queue_91 (by decide) (fun c_112 => ?_) (fun c_112 => ?_)
                          · refine j_bipush (x := (-2)) C dX9_queue_125 (by decide) ?_
                            have hs : S_X9_queue u g a b c d e = ((-2), g) := by unfold S_X9_queue; rw [if_neg c_1, if_neg c_2, if_neg c_40, if_neg c_79, if_pos c_80, if_neg c_81, if_neg c_88, if_neg c_95, if_neg c_102, if_pos c_109, if_neg c_110, if_pos c_111, if_pos c_112]
                            exact j_iret C hQ rfl dX9_queue_127 (dt_ifM hs)
                          · refine j_iload (i := 4) C dX9_queue_94 4 rfl ?_
                            refine j_iconst (x := 2) C dX9_queue_96 (by decide) ?_
                            refine j_irem C dX9_queue_97 (by decide) ?_
                            refine j_if_ne (tgt := 125) C dX9_queue_98 (by decide) (fun c_113 => ?_) (fun c_113 => ?_)
                            · refine j_bipush (x := (-2)) C dX9_queue_125 (by decide) ?_
                              have hs : S_X9_queue u g a b c d e = ((-2), g) := by unfold S_X9_queue; rw [if_neg c_1, if_neg c_2, if_neg c_40, if_neg c_79, if_pos c_80, if_neg c_81, if_neg c_88, if_neg c_95, if_neg c_102, if_pos c_109, if_neg c_110, if_pos c_111, if_neg c_112, if_neg c_113]
                              exact j_iret C hQ rfl dX9_queue_127 (dt_ifM hs)
                            · refine j_iload (i := 5) C dX9_queue_101 5 rfl ?_
                              refine j_iconst (x := 0) C dX9_queue_103 (by decide) ?_
                              refine j_sipush (x := 4092) C dX9_queue_104 (by decide) ?_
                              refine j_bipush (x := 8) C dX9_queue_107 (by decide) ?_
                              refine j_iload_n (i := 2) C dX9_queue_109 rfl 2 rfl ?_
                              refine j_imul C dX9_queue_110 ?_
                              refine j_isub C dX9_queue_111 ?_
                              refine c_S (As := [.int e, .int 0, .int (4092 - (8 * b))]) (rest := []) (st1 := [.int (S_X9_isIn u g e 0 (4092 - (8 * b)))]) C (c_X9_isIn ε ad v f u g e 0 (4092 - (8 * b))  ) mt_X9_isIn lm_X9_7 dX9_queue_112 rfl rfl (by decide) (Nat.le_of_ble_eq_true rfl) rfl ?_
                              refine j_if_eq (tgt := 125) C dX9_queue_115 (by decide) (fun c_114 => ?_) (fun c_114 => ?_)
                              · refine j_bipush (x := (-2)) C dX9_queue_125 (by decide) ?_
                                have hs : S_X9_queue u g a b c d e = ((-2), g) := by unfold S_X9_queue; rw [if_neg c_1, if_neg c_2, if_neg c_40, if_neg c_79, if_pos c_80, if_neg c_81, if_neg c_88, if_neg c_95, if_neg c_102, if_pos c_109, if_neg c_110, if_pos c_111, if_neg c_112, if_pos c_113, if_pos c_114]
                                exact j_iret C hQ rfl dX9_queue_127 (dt_ifM hs)
                              · refine j_iload (i := 5) C dX9_queue_118 5 rfl ?_
                                refine j_iconst (x := 4) C dX9_queue_120 (by decide) ?_
                                refine j_irem C dX9_queue_121 (by decide) ?_
                                refine j_if_eq (tgt := 128) C dX9_queue_122 (by decide) (fun c_115 => ?_) (fun c_115 => ?_)
                                · refine j_aload_n (i := 0) C dX9_queue_128 rfl 0 rfl ?_
                                  refine g_22_sizes C dX9_queue_129 lf_X9_11 ?_
                                  refine j_iload_n (i := 1) C dX9_queue_132 rfl 1 rfl ?_
                                  refine j_iload_n (i := 2) C dX9_queue_133 rfl 2 rfl ?_
                                  refine asn_25 (q := 2) (F2 := (g 25)) (F := (upd (g 25) 2 b)) C dX9_queue_134 (by omega) rfl rfl rfl ?_
                                  refine j_aload_n (i := 0) C dX9_queue_135 rfl 0 rfl ?_
                                  refine g_22_descriptors C dX9_queue_136 lf_X9_49 ?_
                                  refine j_iload_n (i := 1) C dX9_queue_139 rfl 1 rfl ?_
                                  refine j_iload_n (i := 3) C dX9_queue_140 rfl 3 rfl ?_
                                  refine asn_26 (q := 2) (F2 := ((va_up g 25 (upd (g 25) 2 b)) 26)) (F := (upd ((va_up g 25 (upd (g 25) 2 b)) 26) 2 c)) C dX9_queue_141 (by omega) rfl rfl rfl ?_
                                  refine j_aload_n (i := 0) C dX9_queue_142 rfl 0 rfl ?_
                                  refine g_22_availables C dX9_queue_143 lf_X9_52 ?_
                                  refine j_iload_n (i := 1) C dX9_queue_146 rfl 1 rfl ?_
                                  refine j_iload (i := 4) C dX9_queue_147 4 rfl ?_
                                  refine asn_27 (q := 2) (F2 := ((va_up (va_up g 25 (upd (g 25) 2 b)) 26 (upd ((va_up g 25 (upd (g 25) 2 b)) 26) 2 c)) 27)) (F := (upd ((va_up (va_up g 25 (upd (g 25) 2 b)) 26 (upd ((va_up g 25 (upd (g 25) 2 b)) 26) 2 c)) 27) 2 d)) C dX9_queue_149 (by omega) rfl rfl rfl ?_
                                  refine j_aload_n (i := 0) C dX9_queue_150 rfl 0 rfl ?_
                                  refine g_22_useds C dX9_queue_151 lf_X9_55 ?_
                                  refine j_iload_n (i := 1) C dX9_queue_154 rfl 1 rfl ?_
                                  refine j_iload (i := 5) C dX9_queue_155 5 rfl ?_
                                  refine asn_28 (q := 2) (F2 := ((va_up (va_up (va_up g 25 (upd (g 25) 2 b)) 26 (upd ((va_up g 25 (upd (g 25) 2 b)) 26) 2 c)) 27 (upd ((va_up (va_up g 25 (upd (g 25) 2 b)) 26 (upd ((va_up g 25 (upd (g 25) 2 b)) 26) 2 c)) 27) 2 d)) 28)) (F := (upd ((va_up (va_up (va_up g 25 (upd (g 25) 2 b)) 26 (upd ((va_up g 25 (upd (g 25) 2 b)) 26) 2 c)) 27 (upd ((va_up (va_up g 25 (upd (g 25) 2 b)) 26 (upd ((va_up g 25 (upd (g 25) 2 b)) 26) 2 c)) 27) 2 d)) 28) 2 e)) C dX9_queue_157 (by omega) rfl rfl rfl ?_
                                  refine j_iconst (x := 0) C dX9_queue_158 (by decide) ?_
                                  have hs : S_X9_queue u g a b c d e = (0, (va_up (va_up (va_up (va_up g 25 (upd (g 25) 2 b)) 26 (upd ((va_up g 25 (upd (g 25) 2 b)) 26) 2 c)) 27 (upd ((va_up (va_up g 25 (upd (g 25) 2 b)) 26 (upd ((va_up g 25 (upd (g 25) 2 b)) 26) 2 c)) 27) 2 d)) 28 (upd ((va_up (va_up (va_up g 25 (upd (g 25) 2 b)) 26 (upd ((va_up g 25 (upd (g 25) 2 b)) 26) 2 c)) 27 (upd ((va_up (va_up g 25 (upd (g 25) 2 b)) 26 (upd ((va_up g 25 (upd (g 25) 2 b)) 26) 2 c)) 27) 2 d)) 28) 2 e))) := by unfold S_X9_queue; rw [if_neg c_1, if_neg c_2, if_neg c_40, if_neg c_79, if_pos c_80, if_neg c_81, if_neg c_88, if_neg c_95, if_neg c_102, if_pos c_109, if_neg c_110, if_pos c_111, if_neg c_112, if_pos c_113, if_neg c_114, if_pos c_115]
                                  exact j_iret C hQ rfl dX9_queue_159 (dt_ifM hs)
                                · refine j_bipush (x := (-2)) C dX9_queue_125 (by decide) ?_
                                  have hs : S_X9_queue u g a b c d e = ((-2), g) := by unfold S_X9_queue; rw [if_neg c_1, if_neg c_2, if_neg c_40, if_neg c_79, if_pos c_80, if_neg c_81, if_neg c_88, if_neg c_95, if_neg c_102, if_pos c_109, if_neg c_110, if_pos c_111, if_neg c_112, if_pos c_113, if_neg c_114, if_neg c_115]
                                  exact j_iret C hQ rfl dX9_queue_127 (dt_ifM hs)
                    · refine j_bipush (x := (-2)) C dX9_queue_52 (by decide) ?_
                      have hs : S_X9_queue u g a b c d e = ((-2), g) := by unfold S_X9_queue; rw [if_neg c_1, if_neg c_2, if_neg c_40, if_neg c_79, if_pos c_80, if_neg c_81, if_neg c_88, if_neg c_95, if_neg c_102, if_neg c_109]
                      exact j_iret C hQ rfl dX9_queue_54 (dt_ifM hs)

def S_X9_hasSomething (u : Nat → Int32) (g : Nat → Nat → Int32) (q : Nat) : Int32 × (Nat → Int32) :=
  if (u 0) = 1 then if ((g 25) q) = 0 then (0, u)
    else if (((((S_X9_number u g (((g 27) q) + 2) 2) : Int64).toInt32) - ((g 29) q)) &&& 65535) ≤ ((g 25) q) then if (((((S_X9_number u g (((g 27) q) + 2) 2) : Int64).toInt32) - ((g 29) q)) &&& 65535) ≤ 0 then (0, u)
        else (1, u)
      else (0, (upd u 0 2))
  else (0, u)
set_option maxHeartbeats 1000000 in
set_option maxRecDepth 100000 in
theorem c_X9_hasSomething (ε : ET) (ad : Nat → Nat) (v : Nat → Int32) (f : Nat → Nat → Int32) (u : Nat → Int32) (g : Nat → Nat → Int32) (q : Nat) (hq : q < 3) (hm : ¬ (g 25 q) = 0 → MA (g 27 q) 4) : CT ε yX9_hasSomething cX9_hasSomething 4 (some .boolean) 1 25 0 0 [.ref (ad 22), .int (nI q)] (WD ε ad v f u g) (DT (some (.int ((S_X9_hasSomething u g q).1))) (WD ε ad v f ((S_X9_hasSomething u g q).2) g)) := by
  refine CT.of (own := RX9) (by decide) rfl (Nat.le_of_ble_eq_true rfl) (fun κ C hQ => ?_)
  refine j_aload_n (i := 0) C dX9_hasSomething_0 rfl 0 rfl ?_
  refine g_22_state (x := (u 0)) C dX9_hasSomething_1 lf_X9_86 rfl ?_
  refine j_iconst (x := 1) C dX9_hasSomething_4 (by decide) ?_
  refine j_icmp_ne (tgt := 17) C dX9_hasSomething_5 (by decide) (fun c_1 => ?_) (fun c_1 => ?_)
  · refine j_iconst (x := 0) C dX9_hasSomething_17 (by decide) ?_
    have hs : S_X9_hasSomething u g q = (0, u) := by unfold S_X9_hasSomething; rw [if_neg c_1]
    exact j_zret C hQ rfl rfl dX9_hasSomething_18 (dt_ivM hs)
  · refine j_aload_n (i := 0) C dX9_hasSomething_8 rfl 0 rfl ?_
    refine g_22_sizes C dX9_hasSomething_9 lf_X9_11 ?_
    refine j_iload_n (i := 1) C dX9_hasSomething_12 rfl 1 rfl ?_
    refine aln_25 (q := q) (F := (g 25)) C dX9_hasSomething_13 (by omega) rfl rfl ?_
    refine j_if_ne (tgt := 19) C dX9_hasSomething_14 (by decide) (fun c_2 => ?_) (fun c_2 => ?_)
    · refine j_aload_n (i := 0) C dX9_hasSomething_19 rfl 0 rfl ?_
      refine j_aload_n (i := 0) C dX9_hasSomething_20 rfl 0 rfl ?_
      refine g_22_availables C dX9_hasSomething_21 lf_X9_52 ?_
      refine j_iload_n (i := 1) C dX9_hasSomething_24 rfl 1 rfl ?_
      refine aln_27 (q := q) (F := (g 27)) C dX9_hasSomething_25 (by omega) rfl rfl ?_
      refine j_iconst (x := 2) C dX9_hasSomething_26 (by decide) ?_
      refine j_iadd C dX9_hasSomething_27 ?_
      refine j_iconst (x := 2) C dX9_hasSomething_28 (by decide) ?_
      refine c_V (As := [.int (((g 27) q) + 2), .int 2]) (rest := []) (st1 := [.long (S_X9_number u g (((g 27) q) + 2) 2)]) C (c_X9_number ε ad v f u g (((g 27) q) + 2) 2  (by first | assumption | omega | decide) (MA.sub 2 (hm c_2) (by omega))) mv_X9_number lm_X9_90 dX9_hasSomething_29 22 wl_22 rfl rfl rfl (by decide) (Nat.le_of_ble_eq_true rfl) rfl ?_
      refine j_l2i C dX9_hasSomething_32 ?_
      refine j_istore_n (i := 2) (lv' := [(2, .int (((S_X9_number u g (((g 27) q) + 2) 2) : Int64).toInt32)), (0, .ref (ad 22)), (1, .int (nI q))]) C dX9_hasSomething_33 rfl (by decide) rfl ?_
      refine j_iload_n (i := 2) C dX9_hasSomething_34 rfl 0 rfl ?_
      refine j_aload_n (i := 0) C dX9_hasSomething_35 rfl 1 rfl ?_
      refine g_22_takens C dX9_hasSomething_36 lf_X9_15 ?_
      refine j_iload_n (i := 1) C dX9_hasSomething_39 rfl 2 rfl ?_
      refine aln_29 (q := q) (F := (g 29)) C dX9_hasSomething_40 (by omega) rfl rfl ?_
      refine j_isub C dX9_hasSomething_41 ?_
      refine j_ldc C dX9_hasSomething_42 li_X9_94 ?_
      refine j_iand C dX9_hasSomething_44 ?_
      refine j_istore_n (i := 3) (lv' := [(3, .int (((((S_X9_number u g (((g 27) q) + 2) 2) : Int64).toInt32) - ((g 29) q)) &&& 65535)), (2, .int (((S_X9_number u g (((g 27) q) + 2) 2) : Int64).toInt32)), (0, .ref (ad 22)), (1, .int (nI q))]) C dX9_hasSomething_45 rfl (by decide) rfl ?_
      refine j_iload_n (i := 3) C dX9_hasSomething_46 rfl 0 rfl ?_
      refine j_aload_n (i := 0) C dX9_hasSomething_47 rfl 2 rfl ?_
      refine g_22_sizes C dX9_hasSomething_48 lf_X9_11 ?_
      refine j_iload_n (i := 1) C dX9_hasSomething_51 rfl 3 rfl ?_
      refine aln_25 (q := q) (F := (g 25)) C dX9_hasSomething_52 (by omega) rfl rfl ?_
      refine j_icmp_le (tgt := 63) C dX9_hasSomething_53 (by decide) (fun c_3 => ?_) (fun c_3 => ?_)
      · refine j_iload_n (i := 3) C dX9_hasSomething_63 rfl 0 rfl ?_
        refine j_if_le (tgt := 71) C dX9_hasSomething_64 (by decide) (fun c_4 => ?_) (fun c_4 => ?_)
        · refine j_iconst (x := 0) C dX9_hasSomething_71 (by decide) ?_
          have hs : S_X9_hasSomething u g q = (0, u) := by unfold S_X9_hasSomething; rw [if_pos c_1, if_neg c_2, if_pos c_3, if_pos c_4]
          exact j_zret C hQ rfl rfl dX9_hasSomething_72 (dt_ivM hs)
        · refine j_iconst (x := 1) C dX9_hasSomething_67 (by decide) ?_
          refine j_goto (tgt := 72) C dX9_hasSomething_68 (by decide) ?_
          have hs : S_X9_hasSomething u g q = (1, u) := by unfold S_X9_hasSomething; rw [if_pos c_1, if_neg c_2, if_pos c_3, if_neg c_4]
          exact j_zret C hQ rfl rfl dX9_hasSomething_72 (dt_ivM hs)
      · refine j_aload_n (i := 0) C dX9_hasSomething_56 rfl 2 rfl ?_
        refine j_iconst (x := 2) C dX9_hasSomething_57 (by decide) ?_
        refine p_22_state C dX9_hasSomething_58 lf_X9_86 ?_
        refine j_iconst (x := 0) C dX9_hasSomething_61 (by decide) ?_
        have hs : S_X9_hasSomething u g q = (0, (upd u 0 2)) := by unfold S_X9_hasSomething; rw [if_pos c_1, if_neg c_2, if_neg c_3]
        exact j_zret C hQ rfl rfl dX9_hasSomething_62 (dt_ivM hs)
    · refine j_iconst (x := 0) C dX9_hasSomething_17 (by decide) ?_
      have hs : S_X9_hasSomething u g q = (0, u) := by unfold S_X9_hasSomething; rw [if_pos c_1, if_pos c_2]
      exact j_zret C hQ rfl rfl dX9_hasSomething_18 (dt_ivM hs)

def L_X9_freeOnes (u : Nat → Int32) (g : Nat → Nat → Int32) (q : Nat) : Nat → Int32
  | 0 => 0
  | i1 + 1 =>
    if ((g 38) ((8 * q) + i1)) = 0 then ((L_X9_freeOnes u g q i1) + 1)
    else (L_X9_freeOnes u g q i1)
def S_X9_freeOnes (u : Nat → Int32) (g : Nat → Nat → Int32) (q : Nat) : Int32 :=
  (L_X9_freeOnes u g q 8)
set_option maxHeartbeats 1000000 in
set_option maxRecDepth 100000 in
theorem c_X9_freeOnes (ε : ET) (ad : Nat → Nat) (v : Nat → Int32) (f : Nat → Nat → Int32) (u : Nat → Int32) (g : Nat → Nat → Int32) (q : Nat) (hq : q < 3) : CT ε yX9_freeOnes cX9_freeOnes 4 (some .int) 0 0 0 0 [.ref (ad 22), .int (nI q)] (WD ε ad v f u g) (DT (some (.int (S_X9_freeOnes u g q))) (WD ε ad v f u g)) := by
  refine CT.of (own := RX9) (by decide) rfl (Nat.le_of_ble_eq_true rfl) (fun κ C hQ => ?_)
  refine j_iconst (x := 0) C dX9_freeOnes_0 (by decide) ?_
  refine j_istore_n (i := 2) (lv' := [(2, .int 0), (0, .ref (ad 22)), (1, .int (nI q))]) C dX9_freeOnes_1 rfl (by decide) rfl ?_
  refine j_iconst (x := 0) C dX9_freeOnes_2 (by decide) ?_
  refine j_istore_n (i := 3) (lv' := [(3, .int 0), (2, .int 0), (0, .ref (ad 22)), (1, .int (nI q))]) C dX9_freeOnes_3 rfl (by decide) rfl ?_
  have hx1 : JW κ 0 0 (WD ε ad v f u g) 38 [(3, .int (nI 8)), (2, .int (L_X9_freeOnes u g q 8)), (0, .ref (ad 22)), (1, .int (nI q))] [] := by
    refine j_iload_n (i := 2) C dX9_freeOnes_38 rfl 1 rfl ?_
    have hs : S_X9_freeOnes u g q = (L_X9_freeOnes u g q 8) := by unfold S_X9_freeOnes; rfl
    exact j_iret C hQ rfl dX9_freeOnes_39 (dt_iM hs)
  have lp1 : ∀ d1 i1 : Nat, i1 + d1 = 8 → JW κ 0 0 (WD ε ad v f u g) 4 [(3, .int (nI i1)), (2, .int (L_X9_freeOnes u g q i1)), (0, .ref (ad 22)), (1, .int (nI q))] [] := by
    intro d1
    induction d1 with
    | zero =>
      intro i1 hi
      have e9 : i1 = 8 := by omega
      rw [e9]
      have lf1 : 8 ≤ (nI 8) := Int32.le_refl _
      refine j_iload_n (i := 3) C dX9_freeOnes_4 rfl 0 rfl ?_
      refine j_bipush (x := 8) C dX9_freeOnes_5 (by decide) ?_
      refine j_icmp_ge (tgt := 38) C dX9_freeOnes_7 (by decide) (fun _ => ?_) (fun c9 => absurd lf1 c9)
      exact hx1
    | succ d1 ih1 =>
      intro i1 hi
      have hlt1 : i1 < 8 := by omega
      have lf1 : ¬ 8 ≤ (nI i1) := nI_ge (b := 8) hlt1 (by decide)
      refine j_iload_n (i := 3) C dX9_freeOnes_4 rfl 0 rfl ?_
      refine j_bipush (x := 8) C dX9_freeOnes_5 (by decide) ?_
      refine j_icmp_ge (tgt := 38) C dX9_freeOnes_7 (by decide) (fun c9 => absurd c9 lf1) (fun _ => ?_)
      refine j_aload_n (i := 0) C dX9_freeOnes_10 rfl 2 rfl ?_
      refine g_22_lent C dX9_freeOnes_11 lf_X9_33 ?_
      refine j_bipush (x := 8) C dX9_freeOnes_14 (by decide) ?_
      refine j_iload_n (i := 1) C dX9_freeOnes_16 rfl 3 rfl ?_
      refine j_imulN (a := 8) (b := q) C dX9_freeOnes_17 rfl rfl ?_
      refine j_iload_n (i := 3) C dX9_freeOnes_18 rfl 0 rfl ?_
      refine j_iaddN (a := (8 * q)) (b := i1) C dX9_freeOnes_19 rfl rfl ?_
      refine aln_38 (q := ((8 * q) + i1)) (F := (g 38)) C dX9_freeOnes_20 (by omega) rfl rfl ?_
      refine j_if_eq (tgt := 28) C dX9_freeOnes_21 (by decide) (fun c_1 => ?_) (fun c_1 => ?_)
      · refine j_iload_n (i := 2) C dX9_freeOnes_28 rfl 1 rfl ?_
        refine j_iconst (x := 1) C dX9_freeOnes_29 (by decide) ?_
        refine j_iadd C dX9_freeOnes_30 ?_
        refine j_istore_n (i := 2) (lv' := [(2, .int ((L_X9_freeOnes u g q i1) + 1)), (3, .int (nI i1)), (0, .ref (ad 22)), (1, .int (nI q))]) C dX9_freeOnes_31 rfl (by decide) rfl ?_
        refine j_iinc (y := (nI (i1 + 1))) (lv' := [(3, .int (nI (i1 + 1))), (2, .int ((L_X9_freeOnes u g q i1) + 1)), (0, .ref (ad 22)), (1, .int (nI q))]) C dX9_freeOnes_32 1 rfl (nI_1 _) (by decide) rfl ?_
        refine j_goto (tgt := 4) C dX9_freeOnes_35 (by decide) ?_
        refine j_lv (lv' := [(3, .int (nI (i1 + 1))), (2, .int ((L_X9_freeOnes u g q i1) + 1)), (0, .ref (ad 22)), (1, .int (nI q))]) [0, 1, 2, 3] rfl ?_
        have e8 := ih1 (i1 + 1) (by omega)
        rw [show L_X9_freeOnes u g q (i1 + 1) = ((L_X9_freeOnes u g q i1) + 1) from by rw [L_X9_freeOnes, if_pos c_1]] at e8
        try dsimp only at e8
        exact e8
      · refine j_iload_n (i := 2) C dX9_freeOnes_24 rfl 1 rfl ?_
        refine j_goto (tgt := 31) C dX9_freeOnes_25 (by decide) ?_
        refine j_istore_n (i := 2) (lv' := [(2, .int (L_X9_freeOnes u g q i1)), (3, .int (nI i1)), (0, .ref (ad 22)), (1, .int (nI q))]) C dX9_freeOnes_31 rfl (by decide) rfl ?_
        refine j_iinc (y := (nI (i1 + 1))) (lv' := [(3, .int (nI (i1 + 1))), (2, .int (L_X9_freeOnes u g q i1)), (0, .ref (ad 22)), (1, .int (nI q))]) C dX9_freeOnes_32 1 rfl (nI_1 _) (by decide) rfl ?_
        refine j_goto (tgt := 4) C dX9_freeOnes_35 (by decide) ?_
        refine j_lv (lv' := [(3, .int (nI (i1 + 1))), (2, .int (L_X9_freeOnes u g q i1)), (0, .ref (ad 22)), (1, .int (nI q))]) [0, 1, 2, 3] rfl ?_
        have e8 := ih1 (i1 + 1) (by omega)
        rw [show L_X9_freeOnes u g q (i1 + 1) = (L_X9_freeOnes u g q i1) from by rw [L_X9_freeOnes, if_neg c_1]] at e8
        try dsimp only at e8
        exact e8
  have e7 := lp1 8 0 (by omega)
  rw [L_X9_freeOnes] at e7
  try dsimp only at e7
  exact e7

