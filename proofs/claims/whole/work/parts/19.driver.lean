def Q_X3_begin_1 (v : Nat → Int32) (f : Nat → Nat → Int32) (a : Int32) : (Nat → Int32) := ((S_X4_begin_16 (upd (upd v 40 1) 39 a) f).1)
def Q_X3_begin_2 (v : Nat → Int32) (f : Nat → Nat → Int32) (a : Int32) : (Nat → Nat → Int32) := ((S_X4_begin_16 (upd (upd v 40 1) 39 a) f).2)
def Q_X3_begin_3 (v : Nat → Int32) (f : Nat → Nat → Int32) (a : Int32) : (Nat → Int32) := ((S_X4_begin_18 (Q_X3_begin_1 v f a) (Q_X3_begin_2 v f a)).1)
def Q_X3_begin_4 (v : Nat → Int32) (f : Nat → Nat → Int32) (a : Int32) : (Nat → Nat → Int32) := ((S_X4_begin_18 (Q_X3_begin_1 v f a) (Q_X3_begin_2 v f a)).2)
def Q_X3_begin_5 (v : Nat → Int32) (f : Nat → Nat → Int32) (a : Int32) : (Nat → Int32) := ((S_X4_begin_20 (Q_X3_begin_3 v f a) (Q_X3_begin_4 v f a)).1)
def Q_X3_begin_6 (v : Nat → Int32) (f : Nat → Nat → Int32) (a : Int32) : (Nat → Nat → Int32) := ((S_X4_begin_20 (Q_X3_begin_3 v f a) (Q_X3_begin_4 v f a)).2)
def S_X3_begin (v : Nat → Int32) (f : Nat → Nat → Int32) (a : Int32) : (Nat → Int32) × (Nat → Nat → Int32) :=
  ((Q_X3_begin_5 v f a), (Q_X3_begin_6 v f a))
set_option maxHeartbeats 1000000 in
set_option maxRecDepth 100000 in
theorem c_X3_begin (ε : ET) (ad : Nat → Nat) (v : Nat → Int32) (f : Nat → Nat → Int32) (u : Nat → Int32) (g : Nat → Nat → Int32) (a : Int32) (hb : a = 0 ∨ a = 1) : CT ε yX3_begin cX3_begin 2 none 3 63 0 0 [.ref (ad 15), .int a] (WD ε ad v f u g) (DT none (WD ε ad ((S_X3_begin v f a).1) ((S_X3_begin v f a).2) u g)) := by
  refine CT.of (own := RX3) (by decide) rfl (Nat.le_of_ble_eq_true rfl) (fun κ C hQ => ?_)
  refine j_aload_n (i := 0) C dX3_begin_0 rfl 0 rfl ?_
  refine j_iconst (x := 1) C dX3_begin_1 (by decide) ?_
  refine p_15_started C dX3_begin_2 lf_X3_28 (Or.inr rfl) ?_
  refine j_aload_n (i := 0) C dX3_begin_5 rfl 0 rfl ?_
  refine j_iload_n (i := 1) C dX3_begin_6 rfl 1 rfl ?_
  refine p_15_tables C dX3_begin_7 lf_X3_32 hb ?_
  refine j_aload_n (i := 0) C dX3_begin_10 rfl 0 rfl ?_
  refine g_15_disks C dX3_begin_11 lf_X3_18 ?_
  refine c_V (As := []) (rest := []) (st1 := []) (ω1 := (WD ε ad (Q_X3_begin_1 v f a) (Q_X3_begin_2 v f a) u g)) C (c_X4_begin_16 ε ad (upd (upd v 40 1) 39 a) f u g   ) mv_X4_begin lm_X3_35 dX3_begin_14 16 wl_16 rfl rfl rfl (by decide) (Nat.le_of_ble_eq_true rfl) rfl ?_
  refine j_aload_n (i := 0) C dX3_begin_17 rfl 0 rfl ?_
  refine g_15_comes C dX3_begin_18 lf_X3_22 ?_
  refine c_V (As := []) (rest := []) (st1 := []) (ω1 := (WD ε ad (Q_X3_begin_3 v f a) (Q_X3_begin_4 v f a) u g)) C (c_X4_begin_18 ε ad (Q_X3_begin_1 v f a) (Q_X3_begin_2 v f a) u g   ) mv_X4_begin lm_X3_35 dX3_begin_21 18 wl_18 rfl rfl rfl (by decide) (Nat.le_of_ble_eq_true rfl) rfl ?_
  refine j_aload_n (i := 0) C dX3_begin_24 rfl 0 rfl ?_
  refine g_15_goes C dX3_begin_25 lf_X3_25 ?_
  refine c_V (As := []) (rest := []) (st1 := []) (ω1 := (WD ε ad (Q_X3_begin_5 v f a) (Q_X3_begin_6 v f a) u g)) C (c_X4_begin_20 ε ad (Q_X3_begin_3 v f a) (Q_X3_begin_4 v f a) u g   ) mv_X4_begin lm_X3_35 dX3_begin_28 20 wl_20 rfl rfl rfl (by decide) (Nat.le_of_ble_eq_true rfl) rfl ?_
  have hs : S_X3_begin v f a = ((Q_X3_begin_5 v f a), (Q_X3_begin_6 v f a)) := by unfold S_X3_begin; rfl
  exact j_vret C hQ rfl dX3_begin_31 (dt_nvf hs)

def Q_X3_stop_1 (v : Nat → Int32) (f : Nat → Nat → Int32) : (Nat → Int32) := ((S_X4_forget_18 ((S_X4_forget_16 (upd v 40 0) f).1) ((S_X4_forget_16 (upd v 40 0) f).2)).1)
def Q_X3_stop_2 (v : Nat → Int32) (f : Nat → Nat → Int32) : (Nat → Nat → Int32) := ((S_X4_forget_18 ((S_X4_forget_16 (upd v 40 0) f).1) ((S_X4_forget_16 (upd v 40 0) f).2)).2)
def Q_X3_stop_3 (v : Nat → Int32) (f : Nat → Nat → Int32) : (Nat → Int32) := ((S_X4_forget_20 (Q_X3_stop_1 v f) (Q_X3_stop_2 v f)).1)
def Q_X3_stop_4 (v : Nat → Int32) (f : Nat → Nat → Int32) : (Nat → Nat → Int32) := ((S_X4_forget_20 (Q_X3_stop_1 v f) (Q_X3_stop_2 v f)).2)
def S_X3_stop (v : Nat → Int32) (f : Nat → Nat → Int32)  : (Nat → Int32) × (Nat → Nat → Int32) :=
  ((Q_X3_stop_3 v f), (Q_X3_stop_4 v f))
set_option maxHeartbeats 1000000 in
set_option maxRecDepth 100000 in
theorem c_X3_stop (ε : ET) (ad : Nat → Nat) (v : Nat → Int32) (f : Nat → Nat → Int32) (u : Nat → Int32) (g : Nat → Nat → Int32)   : CT ε yX3_stop cX3_stop 1 none 2 43 0 0 [.ref (ad 15)] (WD ε ad v f u g) (DT none (WD ε ad ((S_X3_stop v f).1) ((S_X3_stop v f).2) u g)) := by
  refine CT.of (own := RX3) (by decide) rfl (Nat.le_of_ble_eq_true rfl) (fun κ C hQ => ?_)
  refine j_aload_n (i := 0) C dX3_stop_0 rfl 0 rfl ?_
  refine j_iconst (x := 0) C dX3_stop_1 (by decide) ?_
  refine p_15_started C dX3_stop_2 lf_X3_28 (Or.inl rfl) ?_
  refine j_aload_n (i := 0) C dX3_stop_5 rfl 0 rfl ?_
  refine g_15_disks C dX3_stop_6 lf_X3_18 ?_
  refine c_V (As := []) (rest := []) (st1 := []) C (c_X4_forget_16 ε ad (upd v 40 0) f u g   ) mv_X4_forget lm_X3_38 dX3_stop_9 16 wl_16 rfl rfl rfl (by decide) (Nat.le_of_ble_eq_true rfl) rfl ?_
  refine j_aload_n (i := 0) C dX3_stop_12 rfl 0 rfl ?_
  refine g_15_comes C dX3_stop_13 lf_X3_22 ?_
  refine c_V (As := []) (rest := []) (st1 := []) (ω1 := (WD ε ad (Q_X3_stop_1 v f) (Q_X3_stop_2 v f) u g)) C (c_X4_forget_18 ε ad ((S_X4_forget_16 (upd v 40 0) f).1) ((S_X4_forget_16 (upd v 40 0) f).2) u g   ) mv_X4_forget lm_X3_38 dX3_stop_16 18 wl_18 rfl rfl rfl (by decide) (Nat.le_of_ble_eq_true rfl) rfl ?_
  refine j_aload_n (i := 0) C dX3_stop_19 rfl 0 rfl ?_
  refine g_15_goes C dX3_stop_20 lf_X3_25 ?_
  refine c_V (As := []) (rest := []) (st1 := []) (ω1 := (WD ε ad (Q_X3_stop_3 v f) (Q_X3_stop_4 v f) u g)) C (c_X4_forget_20 ε ad (Q_X3_stop_1 v f) (Q_X3_stop_2 v f) u g   ) mv_X4_forget lm_X3_38 dX3_stop_23 20 wl_20 rfl rfl rfl (by decide) (Nat.le_of_ble_eq_true rfl) rfl ?_
  have hs : S_X3_stop v f = ((Q_X3_stop_3 v f), (Q_X3_stop_4 v f)) := by unfold S_X3_stop; rfl
  exact j_vret C hQ rfl dX3_stop_26 (dt_nvf hs)

set_option maxHeartbeats 1000000 in
set_option maxRecDepth 100000 in
theorem c_X3_loansOf_0 (ε : ET) (ad : Nat → Nat) (v : Nat → Int32) (f : Nat → Nat → Int32) (u : Nat → Int32) (g : Nat → Nat → Int32)   : CT ε yX3_loansOf cX3_loansOf 2 (some (.object "RingDevices$Loans")) 0 0 0 0 [.ref (ad 15), .int 0] (WD ε ad v f u g) (DT (some (.ref (ad 16))) (WD ε ad v f u g)) := by
  refine CT.of (own := RX3) (by decide) rfl (Nat.le_of_ble_eq_true rfl) (fun κ C hQ => ?_)
  refine j_iload_n (i := 1) C dX3_loansOf_0 rfl 1 rfl ?_
  refine j_if_ne (tgt := 11) C dX3_loansOf_1 (by decide) (fun c9 => absurd c9 (by decide)) (fun _ => ?_)
  refine j_aload_n (i := 0) C dX3_loansOf_4 rfl 0 rfl ?_
  refine g_15_disks C dX3_loansOf_5 lf_X3_18 ?_
  refine j_goto (tgt := 27) C dX3_loansOf_8 (by decide) ?_
  exact j_aret C hQ rfl dX3_loansOf_27 ⟨rfl, rfl⟩

set_option maxHeartbeats 1000000 in
set_option maxRecDepth 100000 in
theorem c_X3_loansOf_1 (ε : ET) (ad : Nat → Nat) (v : Nat → Int32) (f : Nat → Nat → Int32) (u : Nat → Int32) (g : Nat → Nat → Int32)   : CT ε yX3_loansOf cX3_loansOf 2 (some (.object "RingDevices$Loans")) 0 0 0 0 [.ref (ad 15), .int 1] (WD ε ad v f u g) (DT (some (.ref (ad 18))) (WD ε ad v f u g)) := by
  refine CT.of (own := RX3) (by decide) rfl (Nat.le_of_ble_eq_true rfl) (fun κ C hQ => ?_)
  refine j_iload_n (i := 1) C dX3_loansOf_0 rfl 1 rfl ?_
  refine j_if_ne (tgt := 11) C dX3_loansOf_1 (by decide) (fun _ => ?_) (fun c9 => absurd c9 (by decide))
  refine j_iload_n (i := 1) C dX3_loansOf_11 rfl 1 rfl ?_
  refine j_iconst (x := 1) C dX3_loansOf_12 (by decide) ?_
  refine j_icmp_ne (tgt := 23) C dX3_loansOf_13 (by decide) (fun c9 => absurd c9 (by decide)) (fun _ => ?_)
  refine j_aload_n (i := 0) C dX3_loansOf_16 rfl 0 rfl ?_
  refine g_15_comes C dX3_loansOf_17 lf_X3_22 ?_
  refine j_goto (tgt := 27) C dX3_loansOf_20 (by decide) ?_
  exact j_aret C hQ rfl dX3_loansOf_27 ⟨rfl, rfl⟩

set_option maxHeartbeats 1000000 in
set_option maxRecDepth 100000 in
theorem c_X3_loansOf_2 (ε : ET) (ad : Nat → Nat) (v : Nat → Int32) (f : Nat → Nat → Int32) (u : Nat → Int32) (g : Nat → Nat → Int32)   : CT ε yX3_loansOf cX3_loansOf 2 (some (.object "RingDevices$Loans")) 0 0 0 0 [.ref (ad 15), .int 2] (WD ε ad v f u g) (DT (some (.ref (ad 20))) (WD ε ad v f u g)) := by
  refine CT.of (own := RX3) (by decide) rfl (Nat.le_of_ble_eq_true rfl) (fun κ C hQ => ?_)
  refine j_iload_n (i := 1) C dX3_loansOf_0 rfl 1 rfl ?_
  refine j_if_ne (tgt := 11) C dX3_loansOf_1 (by decide) (fun _ => ?_) (fun c9 => absurd c9 (by decide))
  refine j_iload_n (i := 1) C dX3_loansOf_11 rfl 1 rfl ?_
  refine j_iconst (x := 1) C dX3_loansOf_12 (by decide) ?_
  refine j_icmp_ne (tgt := 23) C dX3_loansOf_13 (by decide) (fun _ => ?_) (fun c9 => absurd c9 (by decide))
  refine j_aload_n (i := 0) C dX3_loansOf_23 rfl 0 rfl ?_
  refine g_15_goes C dX3_loansOf_24 lf_X3_25 ?_
  exact j_aret C hQ rfl dX3_loansOf_27 ⟨rfl, rfl⟩

def S_X3_refusal_16 (v : Nat → Int32) (f : Nat → Nat → Int32) (a : Int32) : Int32 :=
  if (v 40) = 0 then (-4)
  else if a ≤ (S_X4_freeOnes_16 v f) then 0
    else (-1)
set_option maxHeartbeats 1000000 in
set_option maxRecDepth 100000 in
theorem c_X3_refusal_16 (ε : ET) (ad : Nat → Nat) (v : Nat → Int32) (f : Nat → Nat → Int32) (u : Nat → Int32) (g : Nat → Nat → Int32) (a : Int32)  : CT ε yX3_refusal cX3_refusal 3 (some .int) 2 40 0 0 [.ref (ad 15), .ref (ad 16), .int a] (WD ε ad v f u g) (DT (some (.int (S_X3_refusal_16 v f a))) (WD ε ad v f u g)) := by
  refine CT.of (own := RX3) (by decide) rfl (Nat.le_of_ble_eq_true rfl) (fun κ C hQ => ?_)
  refine j_aload_n (i := 0) C dX3_refusal_0 rfl 0 rfl ?_
  refine g_15_started (x := (v 40)) C dX3_refusal_1 lf_X3_28 rfl ?_
  refine j_if_ne (tgt := 10) C dX3_refusal_4 (by decide) (fun c_1 => ?_) (fun c_1 => ?_)
  · refine j_aload_n (i := 1) C dX3_refusal_10 rfl 1 rfl ?_
    refine c_V (As := []) (rest := []) (st1 := [.int (S_X4_freeOnes_16 v f)]) C (c_X4_freeOnes_16 ε ad v f u g   ) mv_X4_freeOnes lm_X3_41 dX3_refusal_11 16 wl_16 rfl rfl rfl (by decide) (Nat.le_of_ble_eq_true rfl) rfl ?_
    refine j_iload_n (i := 2) C dX3_refusal_14 rfl 2 rfl ?_
    refine j_icmp_ge (tgt := 22) C dX3_refusal_15 (by decide) (fun c_2 => ?_) (fun c_2 => ?_)
    · refine j_iconst (x := 0) C dX3_refusal_22 (by decide) ?_
      have hs : S_X3_refusal_16 v f a = 0 := by unfold S_X3_refusal_16; rw [if_neg c_1, if_pos c_2]
      exact j_iret C hQ rfl dX3_refusal_23 (dt_i hs)
    · refine j_iconst (x := (-1)) C dX3_refusal_18 (by decide) ?_
      refine j_goto (tgt := 23) C dX3_refusal_19 (by decide) ?_
      have hs : S_X3_refusal_16 v f a = (-1) := by unfold S_X3_refusal_16; rw [if_neg c_1, if_neg c_2]
      exact j_iret C hQ rfl dX3_refusal_23 (dt_i hs)
  · refine j_bipush (x := (-4)) C dX3_refusal_7 (by decide) ?_
    have hs : S_X3_refusal_16 v f a = (-4) := by unfold S_X3_refusal_16; rw [if_pos c_1]
    exact j_iret C hQ rfl dX3_refusal_9 (dt_i hs)

def S_X3_refusal_18 (v : Nat → Int32) (f : Nat → Nat → Int32) (a : Int32) : Int32 :=
  if (v 40) = 0 then (-4)
  else if a ≤ (S_X4_freeOnes_18 v f) then 0
    else (-1)
set_option maxHeartbeats 1000000 in
set_option maxRecDepth 100000 in
theorem c_X3_refusal_18 (ε : ET) (ad : Nat → Nat) (v : Nat → Int32) (f : Nat → Nat → Int32) (u : Nat → Int32) (g : Nat → Nat → Int32) (a : Int32)  : CT ε yX3_refusal cX3_refusal 3 (some .int) 2 40 0 0 [.ref (ad 15), .ref (ad 18), .int a] (WD ε ad v f u g) (DT (some (.int (S_X3_refusal_18 v f a))) (WD ε ad v f u g)) := by
  refine CT.of (own := RX3) (by decide) rfl (Nat.le_of_ble_eq_true rfl) (fun κ C hQ => ?_)
  refine j_aload_n (i := 0) C dX3_refusal_0 rfl 0 rfl ?_
  refine g_15_started (x := (v 40)) C dX3_refusal_1 lf_X3_28 rfl ?_
  refine j_if_ne (tgt := 10) C dX3_refusal_4 (by decide) (fun c_1 => ?_) (fun c_1 => ?_)
  · refine j_aload_n (i := 1) C dX3_refusal_10 rfl 1 rfl ?_
    refine c_V (As := []) (rest := []) (st1 := [.int (S_X4_freeOnes_18 v f)]) C (c_X4_freeOnes_18 ε ad v f u g   ) mv_X4_freeOnes lm_X3_41 dX3_refusal_11 18 wl_18 rfl rfl rfl (by decide) (Nat.le_of_ble_eq_true rfl) rfl ?_
    refine j_iload_n (i := 2) C dX3_refusal_14 rfl 2 rfl ?_
    refine j_icmp_ge (tgt := 22) C dX3_refusal_15 (by decide) (fun c_2 => ?_) (fun c_2 => ?_)
    · refine j_iconst (x := 0) C dX3_refusal_22 (by decide) ?_
      have hs : S_X3_refusal_18 v f a = 0 := by unfold S_X3_refusal_18; rw [if_neg c_1, if_pos c_2]
      exact j_iret C hQ rfl dX3_refusal_23 (dt_i hs)
    · refine j_iconst (x := (-1)) C dX3_refusal_18 (by decide) ?_
      refine j_goto (tgt := 23) C dX3_refusal_19 (by decide) ?_
      have hs : S_X3_refusal_18 v f a = (-1) := by unfold S_X3_refusal_18; rw [if_neg c_1, if_neg c_2]
      exact j_iret C hQ rfl dX3_refusal_23 (dt_i hs)
  · refine j_bipush (x := (-4)) C dX3_refusal_7 (by decide) ?_
    have hs : S_X3_refusal_18 v f a = (-4) := by unfold S_X3_refusal_18; rw [if_pos c_1]
    exact j_iret C hQ rfl dX3_refusal_9 (dt_i hs)

def S_X3_refusal_20 (v : Nat → Int32) (f : Nat → Nat → Int32) (a : Int32) : Int32 :=
  if (v 40) = 0 then (-4)
  else if a ≤ (S_X4_freeOnes_20 v f) then 0
    else (-1)
set_option maxHeartbeats 1000000 in
set_option maxRecDepth 100000 in
theorem c_X3_refusal_20 (ε : ET) (ad : Nat → Nat) (v : Nat → Int32) (f : Nat → Nat → Int32) (u : Nat → Int32) (g : Nat → Nat → Int32) (a : Int32)  : CT ε yX3_refusal cX3_refusal 3 (some .int) 2 40 0 0 [.ref (ad 15), .ref (ad 20), .int a] (WD ε ad v f u g) (DT (some (.int (S_X3_refusal_20 v f a))) (WD ε ad v f u g)) := by
  refine CT.of (own := RX3) (by decide) rfl (Nat.le_of_ble_eq_true rfl) (fun κ C hQ => ?_)
  refine j_aload_n (i := 0) C dX3_refusal_0 rfl 0 rfl ?_
  refine g_15_started (x := (v 40)) C dX3_refusal_1 lf_X3_28 rfl ?_
  refine j_if_ne (tgt := 10) C dX3_refusal_4 (by decide) (fun c_1 => ?_) (fun c_1 => ?_)
  · refine j_aload_n (i := 1) C dX3_refusal_10 rfl 1 rfl ?_
    refine c_V (As := []) (rest := []) (st1 := [.int (S_X4_freeOnes_20 v f)]) C (c_X4_freeOnes_20 ε ad v f u g   ) mv_X4_freeOnes lm_X3_41 dX3_refusal_11 20 wl_20 rfl rfl rfl (by decide) (Nat.le_of_ble_eq_true rfl) rfl ?_
    refine j_iload_n (i := 2) C dX3_refusal_14 rfl 2 rfl ?_
    refine j_icmp_ge (tgt := 22) C dX3_refusal_15 (by decide) (fun c_2 => ?_) (fun c_2 => ?_)
    · refine j_iconst (x := 0) C dX3_refusal_22 (by decide) ?_
      have hs : S_X3_refusal_20 v f a = 0 := by unfold S_X3_refusal_20; rw [if_neg c_1, if_pos c_2]
      exact j_iret C hQ rfl dX3_refusal_23 (dt_i hs)
    · refine j_iconst (x := (-1)) C dX3_refusal_18 (by decide) ?_
      refine j_goto (tgt := 23) C dX3_refusal_19 (by decide) ?_
      have hs : S_X3_refusal_20 v f a = (-1) := by unfold S_X3_refusal_20; rw [if_neg c_1, if_neg c_2]
      exact j_iret C hQ rfl dX3_refusal_23 (dt_i hs)
  · refine j_bipush (x := (-4)) C dX3_refusal_7 (by decide) ?_
    have hs : S_X3_refusal_20 v f a = (-4) := by unfold S_X3_refusal_20; rw [if_pos c_1]
    exact j_iret C hQ rfl dX3_refusal_9 (dt_i hs)

def S_X3_descriptorAt (v : Nat → Int32) (f : Nat → Nat → Int32) (a : Int32) (b : Int32) : Int32 :=
  ((S_X8_descriptorsOf v f a) + (16 * b))
set_option maxHeartbeats 1000000 in
set_option maxRecDepth 100000 in
theorem c_X3_descriptorAt (ε : ET) (ad : Nat → Nat) (v : Nat → Int32) (f : Nat → Nat → Int32) (u : Nat → Int32) (g : Nat → Nat → Int32) (a : Int32) (b : Int32)  : CT ε yX3_descriptorAt cX3_descriptorAt 3 (some .int) 1 20 0 0 [.ref (ad 15), .int a, .int b] (WD ε ad v f u g) (DT (some (.int (S_X3_descriptorAt v f a b))) (WD ε ad v f u g)) := by
  refine CT.of (own := RX3) (by decide) rfl (Nat.le_of_ble_eq_true rfl) (fun κ C hQ => ?_)
  refine j_iload_n (i := 1) C dX3_descriptorAt_0 rfl 1 rfl ?_
  refine c_SN (As := [.int a]) (rest := []) (st1 := [.int (S_X8_descriptorsOf v f a)]) C (c_X8_descriptorsOf ε ad v f u g a  ) mt_X8_descriptorsOf nw_X3_70 dX3_descriptorAt_1 rfl rfl (by decide) (Nat.le_of_ble_eq_true rfl) rfl ?_
  refine j_bipush (x := 16) C dX3_descriptorAt_4 (by decide) ?_
  refine j_iload_n (i := 2) C dX3_descriptorAt_6 rfl 2 rfl ?_
  refine j_imul C dX3_descriptorAt_7 ?_
  refine j_iadd C dX3_descriptorAt_8 ?_
  have hs : S_X3_descriptorAt v f a b = ((S_X8_descriptorsOf v f a) + (16 * b)) := by unfold S_X3_descriptorAt; rfl
  exact j_iret C hQ rfl dX3_descriptorAt_9 (dt_i hs)

def Q_X3_offer_0_1 (v : Nat → Int32) (f : Nat → Nat → Int32) (b : Int32) : (Nat → Nat → Int32) := (S_X5_setNumber v f (((S_X8_availableOf v f 0) + 4) + (2 * ((v 42) - (v 42) / 8 * 8))) ((b : Int32).toInt64) 2)
def Q_X3_offer_0_2 (v : Nat → Int32) (f : Nat → Nat → Int32) (b : Int32) : Int32 := (S_X8_oneMore v (Q_X3_offer_0_1 v f b) (v 42))
def Q_X3_offer_0_3 (v : Nat → Int32) (f : Nat → Nat → Int32) (b : Int32) : (Nat → Nat → Int32) := (S_X5_setNumber (upd v 42 (Q_X3_offer_0_2 v f b)) (Q_X3_offer_0_1 v f b) ((S_X8_availableOf v f 0) + 2) (((Q_X3_offer_0_2 v f b) : Int32).toInt64) 2)
def S_X3_offer_0 (v : Nat → Int32) (f : Nat → Nat → Int32) (b : Int32) : (Nat → Int32) × (Nat → Nat → Int32) :=
  ((upd v 42 (Q_X3_offer_0_2 v f b)), (Q_X3_offer_0_3 v f b))
set_option maxHeartbeats 1000000 in
set_option maxRecDepth 100000 in
theorem c_X3_offer_0 (ε : ET) (ad : Nat → Nat) (v : Nat → Int32) (f : Nat → Nat → Int32) (u : Nat → Int32) (g : Nat → Nat → Int32) (b : Int32)  : CT ε yX3_offer cX3_offer 6 none 2 47 0 0 [.ref (ad 15), .int 0, .int b] (WD ε ad v f u g) (DT none (WD ε ad ((S_X3_offer_0 v f b).1) ((S_X3_offer_0 v f b).2) u g)) := by
  refine CT.of (own := RX3) (by decide) rfl (Nat.le_of_ble_eq_true rfl) (fun κ C hQ => ?_)
  refine j_aload_n (i := 0) C dX3_offer_0 rfl 0 rfl ?_
  refine j_iload_n (i := 1) C dX3_offer_1 rfl 1 rfl ?_
  refine c_V (As := [.int 0]) (rest := []) (st1 := [.ref (ad 16)]) C (c_X3_loansOf_0 ε ad v f u g   ) mv_X3_loansOf lm_X3_95 dX3_offer_2 15 wl_15 rfl rfl rfl (by decide) (Nat.le_of_ble_eq_true rfl) rfl ?_
  refine j_astore_n (i := 3) (lv' := [(3, .ref (ad 16)), (0, .ref (ad 15)), (1, .int 0), (2, .int b)]) C dX3_offer_5 rfl (by decide) rfl ?_
  refine j_iload_n (i := 1) C dX3_offer_6 rfl 2 rfl ?_
  refine c_SN (As := [.int 0]) (rest := []) (st1 := [.int (S_X8_availableOf v f 0)]) C (c_X8_availableOf ε ad v f u g 0  ) mt_X8_availableOf nw_X3_99 dX3_offer_7 rfl rfl (by decide) (Nat.le_of_ble_eq_true rfl) rfl ?_
  refine j_istore (i := 4) (lv' := [(4, .int (S_X8_availableOf v f 0)), (3, .ref (ad 16)), (0, .ref (ad 15)), (1, .int 0), (2, .int b)]) C dX3_offer_10 (by decide) rfl ?_
  refine j_iload (i := 4) C dX3_offer_12 0 rfl ?_
  refine j_iconst (x := 4) C dX3_offer_14 (by decide) ?_
  refine j_iadd C dX3_offer_15 ?_
  refine j_iconst (x := 2) C dX3_offer_16 (by decide) ?_
  refine j_aload_n (i := 3) C dX3_offer_17 rfl 1 rfl ?_
  refine g_16_asked (x := (v 42)) C dX3_offer_18 lf_X3_102 rfl ?_
  refine j_bipush (x := 8) C dX3_offer_21 (by decide) ?_
  refine j_irem C dX3_offer_23 (by decide) ?_
  refine j_imul C dX3_offer_24 ?_
  refine j_iadd C dX3_offer_25 ?_
  refine j_istore (i := 5) (lv' := [(5, .int (((S_X8_availableOf v f 0) + 4) + (2 * ((v 42) - (v 42) / 8 * 8)))), (4, .int (S_X8_availableOf v f 0)), (3, .ref (ad 16)), (0, .ref (ad 15)), (1, .int 0), (2, .int b)]) C dX3_offer_26 (by decide) rfl ?_
  refine j_aload_n (i := 0) C dX3_offer_28 rfl 3 rfl ?_
  refine g_15_memory C dX3_offer_29 lf_X3_9 ?_
  refine j_iload (i := 5) C dX3_offer_32 0 rfl ?_
  refine j_iconst (x := 2) C dX3_offer_34 (by decide) ?_
  refine j_iload_n (i := 2) C dX3_offer_35 rfl 5 rfl ?_
  refine j_i2l C dX3_offer_36 ?_
  refine c_V (As := [.int (((S_X8_availableOf v f 0) + 4) + (2 * ((v 42) - (v 42) / 8 * 8))), .int 2, .long ((b : Int32).toInt64)]) (rest := []) (st1 := []) (ω1 := (WD ε ad v (Q_X3_offer_0_1 v f b) u g)) C (c_X5_setNumber ε ad v f u g (((S_X8_availableOf v f 0) + 4) + (2 * ((v 42) - (v 42) / 8 * 8))) ((b : Int32).toInt64) 2  (by first | assumption | omega | decide)) mv_X5_setNumber lm_X3_81 dX3_offer_37 1 wl_1 rfl rfl rfl (by decide) (Nat.le_of_ble_eq_true rfl) rfl ?_
  refine j_aload_n (i := 3) C dX3_offer_40 rfl 2 rfl ?_
  refine j_aload_n (i := 3) C dX3_offer_41 rfl 2 rfl ?_
  refine g_16_asked (x := (v 42)) C dX3_offer_42 lf_X3_102 rfl ?_
  refine c_SN (As := [.int (v 42)]) (rest := [.ref (ad 16)]) (st1 := [.int (Q_X3_offer_0_2 v f b), .ref (ad 16)]) C (c_X8_oneMore ε ad v (Q_X3_offer_0_1 v f b) u g (v 42)  ) mt_X8_oneMore nw_X3_106 dX3_offer_45 rfl rfl (by decide) (Nat.le_of_ble_eq_true rfl) rfl ?_
  refine p_16_asked C dX3_offer_48 lf_X3_102 ?_
  refine j_aload_n (i := 0) C dX3_offer_51 rfl 3 rfl ?_
  refine g_15_memory C dX3_offer_52 lf_X3_9 ?_
  refine j_iload (i := 4) C dX3_offer_55 1 rfl ?_
  refine j_iconst (x := 2) C dX3_offer_57 (by decide) ?_
  refine j_iadd C dX3_offer_58 ?_
  refine j_iconst (x := 2) C dX3_offer_59 (by decide) ?_
  refine j_aload_n (i := 3) C dX3_offer_60 rfl 2 rfl ?_
  refine g_16_asked (x := (Q_X3_offer_0_2 v f b)) C dX3_offer_61 lf_X3_102 rfl ?_
  refine j_i2l C dX3_offer_64 ?_
  refine c_V (As := [.int ((S_X8_availableOf v f 0) + 2), .int 2, .long (((Q_X3_offer_0_2 v f b) : Int32).toInt64)]) (rest := []) (st1 := []) (ω1 := (WD ε ad (upd v 42 (Q_X3_offer_0_2 v f b)) (Q_X3_offer_0_3 v f b) u g)) C (c_X5_setNumber ε ad (upd v 42 (Q_X3_offer_0_2 v f b)) (Q_X3_offer_0_1 v f b) u g ((S_X8_availableOf v f 0) + 2) (((Q_X3_offer_0_2 v f b) : Int32).toInt64) 2  (by first | assumption | omega | decide)) mv_X5_setNumber lm_X3_81 dX3_offer_65 1 wl_1 rfl rfl rfl (by decide) (Nat.le_of_ble_eq_true rfl) rfl ?_
  have hs : S_X3_offer_0 v f b = ((upd v 42 (Q_X3_offer_0_2 v f b)), (Q_X3_offer_0_3 v f b)) := by unfold S_X3_offer_0; rfl
  exact j_vret C hQ rfl dX3_offer_68 (dt_nvf hs)

def Q_X3_offer_1_1 (v : Nat → Int32) (f : Nat → Nat → Int32) (b : Int32) : (Nat → Nat → Int32) := (S_X5_setNumber v f (((S_X8_availableOf v f 1) + 4) + (2 * ((v 46) - (v 46) / 8 * 8))) ((b : Int32).toInt64) 2)
def Q_X3_offer_1_2 (v : Nat → Int32) (f : Nat → Nat → Int32) (b : Int32) : Int32 := (S_X8_oneMore v (Q_X3_offer_1_1 v f b) (v 46))
def Q_X3_offer_1_3 (v : Nat → Int32) (f : Nat → Nat → Int32) (b : Int32) : (Nat → Nat → Int32) := (S_X5_setNumber (upd v 46 (Q_X3_offer_1_2 v f b)) (Q_X3_offer_1_1 v f b) ((S_X8_availableOf v f 1) + 2) (((Q_X3_offer_1_2 v f b) : Int32).toInt64) 2)
def S_X3_offer_1 (v : Nat → Int32) (f : Nat → Nat → Int32) (b : Int32) : (Nat → Int32) × (Nat → Nat → Int32) :=
  ((upd v 46 (Q_X3_offer_1_2 v f b)), (Q_X3_offer_1_3 v f b))
set_option maxHeartbeats 1000000 in
set_option maxRecDepth 100000 in
theorem c_X3_offer_1 (ε : ET) (ad : Nat → Nat) (v : Nat → Int32) (f : Nat → Nat → Int32) (u : Nat → Int32) (g : Nat → Nat → Int32) (b : Int32)  : CT ε yX3_offer cX3_offer 6 none 2 47 0 0 [.ref (ad 15), .int 1, .int b] (WD ε ad v f u g) (DT none (WD ε ad ((S_X3_offer_1 v f b).1) ((S_X3_offer_1 v f b).2) u g)) := by
  refine CT.of (own := RX3) (by decide) rfl (Nat.le_of_ble_eq_true rfl) (fun κ C hQ => ?_)
  refine j_aload_n (i := 0) C dX3_offer_0 rfl 0 rfl ?_
  refine j_iload_n (i := 1) C dX3_offer_1 rfl 1 rfl ?_
  refine c_V (As := [.int 1]) (rest := []) (st1 := [.ref (ad 18)]) C (c_X3_loansOf_1 ε ad v f u g   ) mv_X3_loansOf lm_X3_95 dX3_offer_2 15 wl_15 rfl rfl rfl (by decide) (Nat.le_of_ble_eq_true rfl) rfl ?_
  refine j_astore_n (i := 3) (lv' := [(3, .ref (ad 18)), (0, .ref (ad 15)), (1, .int 1), (2, .int b)]) C dX3_offer_5 rfl (by decide) rfl ?_
  refine j_iload_n (i := 1) C dX3_offer_6 rfl 2 rfl ?_
  refine c_SN (As := [.int 1]) (rest := []) (st1 := [.int (S_X8_availableOf v f 1)]) C (c_X8_availableOf ε ad v f u g 1  ) mt_X8_availableOf nw_X3_99 dX3_offer_7 rfl rfl (by decide) (Nat.le_of_ble_eq_true rfl) rfl ?_
  refine j_istore (i := 4) (lv' := [(4, .int (S_X8_availableOf v f 1)), (3, .ref (ad 18)), (0, .ref (ad 15)), (1, .int 1), (2, .int b)]) C dX3_offer_10 (by decide) rfl ?_
  refine j_iload (i := 4) C dX3_offer_12 0 rfl ?_
  refine j_iconst (x := 4) C dX3_offer_14 (by decide) ?_
  refine j_iadd C dX3_offer_15 ?_
  refine j_iconst (x := 2) C dX3_offer_16 (by decide) ?_
  refine j_aload_n (i := 3) C dX3_offer_17 rfl 1 rfl ?_
  refine g_18_asked (x := (v 46)) C dX3_offer_18 lf_X3_102 rfl ?_
  refine j_bipush (x := 8) C dX3_offer_21 (by decide) ?_
  refine j_irem C dX3_offer_23 (by decide) ?_
  refine j_imul C dX3_offer_24 ?_
  refine j_iadd C dX3_offer_25 ?_
  refine j_istore (i := 5) (lv' := [(5, .int (((S_X8_availableOf v f 1) + 4) + (2 * ((v 46) - (v 46) / 8 * 8)))), (4, .int (S_X8_availableOf v f 1)), (3, .ref (ad 18)), (0, .ref (ad 15)), (1, .int 1), (2, .int b)]) C dX3_offer_26 (by decide) rfl ?_
  refine j_aload_n (i := 0) C dX3_offer_28 rfl 3 rfl ?_
  refine g_15_memory C dX3_offer_29 lf_X3_9 ?_
  refine j_iload (i := 5) C dX3_offer_32 0 rfl ?_
  refine j_iconst (x := 2) C dX3_offer_34 (by decide) ?_
  refine j_iload_n (i := 2) C dX3_offer_35 rfl 5 rfl ?_
  refine j_i2l C dX3_offer_36 ?_
  refine c_V (As := [.int (((S_X8_availableOf v f 1) + 4) + (2 * ((v 46) - (v 46) / 8 * 8))), .int 2, .long ((b : Int32).toInt64)]) (rest := []) (st1 := []) (ω1 := (WD ε ad v (Q_X3_offer_1_1 v f b) u g)) C (c_X5_setNumber ε ad v f u g (((S_X8_availableOf v f 1) + 4) + (2 * ((v 46) - (v 46) / 8 * 8))) ((b : Int32).toInt64) 2  (by first | assumption | omega | decide)) mv_X5_setNumber lm_X3_81 dX3_offer_37 1 wl_1 rfl rfl rfl (by decide) (Nat.le_of_ble_eq_true rfl) rfl ?_
  refine j_aload_n (i := 3) C dX3_offer_40 rfl 2 rfl ?_
  refine j_aload_n (i := 3) C dX3_offer_41 rfl 2 rfl ?_
  refine g_18_asked (x := (v 46)) C dX3_offer_42 lf_X3_102 rfl ?_
  refine c_SN (As := [.int (v 46)]) (rest := [.ref (ad 18)]) (st1 := [.int (Q_X3_offer_1_2 v f b), .ref (ad 18)]) C (c_X8_oneMore ε ad v (Q_X3_offer_1_1 v f b) u g (v 46)  ) mt_X8_oneMore nw_X3_106 dX3_offer_45 rfl rfl (by decide) (Nat.le_of_ble_eq_true rfl) rfl ?_
  refine p_18_asked C dX3_offer_48 lf_X3_102 ?_
  refine j_aload_n (i := 0) C dX3_offer_51 rfl 3 rfl ?_
  refine g_15_memory C dX3_offer_52 lf_X3_9 ?_
  refine j_iload (i := 4) C dX3_offer_55 1 rfl ?_
  refine j_iconst (x := 2) C dX3_offer_57 (by decide) ?_
  refine j_iadd C dX3_offer_58 ?_
  refine j_iconst (x := 2) C dX3_offer_59 (by decide) ?_
  refine j_aload_n (i := 3) C dX3_offer_60 rfl 2 rfl ?_
  refine g_18_asked (x := (Q_X3_offer_1_2 v f b)) C dX3_offer_61 lf_X3_102 rfl ?_
  refine j_i2l C dX3_offer_64 ?_
  refine c_V (As := [.int ((S_X8_availableOf v f 1) + 2), .int 2, .long (((Q_X3_offer_1_2 v f b) : Int32).toInt64)]) (rest := []) (st1 := []) (ω1 := (WD ε ad (upd v 46 (Q_X3_offer_1_2 v f b)) (Q_X3_offer_1_3 v f b) u g)) C (c_X5_setNumber ε ad (upd v 46 (Q_X3_offer_1_2 v f b)) (Q_X3_offer_1_1 v f b) u g ((S_X8_availableOf v f 1) + 2) (((Q_X3_offer_1_2 v f b) : Int32).toInt64) 2  (by first | assumption | omega | decide)) mv_X5_setNumber lm_X3_81 dX3_offer_65 1 wl_1 rfl rfl rfl (by decide) (Nat.le_of_ble_eq_true rfl) rfl ?_
  have hs : S_X3_offer_1 v f b = ((upd v 46 (Q_X3_offer_1_2 v f b)), (Q_X3_offer_1_3 v f b)) := by unfold S_X3_offer_1; rfl
  exact j_vret C hQ rfl dX3_offer_68 (dt_nvf hs)

def Q_X3_offer_2_1 (v : Nat → Int32) (f : Nat → Nat → Int32) (b : Int32) : (Nat → Nat → Int32) := (S_X5_setNumber v f (((S_X8_availableOf v f 2) + 4) + (2 * ((v 50) - (v 50) / 8 * 8))) ((b : Int32).toInt64) 2)
def Q_X3_offer_2_2 (v : Nat → Int32) (f : Nat → Nat → Int32) (b : Int32) : Int32 := (S_X8_oneMore v (Q_X3_offer_2_1 v f b) (v 50))
def Q_X3_offer_2_3 (v : Nat → Int32) (f : Nat → Nat → Int32) (b : Int32) : (Nat → Nat → Int32) := (S_X5_setNumber (upd v 50 (Q_X3_offer_2_2 v f b)) (Q_X3_offer_2_1 v f b) ((S_X8_availableOf v f 2) + 2) (((Q_X3_offer_2_2 v f b) : Int32).toInt64) 2)
def S_X3_offer_2 (v : Nat → Int32) (f : Nat → Nat → Int32) (b : Int32) : (Nat → Int32) × (Nat → Nat → Int32) :=
  ((upd v 50 (Q_X3_offer_2_2 v f b)), (Q_X3_offer_2_3 v f b))
set_option maxHeartbeats 1000000 in
set_option maxRecDepth 100000 in
theorem c_X3_offer_2 (ε : ET) (ad : Nat → Nat) (v : Nat → Int32) (f : Nat → Nat → Int32) (u : Nat → Int32) (g : Nat → Nat → Int32) (b : Int32)  : CT ε yX3_offer cX3_offer 6 none 2 47 0 0 [.ref (ad 15), .int 2, .int b] (WD ε ad v f u g) (DT none (WD ε ad ((S_X3_offer_2 v f b).1) ((S_X3_offer_2 v f b).2) u g)) := by
  refine CT.of (own := RX3) (by decide) rfl (Nat.le_of_ble_eq_true rfl) (fun κ C hQ => ?_)
  refine j_aload_n (i := 0) C dX3_offer_0 rfl 0 rfl ?_
  refine j_iload_n (i := 1) C dX3_offer_1 rfl 1 rfl ?_
  refine c_V (As := [.int 2]) (rest := []) (st1 := [.ref (ad 20)]) C (c_X3_loansOf_2 ε ad v f u g   ) mv_X3_loansOf lm_X3_95 dX3_offer_2 15 wl_15 rfl rfl rfl (by decide) (Nat.le_of_ble_eq_true rfl) rfl ?_
  refine j_astore_n (i := 3) (lv' := [(3, .ref (ad 20)), (0, .ref (ad 15)), (1, .int 2), (2, .int b)]) C dX3_offer_5 rfl (by decide) rfl ?_
  refine j_iload_n (i := 1) C dX3_offer_6 rfl 2 rfl ?_
  refine c_SN (As := [.int 2]) (rest := []) (st1 := [.int (S_X8_availableOf v f 2)]) C (c_X8_availableOf ε ad v f u g 2  ) mt_X8_availableOf nw_X3_99 dX3_offer_7 rfl rfl (by decide) (Nat.le_of_ble_eq_true rfl) rfl ?_
  refine j_istore (i := 4) (lv' := [(4, .int (S_X8_availableOf v f 2)), (3, .ref (ad 20)), (0, .ref (ad 15)), (1, .int 2), (2, .int b)]) C dX3_offer_10 (by decide) rfl ?_
  refine j_iload (i := 4) C dX3_offer_12 0 rfl ?_
  refine j_iconst (x := 4) C dX3_offer_14 (by decide) ?_
  refine j_iadd C dX3_offer_15 ?_
  refine j_iconst (x := 2) C dX3_offer_16 (by decide) ?_
  refine j_aload_n (i := 3) C dX3_offer_17 rfl 1 rfl ?_
  refine g_20_asked (x := (v 50)) C dX3_offer_18 lf_X3_102 rfl ?_
  refine j_bipush (x := 8) C dX3_offer_21 (by decide) ?_
  refine j_irem C dX3_offer_23 (by decide) ?_
  refine j_imul C dX3_offer_24 ?_
  refine j_iadd C dX3_offer_25 ?_
  refine j_istore (i := 5) (lv' := [(5, .int (((S_X8_availableOf v f 2) + 4) + (2 * ((v 50) - (v 50) / 8 * 8)))), (4, .int (S_X8_availableOf v f 2)), (3, .ref (ad 20)), (0, .ref (ad 15)), (1, .int 2), (2, .int b)]) C dX3_offer_26 (by decide) rfl ?_
  refine j_aload_n (i := 0) C dX3_offer_28 rfl 3 rfl ?_
  refine g_15_memory C dX3_offer_29 lf_X3_9 ?_
  refine j_iload (i := 5) C dX3_offer_32 0 rfl ?_
  refine j_iconst (x := 2) C dX3_offer_34 (by decide) ?_
  refine j_iload_n (i := 2) C dX3_offer_35 rfl 5 rfl ?_
  refine j_i2l C dX3_offer_36 ?_
  refine c_V (As := [.int (((S_X8_availableOf v f 2) + 4) + (2 * ((v 50) - (v 50) / 8 * 8))), .int 2, .long ((b : Int32).toInt64)]) (rest := []) (st1 := []) (ω1 := (WD ε ad v (Q_X3_offer_2_1 v f b) u g)) C (c_X5_setNumber ε ad v f u g (((S_X8_availableOf v f 2) + 4) + (2 * ((v 50) - (v 50) / 8 * 8))) ((b : Int32).toInt64) 2  (by first | assumption | omega | decide)) mv_X5_setNumber lm_X3_81 dX3_offer_37 1 wl_1 rfl rfl rfl (by decide) (Nat.le_of_ble_eq_true rfl) rfl ?_
  refine j_aload_n (i := 3) C dX3_offer_40 rfl 2 rfl ?_
  refine j_aload_n (i := 3) C dX3_offer_41 rfl 2 rfl ?_
  refine g_20_asked (x := (v 50)) C dX3_offer_42 lf_X3_102 rfl ?_
  refine c_SN (As := [.int (v 50)]) (rest := [.ref (ad 20)]) (st1 := [.int (Q_X3_offer_2_2 v f b), .ref (ad 20)]) C (c_X8_oneMore ε ad v (Q_X3_offer_2_1 v f b) u g (v 50)  ) mt_X8_oneMore nw_X3_106 dX3_offer_45 rfl rfl (by decide) (Nat.le_of_ble_eq_true rfl) rfl ?_
  refine p_20_asked C dX3_offer_48 lf_X3_102 ?_
  refine j_aload_n (i := 0) C dX3_offer_51 rfl 3 rfl ?_
  refine g_15_memory C dX3_offer_52 lf_X3_9 ?_
  refine j_iload (i := 4) C dX3_offer_55 1 rfl ?_
  refine j_iconst (x := 2) C dX3_offer_57 (by decide) ?_
  refine j_iadd C dX3_offer_58 ?_
  refine j_iconst (x := 2) C dX3_offer_59 (by decide) ?_
  refine j_aload_n (i := 3) C dX3_offer_60 rfl 2 rfl ?_
  refine g_20_asked (x := (Q_X3_offer_2_2 v f b)) C dX3_offer_61 lf_X3_102 rfl ?_
  refine j_i2l C dX3_offer_64 ?_
  refine c_V (As := [.int ((S_X8_availableOf v f 2) + 2), .int 2, .long (((Q_X3_offer_2_2 v f b) : Int32).toInt64)]) (rest := []) (st1 := []) (ω1 := (WD ε ad (upd v 50 (Q_X3_offer_2_2 v f b)) (Q_X3_offer_2_3 v f b) u g)) C (c_X5_setNumber ε ad (upd v 50 (Q_X3_offer_2_2 v f b)) (Q_X3_offer_2_1 v f b) u g ((S_X8_availableOf v f 2) + 2) (((Q_X3_offer_2_2 v f b) : Int32).toInt64) 2  (by first | assumption | omega | decide)) mv_X5_setNumber lm_X3_81 dX3_offer_65 1 wl_1 rfl rfl rfl (by decide) (Nat.le_of_ble_eq_true rfl) rfl ?_
  have hs : S_X3_offer_2 v f b = ((upd v 50 (Q_X3_offer_2_2 v f b)), (Q_X3_offer_2_3 v f b)) := by unfold S_X3_offer_2; rfl
  exact j_vret C hQ rfl dX3_offer_68 (dt_nvf hs)

def L_X3_fillPattern (v : Nat → Int32) (f : Nat → Nat → Int32) (a : Int32) (b : Int32) (c : Int64) : Nat → (Nat → Nat → Int32)
  | 0 => f
  | i1 + 1 =>
    (S_X5_set v (L_X3_fillPattern v f a b c i1) (a + (nI i1)) (S_X8_patternByte v (L_X3_fillPattern v f a b c i1) c (nI i1)))
def S_X3_fillPattern (v : Nat → Int32) (f : Nat → Nat → Int32) (a : Int32) (b : Int32) (c : Int64) : (Nat → Nat → Int32) :=
  (L_X3_fillPattern v f a b c b.toNatClampNeg)
set_option maxHeartbeats 1000000 in
set_option maxRecDepth 100000 in
theorem c_X3_fillPattern (ε : ET) (ad : Nat → Nat) (v : Nat → Int32) (f : Nat → Nat → Int32) (u : Nat → Int32) (g : Nat → Nat → Int32) (a : Int32) (b : Int32) (c : Int64)  : CT ε yX3_fillPattern cX3_fillPattern 6 none 1 22 0 0 [.ref (ad 15), .int a, .int b, .long c] (WD ε ad v f u g) (DT none (WD ε ad v (S_X3_fillPattern v f a b c) u g)) := by
  refine CT.of (own := RX3) (by decide) rfl (Nat.le_of_ble_eq_true rfl) (fun κ C hQ => ?_)
  refine j_iconst (x := 0) C dX3_fillPattern_0 (by decide) ?_
  refine j_istore (i := 5) (lv' := [(5, .int 0), (0, .ref (ad 15)), (1, .int a), (2, .int b), (3, .long c)]) C dX3_fillPattern_1 (by decide) rfl ?_
  have hx1 : JW κ 0 0 (WD ε ad v (L_X3_fillPattern v f a b c b.toNatClampNeg) u g) 32 [(5, .int (nI b.toNatClampNeg)), (0, .ref (ad 15)), (1, .int a), (2, .int b), (3, .long c)] [] := by
    have hs : S_X3_fillPattern v f a b c = (L_X3_fillPattern v f a b c b.toNatClampNeg) := by unfold S_X3_fillPattern; rfl
    exact j_vret C hQ rfl dX3_fillPattern_32 (dt_nf hs)
  have lp1 : ∀ d1 i1 : Nat, i1 + d1 = b.toNatClampNeg → JW κ 0 0 (WD ε ad v (L_X3_fillPattern v f a b c i1) u g) 3 [(5, .int (nI i1)), (0, .ref (ad 15)), (1, .int a), (2, .int b), (3, .long c)] [] := by
    intro d1
    induction d1 with
    | zero =>
      intro i1 hi
      have e9 : i1 = b.toNatClampNeg := by omega
      rw [e9]
      have lf1 : b ≤ (nI b.toNatClampNeg) := lp_ge _
      refine j_iload (i := 5) C dX3_fillPattern_3 0 rfl ?_
      refine j_iload_n (i := 2) C dX3_fillPattern_5 rfl 3 rfl ?_
      refine j_icmp_ge (tgt := 32) C dX3_fillPattern_6 (by decide) (fun _ => ?_) (fun c9 => absurd lf1 c9)
      exact hx1
    | succ d1 ih1 =>
      intro i1 hi
      have hlt1 : i1 < b.toNatClampNeg := by omega
      have lf1 : ¬ b ≤ (nI i1) := lp_lt hlt1
      refine j_iload (i := 5) C dX3_fillPattern_3 0 rfl ?_
      refine j_iload_n (i := 2) C dX3_fillPattern_5 rfl 3 rfl ?_
      refine j_icmp_ge (tgt := 32) C dX3_fillPattern_6 (by decide) (fun c9 => absurd c9 lf1) (fun _ => ?_)
      refine j_aload_n (i := 0) C dX3_fillPattern_9 rfl 1 rfl ?_
      refine g_15_memory C dX3_fillPattern_10 lf_X3_9 ?_
      refine j_iload_n (i := 1) C dX3_fillPattern_13 rfl 2 rfl ?_
      refine j_iload (i := 5) C dX3_fillPattern_14 0 rfl ?_
      refine j_iadd C dX3_fillPattern_16 ?_
      refine j_lload_n (i := 3) C dX3_fillPattern_17 rfl 4 rfl ?_
      refine j_iload (i := 5) C dX3_fillPattern_18 0 rfl ?_
      refine c_SN (As := [.long c, .int (nI i1)]) (rest := [.int (a + (nI i1)), .ref (ad 1)]) (st1 := [.int (S_X8_patternByte v (L_X3_fillPattern v f a b c i1) c (nI i1)), .int (a + (nI i1)), .ref (ad 1)]) C (c_X8_patternByte ε ad v (L_X3_fillPattern v f a b c i1) u g c (nI i1)  ) mt_X8_patternByte nw_X3_88 dX3_fillPattern_20 rfl rfl (by decide) (Nat.le_of_ble_eq_true rfl) rfl ?_
      refine c_V (As := [.int (a + (nI i1)), .int (S_X8_patternByte v (L_X3_fillPattern v f a b c i1) c (nI i1))]) (rest := []) (st1 := []) C (c_X5_set ε ad v (L_X3_fillPattern v f a b c i1) u g (a + (nI i1)) (S_X8_patternByte v (L_X3_fillPattern v f a b c i1) c (nI i1))  ) mv_X5_set lm_X3_92 dX3_fillPattern_23 1 wl_1 rfl rfl rfl (by decide) (Nat.le_of_ble_eq_true rfl) rfl ?_
      refine j_iinc (y := (nI (i1 + 1))) (lv' := [(5, .int (nI (i1 + 1))), (0, .ref (ad 15)), (1, .int a), (2, .int b), (3, .long c)]) C dX3_fillPattern_26 0 rfl (nI_1 _) (by decide) rfl ?_
      refine j_goto (tgt := 3) C dX3_fillPattern_29 (by decide) ?_
      refine j_lv (lv' := [(5, .int (nI (i1 + 1))), (0, .ref (ad 15)), (1, .int a), (2, .int b), (3, .long c)]) [0, 1, 2, 3, 4] rfl ?_
      have e8 := ih1 (i1 + 1) (by omega)
      rw [L_X3_fillPattern] at e8
      try dsimp only at e8
      exact e8
  have e7 := lp1 b.toNatClampNeg 0 (by omega)
  rw [L_X3_fillPattern] at e7
  try dsimp only at e7
  exact e7

def Q_X3_fillRequest_1 (v : Nat → Int32) (f : Nat → Nat → Int32) (a : Int32) (b : Int32) (c : Int32) (d : Int64) : (Nat → Nat → Int32) := (S_X5_setNumber v f a ((b : Int32).toInt64) 8)
def Q_X3_fillRequest_2 (v : Nat → Int32) (f : Nat → Nat → Int32) (a : Int32) (b : Int32) (c : Int32) (d : Int64) : (Nat → Nat → Int32) := (S_X5_setNumber v (Q_X3_fillRequest_1 v f a b c d) (a + 8) ((c : Int32).toInt64) 8)
def Q_X3_fillRequest_3 (v : Nat → Int32) (f : Nat → Nat → Int32) (a : Int32) (b : Int32) (c : Int32) (d : Int64) : (Nat → Nat → Int32) := (S_X3_fillPattern v (Q_X3_fillRequest_2 v f a b c d) (a + 16) 64 d)
def S_X3_fillRequest (v : Nat → Int32) (f : Nat → Nat → Int32) (a : Int32) (b : Int32) (c : Int32) (d : Int64) : (Nat → Nat → Int32) :=
  if b = 1 then (Q_X3_fillRequest_3 v f a b c d)
  else (Q_X3_fillRequest_2 v f a b c d)
set_option maxHeartbeats 1000000 in
set_option maxRecDepth 100000 in
theorem c_X3_fillRequest (ε : ET) (ad : Nat → Nat) (v : Nat → Int32) (f : Nat → Nat → Int32) (u : Nat → Int32) (g : Nat → Nat → Int32) (a : Int32) (b : Int32) (c : Int32) (d : Int64)  : CT ε yX3_fillRequest cX3_fillRequest 6 none 2 47 0 0 [.ref (ad 15), .int a, .int b, .int c, .long d] (WD ε ad v f u g) (DT none (WD ε ad v (S_X3_fillRequest v f a b c d) u g)) := by
  refine CT.of (own := RX3) (by decide) rfl (Nat.le_of_ble_eq_true rfl) (fun κ C hQ => ?_)
  refine j_aload_n (i := 0) C dX3_fillRequest_0 rfl 0 rfl ?_
  refine g_15_memory C dX3_fillRequest_1 lf_X3_9 ?_
  refine j_iload_n (i := 1) C dX3_fillRequest_4 rfl 1 rfl ?_
  refine j_bipush (x := 8) C dX3_fillRequest_5 (by decide) ?_
  refine j_iload_n (i := 2) C dX3_fillRequest_7 rfl 2 rfl ?_
  refine j_i2l C dX3_fillRequest_8 ?_
  refine c_V (As := [.int a, .int 8, .long ((b : Int32).toInt64)]) (rest := []) (st1 := []) (ω1 := (WD ε ad v (Q_X3_fillRequest_1 v f a b c d) u g)) C (c_X5_setNumber ε ad v f u g a ((b : Int32).toInt64) 8  (by first | assumption | omega | decide)) mv_X5_setNumber lm_X3_81 dX3_fillRequest_9 1 wl_1 rfl rfl rfl (by decide) (Nat.le_of_ble_eq_true rfl) rfl ?_
  refine j_aload_n (i := 0) C dX3_fillRequest_12 rfl 0 rfl ?_
  refine g_15_memory C dX3_fillRequest_13 lf_X3_9 ?_
  refine j_iload_n (i := 1) C dX3_fillRequest_16 rfl 1 rfl ?_
  refine j_bipush (x := 8) C dX3_fillRequest_17 (by decide) ?_
  refine j_iadd C dX3_fillRequest_19 ?_
  refine j_bipush (x := 8) C dX3_fillRequest_20 (by decide) ?_
  refine j_iload_n (i := 3) C dX3_fillRequest_22 rfl 3 rfl ?_
  refine j_i2l C dX3_fillRequest_23 ?_
  refine c_V (As := [.int (a + 8), .int 8, .long ((c : Int32).toInt64)]) (rest := []) (st1 := []) (ω1 := (WD ε ad v (Q_X3_fillRequest_2 v f a b c d) u g)) C (c_X5_setNumber ε ad v (Q_X3_fillRequest_1 v f a b c d) u g (a + 8) ((c : Int32).toInt64) 8  (by first | assumption | omega | decide)) mv_X5_setNumber lm_X3_81 dX3_fillRequest_24 1 wl_1 rfl rfl rfl (by decide) (Nat.le_of_ble_eq_true rfl) rfl ?_
  refine j_iload_n (i := 2) C dX3_fillRequest_27 rfl 2 rfl ?_
  refine j_iconst (x := 1) C dX3_fillRequest_28 (by decide) ?_
  refine j_icmp_ne (tgt := 44) C dX3_fillRequest_29 (by decide) (fun c_1 => ?_) (fun c_1 => ?_)
  · have hs : S_X3_fillRequest v f a b c d = (Q_X3_fillRequest_2 v f a b c d) := by unfold S_X3_fillRequest; rw [if_neg c_1]
    exact j_vret C hQ rfl dX3_fillRequest_44 (dt_nf hs)
  · refine j_aload_n (i := 0) C dX3_fillRequest_32 rfl 0 rfl ?_
    refine j_iload_n (i := 1) C dX3_fillRequest_33 rfl 1 rfl ?_
    refine j_bipush (x := 16) C dX3_fillRequest_34 (by decide) ?_
    refine j_iadd C dX3_fillRequest_36 ?_
    refine j_bipush (x := 64) C dX3_fillRequest_37 (by decide) ?_
    refine j_lload (i := 4) C dX3_fillRequest_39 4 rfl ?_
    refine c_V (As := [.int (a + 16), .int 64, .long d]) (rest := []) (st1 := []) (ω1 := (WD ε ad v (Q_X3_fillRequest_3 v f a b c d) u g)) C (c_X3_fillPattern ε ad v (Q_X3_fillRequest_2 v f a b c d) u g (a + 16) 64 d  ) mv_X3_fillPattern lm_X3_85 dX3_fillRequest_41 15 wl_15 rfl rfl rfl (by decide) (Nat.le_of_ble_eq_true rfl) rfl ?_
    have hs : S_X3_fillRequest v f a b c d = (Q_X3_fillRequest_3 v f a b c d) := by unfold S_X3_fillRequest; rw [if_pos c_1]
    exact j_vret C hQ rfl dX3_fillRequest_44 (dt_nf hs)

def Q_X3_layRequest_1 (v : Nat → Int32) (f : Nat → Nat → Int32) (a : Int32) (b : Int32) (c : Int32) (d : Int32) (e : Int32) (h : Int32) : (Nat → Nat → Int32) := (S_X5_setDescriptor v f (a + (16 * b)) e 16 1 c)
def Q_X3_layRequest_2 (v : Nat → Int32) (f : Nat → Nat → Int32) (a : Int32) (b : Int32) (c : Int32) (d : Int32) (e : Int32) (h : Int32) : (Nat → Nat → Int32) := (S_X5_setDescriptor v (Q_X3_layRequest_1 v f a b c d e h) (a + (16 * c)) (e + 16) 64 1 d)
def Q_X3_layRequest_3 (v : Nat → Int32) (f : Nat → Nat → Int32) (a : Int32) (b : Int32) (c : Int32) (d : Int32) (e : Int32) (h : Int32) : (Nat → Nat → Int32) := (S_X5_setDescriptor v (Q_X3_layRequest_2 v f a b c d e h) (a + (16 * d)) (e + 80) 1 2 0)
def Q_X3_layRequest_4 (v : Nat → Int32) (f : Nat → Nat → Int32) (a : Int32) (b : Int32) (c : Int32) (d : Int32) (e : Int32) (h : Int32) : (Nat → Nat → Int32) := (S_X5_setDescriptor v (Q_X3_layRequest_1 v f a b c d e h) (a + (16 * c)) (e + 16) 64 3 d)
def Q_X3_layRequest_5 (v : Nat → Int32) (f : Nat → Nat → Int32) (a : Int32) (b : Int32) (c : Int32) (d : Int32) (e : Int32) (h : Int32) : (Nat → Nat → Int32) := (S_X5_setDescriptor v (Q_X3_layRequest_4 v f a b c d e h) (a + (16 * d)) (e + 80) 1 2 0)
def S_X3_layRequest (v : Nat → Int32) (f : Nat → Nat → Int32) (a : Int32) (b : Int32) (c : Int32) (d : Int32) (e : Int32) (h : Int32) : (Nat → Nat → Int32) :=
  if h = 0 then (Q_X3_layRequest_5 v f a b c d e h)
  else (Q_X3_layRequest_3 v f a b c d e h)
set_option maxHeartbeats 1000000 in
set_option maxRecDepth 100000 in
theorem c_X3_layRequest (ε : ET) (ad : Nat → Nat) (v : Nat → Int32) (f : Nat → Nat → Int32) (u : Nat → Int32) (g : Nat → Nat → Int32) (a : Int32) (b : Int32) (c : Int32) (d : Int32) (e : Int32) (h : Int32)  : CT ε yX3_layRequest cX3_layRequest 8 none 3 72 0 0 [.ref (ad 15), .int a, .int b, .int c, .int d, .int e, .int h] (WD ε ad v f u g) (DT none (WD ε ad v (S_X3_layRequest v f a b c d e h) u g)) := by
  refine CT.of (own := RX3) (by decide) rfl (Nat.le_of_ble_eq_true rfl) (fun κ C hQ => ?_)
  refine j_iload (i := 6) C dX3_layRequest_0 6 rfl ?_
  refine j_if_ne (tgt := 9) C dX3_layRequest_2 (by decide) (fun c_1 => ?_) (fun c_1 => ?_)
  · refine j_iconst (x := 1) C dX3_layRequest_9 (by decide) ?_
    refine j_istore (i := 7) (lv' := [(7, .int 1), (0, .ref (ad 15)), (1, .int a), (2, .int b), (3, .int c), (4, .int d), (5, .int e), (6, .int h)]) C dX3_layRequest_10 (by decide) rfl ?_
    refine j_aload_n (i := 0) C dX3_layRequest_12 rfl 1 rfl ?_
    refine g_15_memory C dX3_layRequest_13 lf_X3_9 ?_
    refine j_iload_n (i := 1) C dX3_layRequest_16 rfl 2 rfl ?_
    refine j_bipush (x := 16) C dX3_layRequest_17 (by decide) ?_
    refine j_iload_n (i := 2) C dX3_layRequest_19 rfl 3 rfl ?_
    refine j_imul C dX3_layRequest_20 ?_
    refine j_iadd C dX3_layRequest_21 ?_
    refine j_iload (i := 5) C dX3_layRequest_22 6 rfl ?_
    refine j_bipush (x := 16) C dX3_layRequest_24 (by decide) ?_
    refine j_iconst (x := 1) C dX3_layRequest_26 (by decide) ?_
    refine j_iload_n (i := 3) C dX3_layRequest_27 rfl 4 rfl ?_
    refine c_V (As := [.int (a + (16 * b)), .int e, .int 16, .int 1, .int c]) (rest := []) (st1 := []) (ω1 := (WD ε ad v (Q_X3_layRequest_1 v f a b c d e h) u g)) C (c_X5_setDescriptor ε ad v f u g (a + (16 * b)) e 16 1 c  ) mv_X5_setDescriptor lm_X3_56 dX3_layRequest_28 1 wl_1 rfl rfl rfl (by decide) (Nat.le_of_ble_eq_true rfl) rfl ?_
    refine j_aload_n (i := 0) C dX3_layRequest_31 rfl 1 rfl ?_
    refine g_15_memory C dX3_layRequest_32 lf_X3_9 ?_
    refine j_iload_n (i := 1) C dX3_layRequest_35 rfl 2 rfl ?_
    refine j_bipush (x := 16) C dX3_layRequest_36 (by decide) ?_
    refine j_iload_n (i := 3) C dX3_layRequest_38 rfl 4 rfl ?_
    refine j_imul C dX3_layRequest_39 ?_
    refine j_iadd C dX3_layRequest_40 ?_
    refine j_iload (i := 5) C dX3_layRequest_41 6 rfl ?_
    refine j_bipush (x := 16) C dX3_layRequest_43 (by decide) ?_
    refine j_iadd C dX3_layRequest_45 ?_
    refine j_bipush (x := 64) C dX3_layRequest_46 (by decide) ?_
    refine j_iload (i := 7) C dX3_layRequest_48 0 rfl ?_
    refine j_iload (i := 4) C dX3_layRequest_50 5 rfl ?_
    refine c_V (As := [.int (a + (16 * c)), .int (e + 16), .int 64, .int 1, .int d]) (rest := []) (st1 := []) (ω1 := (WD ε ad v (Q_X3_layRequest_2 v f a b c d e h) u g)) C (c_X5_setDescriptor ε ad v (Q_X3_layRequest_1 v f a b c d e h) u g (a + (16 * c)) (e + 16) 64 1 d  ) mv_X5_setDescriptor lm_X3_56 dX3_layRequest_52 1 wl_1 rfl rfl rfl (by decide) (Nat.le_of_ble_eq_true rfl) rfl ?_
    refine j_aload_n (i := 0) C dX3_layRequest_55 rfl 1 rfl ?_
    refine g_15_memory C dX3_layRequest_56 lf_X3_9 ?_
    refine j_iload_n (i := 1) C dX3_layRequest_59 rfl 2 rfl ?_
    refine j_bipush (x := 16) C dX3_layRequest_60 (by decide) ?_
    refine j_iload (i := 4) C dX3_layRequest_62 5 rfl ?_
    refine j_imul C dX3_layRequest_64 ?_
    refine j_iadd C dX3_layRequest_65 ?_
    refine j_iload (i := 5) C dX3_layRequest_66 6 rfl ?_
    refine j_bipush (x := 80) C dX3_layRequest_68 (by decide) ?_
    refine j_iadd C dX3_layRequest_70 ?_
    refine j_iconst (x := 1) C dX3_layRequest_71 (by decide) ?_
    refine j_iconst (x := 2) C dX3_layRequest_72 (by decide) ?_
    refine j_iconst (x := 0) C dX3_layRequest_73 (by decide) ?_
    refine c_V (As := [.int (a + (16 * d)), .int (e + 80), .int 1, .int 2, .int 0]) (rest := []) (st1 := []) (ω1 := (WD ε ad v (Q_X3_layRequest_3 v f a b c d e h) u g)) C (c_X5_setDescriptor ε ad v (Q_X3_layRequest_2 v f a b c d e h) u g (a + (16 * d)) (e + 80) 1 2 0  ) mv_X5_setDescriptor lm_X3_56 dX3_layRequest_74 1 wl_1 rfl rfl rfl (by decide) (Nat.le_of_ble_eq_true rfl) rfl ?_
    have hs : S_X3_layRequest v f a b c d e h = (Q_X3_layRequest_3 v f a b c d e h) := by unfold S_X3_layRequest; rw [if_neg c_1]
    exact j_vret C hQ rfl dX3_layRequest_77 (dt_nf hs)
  · refine j_iconst (x := 3) C dX3_layRequest_5 (by decide) ?_
    refine j_goto (tgt := 10) C dX3_layRequest_6 (by decide) ?_
    refine j_istore (i := 7) (lv' := [(7, .int 3), (0, .ref (ad 15)), (1, .int a), (2, .int b), (3, .int c), (4, .int d), (5, .int e), (6, .int h)]) C dX3_layRequest_10 (by decide) rfl ?_
    refine j_aload_n (i := 0) C dX3_layRequest_12 rfl 1 rfl ?_
    refine g_15_memory C dX3_layRequest_13 lf_X3_9 ?_
    refine j_iload_n (i := 1) C dX3_layRequest_16 rfl 2 rfl ?_
    refine j_bipush (x := 16) C dX3_layRequest_17 (by decide) ?_
    refine j_iload_n (i := 2) C dX3_layRequest_19 rfl 3 rfl ?_
    refine j_imul C dX3_layRequest_20 ?_
    refine j_iadd C dX3_layRequest_21 ?_
    refine j_iload (i := 5) C dX3_layRequest_22 6 rfl ?_
    refine j_bipush (x := 16) C dX3_layRequest_24 (by decide) ?_
    refine j_iconst (x := 1) C dX3_layRequest_26 (by decide) ?_
    refine j_iload_n (i := 3) C dX3_layRequest_27 rfl 4 rfl ?_
    refine c_V (As := [.int (a + (16 * b)), .int e, .int 16, .int 1, .int c]) (rest := []) (st1 := []) (ω1 := (WD ε ad v (Q_X3_layRequest_1 v f a b c d e h) u g)) C (c_X5_setDescriptor ε ad v f u g (a + (16 * b)) e 16 1 c  ) mv_X5_setDescriptor lm_X3_56 dX3_layRequest_28 1 wl_1 rfl rfl rfl (by decide) (Nat.le_of_ble_eq_true rfl) rfl ?_
    refine j_aload_n (i := 0) C dX3_layRequest_31 rfl 1 rfl ?_
    refine g_15_memory C dX3_layRequest_32 lf_X3_9 ?_
    refine j_iload_n (i := 1) C dX3_layRequest_35 rfl 2 rfl ?_
    refine j_bipush (x := 16) C dX3_layRequest_36 (by decide) ?_
    refine j_iload_n (i := 3) C dX3_layRequest_38 rfl 4 rfl ?_
    refine j_imul C dX3_layRequest_39 ?_
    refine j_iadd C dX3_layRequest_40 ?_
    refine j_iload (i := 5) C dX3_layRequest_41 6 rfl ?_
    refine j_bipush (x := 16) C dX3_layRequest_43 (by decide) ?_
    refine j_iadd C dX3_layRequest_45 ?_
    refine j_bipush (x := 64) C dX3_layRequest_46 (by decide) ?_
    refine j_iload (i := 7) C dX3_layRequest_48 0 rfl ?_
    refine j_iload (i := 4) C dX3_layRequest_50 5 rfl ?_
    refine c_V (As := [.int (a + (16 * c)), .int (e + 16), .int 64, .int 3, .int d]) (rest := []) (st1 := []) (ω1 := (WD ε ad v (Q_X3_layRequest_4 v f a b c d e h) u g)) C (c_X5_setDescriptor ε ad v (Q_X3_layRequest_1 v f a b c d e h) u g (a + (16 * c)) (e + 16) 64 3 d  ) mv_X5_setDescriptor lm_X3_56 dX3_layRequest_52 1 wl_1 rfl rfl rfl (by decide) (Nat.le_of_ble_eq_true rfl) rfl ?_
    refine j_aload_n (i := 0) C dX3_layRequest_55 rfl 1 rfl ?_
    refine g_15_memory C dX3_layRequest_56 lf_X3_9 ?_
    refine j_iload_n (i := 1) C dX3_layRequest_59 rfl 2 rfl ?_
    refine j_bipush (x := 16) C dX3_layRequest_60 (by decide) ?_
    refine j_iload (i := 4) C dX3_layRequest_62 5 rfl ?_
    refine j_imul C dX3_layRequest_64 ?_
    refine j_iadd C dX3_layRequest_65 ?_
    refine j_iload (i := 5) C dX3_layRequest_66 6 rfl ?_
    refine j_bipush (x := 80) C dX3_layRequest_68 (by decide) ?_
    refine j_iadd C dX3_layRequest_70 ?_
    refine j_iconst (x := 1) C dX3_layRequest_71 (by decide) ?_
    refine j_iconst (x := 2) C dX3_layRequest_72 (by decide) ?_
    refine j_iconst (x := 0) C dX3_layRequest_73 (by decide) ?_
    refine c_V (As := [.int (a + (16 * d)), .int (e + 80), .int 1, .int 2, .int 0]) (rest := []) (st1 := []) (ω1 := (WD ε ad v (Q_X3_layRequest_5 v f a b c d e h) u g)) C (c_X5_setDescriptor ε ad v (Q_X3_layRequest_4 v f a b c d e h) u g (a + (16 * d)) (e + 80) 1 2 0  ) mv_X5_setDescriptor lm_X3_56 dX3_layRequest_74 1 wl_1 rfl rfl rfl (by decide) (Nat.le_of_ble_eq_true rfl) rfl ?_
    have hs : S_X3_layRequest v f a b c d e h = (Q_X3_layRequest_5 v f a b c d e h) := by unfold S_X3_layRequest; rw [if_pos c_1]
    exact j_vret C hQ rfl dX3_layRequest_77 (dt_nf hs)

def Q_X3_ask_1 (v : Nat → Int32) (f : Nat → Nat → Int32) (a : Int32) (b : Int32) (c : Int64) : Int32 := ((S_X4_lendNext_16 ((S_X4_lendFirst_16 v f).2.1) ((S_X4_lendFirst_16 v f).2.2) ((S_X4_lendFirst_16 v f).1)).1)
def Q_X3_ask_2 (v : Nat → Int32) (f : Nat → Nat → Int32) (a : Int32) (b : Int32) (c : Int64) : (Nat → Int32) := ((S_X4_lendNext_16 ((S_X4_lendFirst_16 v f).2.1) ((S_X4_lendFirst_16 v f).2.2) ((S_X4_lendFirst_16 v f).1)).2.1)
def Q_X3_ask_3 (v : Nat → Int32) (f : Nat → Nat → Int32) (a : Int32) (b : Int32) (c : Int64) : (Nat → Nat → Int32) := ((S_X4_lendNext_16 ((S_X4_lendFirst_16 v f).2.1) ((S_X4_lendFirst_16 v f).2.2) ((S_X4_lendFirst_16 v f).1)).2.2)
def Q_X3_ask_4 (v : Nat → Int32) (f : Nat → Nat → Int32) (a : Int32) (b : Int32) (c : Int64) : Int32 := ((S_X4_lendNext_16 (Q_X3_ask_2 v f a b c) (Q_X3_ask_3 v f a b c) ((S_X4_lendFirst_16 v f).1)).1)
def Q_X3_ask_5 (v : Nat → Int32) (f : Nat → Nat → Int32) (a : Int32) (b : Int32) (c : Int64) : (Nat → Int32) := ((S_X4_lendNext_16 (Q_X3_ask_2 v f a b c) (Q_X3_ask_3 v f a b c) ((S_X4_lendFirst_16 v f).1)).2.1)
def Q_X3_ask_6 (v : Nat → Int32) (f : Nat → Nat → Int32) (a : Int32) (b : Int32) (c : Int64) : (Nat → Nat → Int32) := ((S_X4_lendNext_16 (Q_X3_ask_2 v f a b c) (Q_X3_ask_3 v f a b c) ((S_X4_lendFirst_16 v f).1)).2.2)
def Q_X3_ask_7 (v : Nat → Int32) (f : Nat → Nat → Int32) (a : Int32) (b : Int32) (c : Int64) : Int32 := (S_X8_descriptorsOf (Q_X3_ask_5 v f a b c) (Q_X3_ask_6 v f a b c) 0)
def Q_X3_ask_8 (v : Nat → Int32) (f : Nat → Nat → Int32) (a : Int32) (b : Int32) (c : Int64) : (Nat → Nat → Int32) := (S_X3_layRequest (Q_X3_ask_5 v f a b c) (Q_X3_ask_6 v f a b c) (Q_X3_ask_7 v f a b c) ((S_X4_lendFirst_16 v f).1) (Q_X3_ask_1 v f a b c) (Q_X3_ask_4 v f a b c) (1024 + (96 * ((S_X4_lendFirst_16 v f).1))) a)
def Q_X3_ask_9 (v : Nat → Int32) (f : Nat → Nat → Int32) (a : Int32) (b : Int32) (c : Int64) : (Nat → Nat → Int32) := (S_X3_fillRequest (Q_X3_ask_5 v f a b c) (Q_X3_ask_8 v f a b c) (1024 + (96 * ((S_X4_lendFirst_16 v f).1))) a b c)
def Q_X3_ask_10 (v : Nat → Int32) (f : Nat → Nat → Int32) (a : Int32) (b : Int32) (c : Int64) : (Nat → Int32) := ((S_X3_offer_0 (Q_X3_ask_5 v f a b c) (Q_X3_ask_9 v f a b c) ((S_X4_lendFirst_16 v f).1)).1)
def Q_X3_ask_11 (v : Nat → Int32) (f : Nat → Nat → Int32) (a : Int32) (b : Int32) (c : Int64) : (Nat → Nat → Int32) := ((S_X3_offer_0 (Q_X3_ask_5 v f a b c) (Q_X3_ask_9 v f a b c) ((S_X4_lendFirst_16 v f).1)).2)
def Q_X3_ask_12 (v : Nat → Int32) (f : Nat → Nat → Int32) (a : Int32) (b : Int32) (c : Int64) : Int32 := (S_X3_descriptorAt ((S_X4_lendFirst_16 v f).2.1) ((S_X4_lendFirst_16 v f).2.2) 0 ((S_X4_lendFirst_16 v f).1))
def Q_X3_ask_13 (v : Nat → Int32) (f : Nat → Nat → Int32) (a : Int32) (b : Int32) (c : Int64) : (Nat → Nat → Int32) := (S_X5_setDescriptor ((S_X4_lendFirst_16 v f).2.1) ((S_X4_lendFirst_16 v f).2.2) (Q_X3_ask_12 v f a b c) (1792 + (64 * ((S_X4_lendFirst_16 v f).1))) 48 4 0)
def Q_X3_ask_14 (v : Nat → Int32) (f : Nat → Nat → Int32) (a : Int32) (b : Int32) (c : Int64) : (Nat → Nat → Int32) := (S_X3_layRequest ((S_X4_lendFirst_16 v f).2.1) (Q_X3_ask_13 v f a b c) (1792 + (64 * ((S_X4_lendFirst_16 v f).1))) 0 1 2 (1024 + (96 * ((S_X4_lendFirst_16 v f).1))) a)
def Q_X3_ask_15 (v : Nat → Int32) (f : Nat → Nat → Int32) (a : Int32) (b : Int32) (c : Int64) : (Nat → Nat → Int32) := (S_X3_fillRequest ((S_X4_lendFirst_16 v f).2.1) (Q_X3_ask_14 v f a b c) (1024 + (96 * ((S_X4_lendFirst_16 v f).1))) a b c)
def Q_X3_ask_16 (v : Nat → Int32) (f : Nat → Nat → Int32) (a : Int32) (b : Int32) (c : Int64) : (Nat → Int32) := ((S_X3_offer_0 ((S_X4_lendFirst_16 v f).2.1) (Q_X3_ask_15 v f a b c) ((S_X4_lendFirst_16 v f).1)).1)
def Q_X3_ask_17 (v : Nat → Int32) (f : Nat → Nat → Int32) (a : Int32) (b : Int32) (c : Int64) : (Nat → Nat → Int32) := ((S_X3_offer_0 ((S_X4_lendFirst_16 v f).2.1) (Q_X3_ask_15 v f a b c) ((S_X4_lendFirst_16 v f).1)).2)
def S_X3_ask (v : Nat → Int32) (f : Nat → Nat → Int32) (a : Int32) (b : Int32) (c : Int64) : Int32 × (Nat → Int32) × (Nat → Nat → Int32) :=
  if (v 39) = 0 then if (S_X3_refusal_16 v f 3) = 0 then if (((S_X4_lendFirst_16 v f).2.1) 39) = 0 then (((S_X4_lendFirst_16 v f).1), (Q_X3_ask_10 v f a b c), (Q_X3_ask_11 v f a b c))
      else (((S_X4_lendFirst_16 v f).1), (Q_X3_ask_16 v f a b c), (Q_X3_ask_17 v f a b c))
    else ((S_X3_refusal_16 v f 3), v, f)
  else if (S_X3_refusal_16 v f 1) = 0 then if (((S_X4_lendFirst_16 v f).2.1) 39) = 0 then (((S_X4_lendFirst_16 v f).1), (Q_X3_ask_10 v f a b c), (Q_X3_ask_11 v f a b c))
      else (((S_X4_lendFirst_16 v f).1), (Q_X3_ask_16 v f a b c), (Q_X3_ask_17 v f a b c))
    else ((S_X3_refusal_16 v f 1), v, f)
set_option maxHeartbeats 1000000 in
set_option maxRecDepth 100000 in
theorem c_X3_ask (ε : ET) (ad : Nat → Nat) (v : Nat → Int32) (f : Nat → Nat → Int32) (u : Nat → Int32) (g : Nat → Nat → Int32) (a : Int32) (b : Int32) (c : Int64)  : CT ε yX3_ask cX3_ask 10 (some .int) 4 99 0 0 [.ref (ad 15), .int a, .int b, .long c] (WD ε ad v f u g) (DT (some (.int ((S_X3_ask v f a b c).1))) (WD ε ad ((S_X3_ask v f a b c).2.1) ((S_X3_ask v f a b c).2.2) u g)) := by
  refine CT.of (own := RX3) (by decide) rfl (Nat.le_of_ble_eq_true rfl) (fun κ C hQ => ?_)
  refine j_aload_n (i := 0) C dX3_ask_0 rfl 0 rfl ?_
  refine j_aload_n (i := 0) C dX3_ask_1 rfl 0 rfl ?_
  refine g_15_disks C dX3_ask_2 lf_X3_18 ?_
  refine j_aload_n (i := 0) C dX3_ask_5 rfl 0 rfl ?_
  refine g_15_tables (x := (v 39)) C dX3_ask_6 lf_X3_32 rfl ?_
  refine j_if_eq (tgt := 16) C dX3_ask_9 (by decide) (fun c_1 => ?_) (fun c_1 => ?_)
  · refine j_iconst (x := 3) C dX3_ask_16 (by decide) ?_
    refine c_V (As := [.ref (ad 16), .int 3]) (rest := []) (st1 := [.int (S_X3_refusal_16 v f 3)]) C (c_X3_refusal_16 ε ad v f u g 3  ) mv_X3_refusal lm_X3_45 dX3_ask_17 15 wl_15 rfl rfl rfl (by decide) (Nat.le_of_ble_eq_true rfl) rfl ?_
    refine j_istore (i := 5) (lv' := [(5, .int (S_X3_refusal_16 v f 3)), (0, .ref (ad 15)), (1, .int a), (2, .int b), (3, .long c)]) C dX3_ask_20 (by decide) rfl ?_
    refine j_iload (i := 5) C dX3_ask_22 0 rfl ?_
    refine j_if_eq (tgt := 30) C dX3_ask_24 (by decide) (fun c_2 => ?_) (fun c_2 => ?_)
    · refine j_aload_n (i := 0) C dX3_ask_30 rfl 1 rfl ?_
      refine g_15_disks C dX3_ask_31 lf_X3_18 ?_
      refine c_V (As := []) (rest := []) (st1 := [.int ((S_X4_lendFirst_16 v f).1)]) C (c_X4_lendFirst_16 ε ad v f u g   ) mv_X4_lendFirst lm_X3_49 dX3_ask_34 16 wl_16 rfl rfl rfl (by decide) (Nat.le_of_ble_eq_true rfl) rfl ?_
      refine j_istore (i := 6) (lv' := [(6, .int ((S_X4_lendFirst_16 v f).1)), (5, .int (S_X3_refusal_16 v f 3)), (0, .ref (ad 15)), (1, .int a), (2, .int b), (3, .long c)]) C dX3_ask_37 (by decide) rfl ?_
      refine j_sipush (x := 1024) C dX3_ask_39 (by decide) ?_
      refine j_bipush (x := 96) C dX3_ask_42 (by decide) ?_
      refine j_iload (i := 6) C dX3_ask_44 0 rfl ?_
      refine j_imul C dX3_ask_46 ?_
      refine j_iadd C dX3_ask_47 ?_
      refine j_istore (i := 7) (lv' := [(7, .int (1024 + (96 * ((S_X4_lendFirst_16 v f).1)))), (6, .int ((S_X4_lendFirst_16 v f).1)), (5, .int (S_X3_refusal_16 v f 3)), (0, .ref (ad 15)), (1, .int a), (2, .int b), (3, .long c)]) C dX3_ask_48 (by decide) rfl ?_
      refine j_aload_n (i := 0) C dX3_ask_50 rfl 3 rfl ?_
      refine g_15_tables (x := (((S_X4_lendFirst_16 v f).2.1) 39)) C dX3_ask_51 lf_X3_32 rfl ?_
      refine j_if_eq (tgt := 103) C dX3_ask_54 (by decide) (fun c_3 => ?_) (fun c_3 => ?_)
      · refine j_aload_n (i := 0) C dX3_ask_103 rfl 3 rfl ?_
        refine g_15_disks C dX3_ask_104 lf_X3_18 ?_
        refine j_iload (i := 6) C dX3_ask_107 1 rfl ?_
        refine c_V (As := [.int ((S_X4_lendFirst_16 v f).1)]) (rest := []) (st1 := [.int (Q_X3_ask_1 v f a b c)]) (ω1 := (WD ε ad (Q_X3_ask_2 v f a b c) (Q_X3_ask_3 v f a b c) u g)) C (c_X4_lendNext_16 ε ad ((S_X4_lendFirst_16 v f).2.1) ((S_X4_lendFirst_16 v f).2.2) u g ((S_X4_lendFirst_16 v f).1)  ) mv_X4_lendNext lm_X3_66 dX3_ask_109 16 wl_16 rfl rfl rfl (by decide) (Nat.le_of_ble_eq_true rfl) rfl ?_
        refine j_istore (i := 8) (lv' := [(8, .int (Q_X3_ask_1 v f a b c)), (7, .int (1024 + (96 * ((S_X4_lendFirst_16 v f).1)))), (6, .int ((S_X4_lendFirst_16 v f).1)), (5, .int (S_X3_refusal_16 v f 3)), (0, .ref (ad 15)), (1, .int a), (2, .int b), (3, .long c)]) C dX3_ask_112 (by decide) rfl ?_
        refine j_aload_n (i := 0) C dX3_ask_114 rfl 4 rfl ?_
        refine g_15_disks C dX3_ask_115 lf_X3_18 ?_
        refine j_iload (i := 6) C dX3_ask_118 2 rfl ?_
        refine c_V (As := [.int ((S_X4_lendFirst_16 v f).1)]) (rest := []) (st1 := [.int (Q_X3_ask_4 v f a b c)]) (ω1 := (WD ε ad (Q_X3_ask_5 v f a b c) (Q_X3_ask_6 v f a b c) u g)) C (c_X4_lendNext_16 ε ad (Q_X3_ask_2 v f a b c) (Q_X3_ask_3 v f a b c) u g ((S_X4_lendFirst_16 v f).1)  ) mv_X4_lendNext lm_X3_66 dX3_ask_120 16 wl_16 rfl rfl rfl (by decide) (Nat.le_of_ble_eq_true rfl) rfl ?_
        refine j_istore (i := 9) (lv' := [(9, .int (Q_X3_ask_4 v f a b c)), (8, .int (Q_X3_ask_1 v f a b c)), (7, .int (1024 + (96 * ((S_X4_lendFirst_16 v f).1)))), (6, .int ((S_X4_lendFirst_16 v f).1)), (5, .int (S_X3_refusal_16 v f 3)), (0, .ref (ad 15)), (1, .int a), (2, .int b), (3, .long c)]) C dX3_ask_123 (by decide) rfl ?_
        refine j_aload_n (i := 0) C dX3_ask_125 rfl 5 rfl ?_
        refine j_iconst (x := 0) C dX3_ask_126 (by decide) ?_
        refine c_SN (As := [.int 0]) (rest := [.ref (ad 15)]) (st1 := [.int (Q_X3_ask_7 v f a b c), .ref (ad 15)]) C (c_X8_descriptorsOf ε ad (Q_X3_ask_5 v f a b c) (Q_X3_ask_6 v f a b c) u g 0  ) mt_X8_descriptorsOf nw_X3_70 dX3_ask_127 rfl rfl (by decide) (Nat.le_of_ble_eq_true rfl) rfl ?_
        refine j_iload (i := 6) C dX3_ask_130 3 rfl ?_
        refine j_iload (i := 8) C dX3_ask_132 1 rfl ?_
        refine j_iload (i := 9) C dX3_ask_134 0 rfl ?_
        refine j_iload (i := 7) C dX3_ask_136 2 rfl ?_
        refine j_iload_n (i := 1) C dX3_ask_138 rfl 6 rfl ?_
        refine c_V (As := [.int (Q_X3_ask_7 v f a b c), .int ((S_X4_lendFirst_16 v f).1), .int (Q_X3_ask_1 v f a b c), .int (Q_X3_ask_4 v f a b c), .int (1024 + (96 * ((S_X4_lendFirst_16 v f).1))), .int a]) (rest := []) (st1 := []) (ω1 := (WD ε ad (Q_X3_ask_5 v f a b c) (Q_X3_ask_8 v f a b c) u g)) C (c_X3_layRequest ε ad (Q_X3_ask_5 v f a b c) (Q_X3_ask_6 v f a b c) u g (Q_X3_ask_7 v f a b c) ((S_X4_lendFirst_16 v f).1) (Q_X3_ask_1 v f a b c) (Q_X3_ask_4 v f a b c) (1024 + (96 * ((S_X4_lendFirst_16 v f).1))) a  ) mv_X3_layRequest lm_X3_62 dX3_ask_139 15 wl_15 rfl rfl rfl (by decide) (Nat.le_of_ble_eq_true rfl) rfl ?_
        refine j_aload_n (i := 0) C dX3_ask_142 rfl 5 rfl ?_
        refine j_iload (i := 7) C dX3_ask_143 2 rfl ?_
        refine j_iload_n (i := 1) C dX3_ask_145 rfl 6 rfl ?_
        refine j_iload_n (i := 2) C dX3_ask_146 rfl 7 rfl ?_
        refine j_lload_n (i := 3) C dX3_ask_147 rfl 8 rfl ?_
        refine c_V (As := [.int (1024 + (96 * ((S_X4_lendFirst_16 v f).1))), .int a, .int b, .long c]) (rest := []) (st1 := []) (ω1 := (WD ε ad (Q_X3_ask_5 v f a b c) (Q_X3_ask_9 v f a b c) u g)) C (c_X3_fillRequest ε ad (Q_X3_ask_5 v f a b c) (Q_X3_ask_8 v f a b c) u g (1024 + (96 * ((S_X4_lendFirst_16 v f).1))) a b c  ) mv_X3_fillRequest lm_X3_73 dX3_ask_148 15 wl_15 rfl rfl rfl (by decide) (Nat.le_of_ble_eq_true rfl) rfl ?_
        refine j_aload_n (i := 0) C dX3_ask_151 rfl 5 rfl ?_
        refine j_iconst (x := 0) C dX3_ask_152 (by decide) ?_
        refine j_iload (i := 6) C dX3_ask_153 3 rfl ?_
        refine c_V (As := [.int 0, .int ((S_X4_lendFirst_16 v f).1)]) (rest := []) (st1 := []) (ω1 := (WD ε ad (Q_X3_ask_10 v f a b c) (Q_X3_ask_11 v f a b c) u g)) C (c_X3_offer_0 ε ad (Q_X3_ask_5 v f a b c) (Q_X3_ask_9 v f a b c) u g ((S_X4_lendFirst_16 v f).1)  ) mv_X3_offer lm_X3_77 dX3_ask_155 15 wl_15 rfl rfl rfl (by decide) (Nat.le_of_ble_eq_true rfl) rfl ?_
        refine j_iload (i := 6) C dX3_ask_158 3 rfl ?_
        have hs : S_X3_ask v f a b c = (((S_X4_lendFirst_16 v f).1), (Q_X3_ask_10 v f a b c), (Q_X3_ask_11 v f a b c)) := by unfold S_X3_ask; rw [if_pos c_1, if_pos c_2, if_pos c_3]
        exact j_iret C hQ rfl dX3_ask_160 (dt_ivf hs)
      · refine j_sipush (x := 1792) C dX3_ask_57 (by decide) ?_
        refine j_bipush (x := 64) C dX3_ask_60 (by decide) ?_
        refine j_iload (i := 6) C dX3_ask_62 1 rfl ?_
        refine j_imul C dX3_ask_64 ?_
        refine j_iadd C dX3_ask_65 ?_
        refine j_istore (i := 8) (lv' := [(8, .int (1792 + (64 * ((S_X4_lendFirst_16 v f).1)))), (7, .int (1024 + (96 * ((S_X4_lendFirst_16 v f).1)))), (6, .int ((S_X4_lendFirst_16 v f).1)), (5, .int (S_X3_refusal_16 v f 3)), (0, .ref (ad 15)), (1, .int a), (2, .int b), (3, .long c)]) C dX3_ask_66 (by decide) rfl ?_
        refine j_aload_n (i := 0) C dX3_ask_68 rfl 4 rfl ?_
        refine g_15_memory C dX3_ask_69 lf_X3_9 ?_
        refine j_aload_n (i := 0) C dX3_ask_72 rfl 4 rfl ?_
        refine j_iconst (x := 0) C dX3_ask_73 (by decide) ?_
        refine j_iload (i := 6) C dX3_ask_74 2 rfl ?_
        refine c_V (As := [.int 0, .int ((S_X4_lendFirst_16 v f).1)]) (rest := [.ref (ad 1)]) (st1 := [.int (Q_X3_ask_12 v f a b c), .ref (ad 1)]) C (c_X3_descriptorAt ε ad ((S_X4_lendFirst_16 v f).2.1) ((S_X4_lendFirst_16 v f).2.2) u g 0 ((S_X4_lendFirst_16 v f).1)  ) mv_X3_descriptorAt lm_X3_52 dX3_ask_76 15 wl_15 rfl rfl rfl (by decide) (Nat.le_of_ble_eq_true rfl) rfl ?_
        refine j_iload (i := 8) C dX3_ask_79 0 rfl ?_
        refine j_bipush (x := 48) C dX3_ask_81 (by decide) ?_
        refine j_iconst (x := 4) C dX3_ask_83 (by decide) ?_
        refine j_iconst (x := 0) C dX3_ask_84 (by decide) ?_
        refine c_V (As := [.int (Q_X3_ask_12 v f a b c), .int (1792 + (64 * ((S_X4_lendFirst_16 v f).1))), .int 48, .int 4, .int 0]) (rest := []) (st1 := []) (ω1 := (WD ε ad ((S_X4_lendFirst_16 v f).2.1) (Q_X3_ask_13 v f a b c) u g)) C (c_X5_setDescriptor ε ad ((S_X4_lendFirst_16 v f).2.1) ((S_X4_lendFirst_16 v f).2.2) u g (Q_X3_ask_12 v f a b c) (1792 + (64 * ((S_X4_lendFirst_16 v f).1))) 48 4 0  ) mv_X5_setDescriptor lm_X3_56 dX3_ask_85 1 wl_1 rfl rfl rfl (by decide) (Nat.le_of_ble_eq_true rfl) rfl ?_
        refine j_aload_n (i := 0) C dX3_ask_88 rfl 4 rfl ?_
        refine j_iload (i := 8) C dX3_ask_89 0 rfl ?_
        refine j_iconst (x := 0) C dX3_ask_91 (by decide) ?_
        refine j_iconst (x := 1) C dX3_ask_92 (by decide) ?_
        refine j_iconst (x := 2) C dX3_ask_93 (by decide) ?_
        refine j_iload (i := 7) C dX3_ask_94 1 rfl ?_
        refine j_iload_n (i := 1) C dX3_ask_96 rfl 5 rfl ?_
        refine c_V (As := [.int (1792 + (64 * ((S_X4_lendFirst_16 v f).1))), .int 0, .int 1, .int 2, .int (1024 + (96 * ((S_X4_lendFirst_16 v f).1))), .int a]) (rest := []) (st1 := []) (ω1 := (WD ε ad ((S_X4_lendFirst_16 v f).2.1) (Q_X3_ask_14 v f a b c) u g)) C (c_X3_layRequest ε ad ((S_X4_lendFirst_16 v f).2.1) (Q_X3_ask_13 v f a b c) u g (1792 + (64 * ((S_X4_lendFirst_16 v f).1))) 0 1 2 (1024 + (96 * ((S_X4_lendFirst_16 v f).1))) a  ) mv_X3_layRequest lm_X3_62 dX3_ask_97 15 wl_15 rfl rfl rfl (by decide) (Nat.le_of_ble_eq_true rfl) rfl ?_
        refine j_goto (tgt := 142) C dX3_ask_100 (by decide) ?_
        refine j_aload_n (i := 0) C dX3_ask_142 rfl 4 rfl ?_
        refine j_iload (i := 7) C dX3_ask_143 1 rfl ?_
        refine j_iload_n (i := 1) C dX3_ask_145 rfl 5 rfl ?_
        refine j_iload_n (i := 2) C dX3_ask_146 rfl 6 rfl ?_
        refine j_lload_n (i := 3) C dX3_ask_147 rfl 7 rfl ?_
        refine c_V (As := [.int (1024 + (96 * ((S_X4_lendFirst_16 v f).1))), .int a, .int b, .long c]) (rest := []) (st1 := []) (ω1 := (WD ε ad ((S_X4_lendFirst_16 v f).2.1) (Q_X3_ask_15 v f a b c) u g)) C (c_X3_fillRequest ε ad ((S_X4_lendFirst_16 v f).2.1) (Q_X3_ask_14 v f a b c) u g (1024 + (96 * ((S_X4_lendFirst_16 v f).1))) a b c  ) mv_X3_fillRequest lm_X3_73 dX3_ask_148 15 wl_15 rfl rfl rfl (by decide) (Nat.le_of_ble_eq_true rfl) rfl ?_
        refine j_aload_n (i := 0) C dX3_ask_151 rfl 4 rfl ?_
        refine j_iconst (x := 0) C dX3_ask_152 (by decide) ?_
        refine j_iload (i := 6) C dX3_ask_153 2 rfl ?_
        refine c_V (As := [.int 0, .int ((S_X4_lendFirst_16 v f).1)]) (rest := []) (st1 := []) (ω1 := (WD ε ad (Q_X3_ask_16 v f a b c) (Q_X3_ask_17 v f a b c) u g)) C (c_X3_offer_0 ε ad ((S_X4_lendFirst_16 v f).2.1) (Q_X3_ask_15 v f a b c) u g ((S_X4_lendFirst_16 v f).1)  ) mv_X3_offer lm_X3_77 dX3_ask_155 15 wl_15 rfl rfl rfl (by decide) (Nat.le_of_ble_eq_true rfl) rfl ?_
        refine j_iload (i := 6) C dX3_ask_158 2 rfl ?_
        have hs : S_X3_ask v f a b c = (((S_X4_lendFirst_16 v f).1), (Q_X3_ask_16 v f a b c), (Q_X3_ask_17 v f a b c)) := by unfold S_X3_ask; rw [if_pos c_1, if_pos c_2, if_neg c_3]
        exact j_iret C hQ rfl dX3_ask_160 (dt_ivf hs)
    · refine j_iload (i := 5) C dX3_ask_27 0 rfl ?_
      have hs : S_X3_ask v f a b c = ((S_X3_refusal_16 v f 3), v, f) := by unfold S_X3_ask; rw [if_pos c_1, if_neg c_2]
      exact j_iret C hQ rfl dX3_ask_29 (dt_ivf hs)
  · refine j_iconst (x := 1) C dX3_ask_12 (by decide) ?_
    refine j_goto (tgt := 17) C dX3_ask_13 (by decide) ?_
    refine c_V (As := [.ref (ad 16), .int 1]) (rest := []) (st1 := [.int (S_X3_refusal_16 v f 1)]) C (c_X3_refusal_16 ε ad v f u g 1  ) mv_X3_refusal lm_X3_45 dX3_ask_17 15 wl_15 rfl rfl rfl (by decide) (Nat.le_of_ble_eq_true rfl) rfl ?_
    refine j_istore (i := 5) (lv' := [(5, .int (S_X3_refusal_16 v f 1)), (0, .ref (ad 15)), (1, .int a), (2, .int b), (3, .long c)]) C dX3_ask_20 (by decide) rfl ?_
    refine j_iload (i := 5) C dX3_ask_22 0 rfl ?_
    refine j_if_eq (tgt := 30) C dX3_ask_24 (by decide) (fun c_4 => ?_) (fun c_4 => ?_)
    · refine j_aload_n (i := 0) C dX3_ask_30 rfl 1 rfl ?_
      refine g_15_disks C dX3_ask_31 lf_X3_18 ?_
      refine c_V (As := []) (rest := []) (st1 := [.int ((S_X4_lendFirst_16 v f).1)]) C (c_X4_lendFirst_16 ε ad v f u g   ) mv_X4_lendFirst lm_X3_49 dX3_ask_34 16 wl_16 rfl rfl rfl (by decide) (Nat.le_of_ble_eq_true rfl) rfl ?_
      refine j_istore (i := 6) (lv' := [(6, .int ((S_X4_lendFirst_16 v f).1)), (5, .int (S_X3_refusal_16 v f 1)), (0, .ref (ad 15)), (1, .int a), (2, .int b), (3, .long c)]) C dX3_ask_37 (by decide) rfl ?_
      refine j_sipush (x := 1024) C dX3_ask_39 (by decide) ?_
      refine j_bipush (x := 96) C dX3_ask_42 (by decide) ?_
      refine j_iload (i := 6) C dX3_ask_44 0 rfl ?_
      refine j_imul C dX3_ask_46 ?_
      refine j_iadd C dX3_ask_47 ?_
      refine j_istore (i := 7) (lv' := [(7, .int (1024 + (96 * ((S_X4_lendFirst_16 v f).1)))), (6, .int ((S_X4_lendFirst_16 v f).1)), (5, .int (S_X3_refusal_16 v f 1)), (0, .ref (ad 15)), (1, .int a), (2, .int b), (3, .long c)]) C dX3_ask_48 (by decide) rfl ?_
      refine j_aload_n (i := 0) C dX3_ask_50 rfl 3 rfl ?_
      refine g_15_tables (x := (((S_X4_lendFirst_16 v f).2.1) 39)) C dX3_ask_51 lf_X3_32 rfl ?_
      refine j_if_eq (tgt := 103) C dX3_ask_54 (by decide) (fun c_5 => ?_) (fun c_5 => ?_)
      · refine j_aload_n (i := 0) C dX3_ask_103 rfl 3 rfl ?_
        refine g_15_disks C dX3_ask_104 lf_X3_18 ?_
        refine j_iload (i := 6) C dX3_ask_107 1 rfl ?_
        refine c_V (As := [.int ((S_X4_lendFirst_16 v f).1)]) (rest := []) (st1 := [.int (Q_X3_ask_1 v f a b c)]) (ω1 := (WD ε ad (Q_X3_ask_2 v f a b c) (Q_X3_ask_3 v f a b c) u g)) C (c_X4_lendNext_16 ε ad ((S_X4_lendFirst_16 v f).2.1) ((S_X4_lendFirst_16 v f).2.2) u g ((S_X4_lendFirst_16 v f).1)  ) mv_X4_lendNext lm_X3_66 dX3_ask_109 16 wl_16 rfl rfl rfl (by decide) (Nat.le_of_ble_eq_true rfl) rfl ?_
        refine j_istore (i := 8) (lv' := [(8, .int (Q_X3_ask_1 v f a b c)), (7, .int (1024 + (96 * ((S_X4_lendFirst_16 v f).1)))), (6, .int ((S_X4_lendFirst_16 v f).1)), (5, .int (S_X3_refusal_16 v f 1)), (0, .ref (ad 15)), (1, .int a), (2, .int b), (3, .long c)]) C dX3_ask_112 (by decide) rfl ?_
        refine j_aload_n (i := 0) C dX3_ask_114 rfl 4 rfl ?_
        refine g_15_disks C dX3_ask_115 lf_X3_18 ?_
        refine j_iload (i := 6) C dX3_ask_118 2 rfl ?_
        refine c_V (As := [.int ((S_X4_lendFirst_16 v f).1)]) (rest := []) (st1 := [.int (Q_X3_ask_4 v f a b c)]) (ω1 := (WD ε ad (Q_X3_ask_5 v f a b c) (Q_X3_ask_6 v f a b c) u g)) C (c_X4_lendNext_16 ε ad (Q_X3_ask_2 v f a b c) (Q_X3_ask_3 v f a b c) u g ((S_X4_lendFirst_16 v f).1)  ) mv_X4_lendNext lm_X3_66 dX3_ask_120 16 wl_16 rfl rfl rfl (by decide) (Nat.le_of_ble_eq_true rfl) rfl ?_
        refine j_istore (i := 9) (lv' := [(9, .int (Q_X3_ask_4 v f a b c)), (8, .int (Q_X3_ask_1 v f a b c)), (7, .int (1024 + (96 * ((S_X4_lendFirst_16 v f).1)))), (6, .int ((S_X4_lendFirst_16 v f).1)), (5, .int (S_X3_refusal_16 v f 1)), (0, .ref (ad 15)), (1, .int a), (2, .int b), (3, .long c)]) C dX3_ask_123 (by decide) rfl ?_
        refine j_aload_n (i := 0) C dX3_ask_125 rfl 5 rfl ?_
        refine j_iconst (x := 0) C dX3_ask_126 (by decide) ?_
        refine c_SN (As := [.int 0]) (rest := [.ref (ad 15)]) (st1 := [.int (Q_X3_ask_7 v f a b c), .ref (ad 15)]) C (c_X8_descriptorsOf ε ad (Q_X3_ask_5 v f a b c) (Q_X3_ask_6 v f a b c) u g 0  ) mt_X8_descriptorsOf nw_X3_70 dX3_ask_127 rfl rfl (by decide) (Nat.le_of_ble_eq_true rfl) rfl ?_
        refine j_iload (i := 6) C dX3_ask_130 3 rfl ?_
        refine j_iload (i := 8) C dX3_ask_132 1 rfl ?_
        refine j_iload (i := 9) C dX3_ask_134 0 rfl ?_
        refine j_iload (i := 7) C dX3_ask_136 2 rfl ?_
        refine j_iload_n (i := 1) C dX3_ask_138 rfl 6 rfl ?_
        refine c_V (As := [.int (Q_X3_ask_7 v f a b c), .int ((S_X4_lendFirst_16 v f).1), .int (Q_X3_ask_1 v f a b c), .int (Q_X3_ask_4 v f a b c), .int (1024 + (96 * ((S_X4_lendFirst_16 v f).1))), .int a]) (rest := []) (st1 := []) (ω1 := (WD ε ad (Q_X3_ask_5 v f a b c) (Q_X3_ask_8 v f a b c) u g)) C (c_X3_layRequest ε ad (Q_X3_ask_5 v f a b c) (Q_X3_ask_6 v f a b c) u g (Q_X3_ask_7 v f a b c) ((S_X4_lendFirst_16 v f).1) (Q_X3_ask_1 v f a b c) (Q_X3_ask_4 v f a b c) (1024 + (96 * ((S_X4_lendFirst_16 v f).1))) a  ) mv_X3_layRequest lm_X3_62 dX3_ask_139 15 wl_15 rfl rfl rfl (by decide) (Nat.le_of_ble_eq_true rfl) rfl ?_
        refine j_aload_n (i := 0) C dX3_ask_142 rfl 5 rfl ?_
        refine j_iload (i := 7) C dX3_ask_143 2 rfl ?_
        refine j_iload_n (i := 1) C dX3_ask_145 rfl 6 rfl ?_
        refine j_iload_n (i := 2) C dX3_ask_146 rfl 7 rfl ?_
        refine j_lload_n (i := 3) C dX3_ask_147 rfl 8 rfl ?_
        refine c_V (As := [.int (1024 + (96 * ((S_X4_lendFirst_16 v f).1))), .int a, .int b, .long c]) (rest := []) (st1 := []) (ω1 := (WD ε ad (Q_X3_ask_5 v f a b c) (Q_X3_ask_9 v f a b c) u g)) C (c_X3_fillRequest ε ad (Q_X3_ask_5 v f a b c) (Q_X3_ask_8 v f a b c) u g (1024 + (96 * ((S_X4_lendFirst_16 v f).1))) a b c  ) mv_X3_fillRequest lm_X3_73 dX3_ask_148 15 wl_15 rfl rfl rfl (by decide) (Nat.le_of_ble_eq_true rfl) rfl ?_
        refine j_aload_n (i := 0) C dX3_ask_151 rfl 5 rfl ?_
        refine j_iconst (x := 0) C dX3_ask_152 (by decide) ?_
        refine j_iload (i := 6) C dX3_ask_153 3 rfl ?_
        refine c_V (As := [.int 0, .int ((S_X4_lendFirst_16 v f).1)]) (rest := []) (st1 := []) (ω1 := (WD ε ad (Q_X3_ask_10 v f a b c) (Q_X3_ask_11 v f a b c) u g)) C (c_X3_offer_0 ε ad (Q_X3_ask_5 v f a b c) (Q_X3_ask_9 v f a b c) u g ((S_X4_lendFirst_16 v f).1)  ) mv_X3_offer lm_X3_77 dX3_ask_155 15 wl_15 rfl rfl rfl (by decide) (Nat.le_of_ble_eq_true rfl) rfl ?_
        refine j_iload (i := 6) C dX3_ask_158 3 rfl ?_
        have hs : S_X3_ask v f a b c = (((S_X4_lendFirst_16 v f).1), (Q_X3_ask_10 v f a b c), (Q_X3_ask_11 v f a b c)) := by unfold S_X3_ask; rw [if_neg c_1, if_pos c_4, if_pos c_5]
        exact j_iret C hQ rfl dX3_ask_160 (dt_ivf hs)
      · refine j_sipush (x := 1792) C dX3_ask_57 (by decide) ?_
        refine j_bipush (x := 64) C dX3_ask_60 (by decide) ?_
        refine j_iload (i := 6) C dX3_ask_62 1 rfl ?_
        refine j_imul C dX3_ask_64 ?_
        refine j_iadd C dX3_ask_65 ?_
        refine j_istore (i := 8) (lv' := [(8, .int (1792 + (64 * ((S_X4_lendFirst_16 v f).1)))), (7, .int (1024 + (96 * ((S_X4_lendFirst_16 v f).1)))), (6, .int ((S_X4_lendFirst_16 v f).1)), (5, .int (S_X3_refusal_16 v f 1)), (0, .ref (ad 15)), (1, .int a), (2, .int b), (3, .long c)]) C dX3_ask_66 (by decide) rfl ?_
        refine j_aload_n (i := 0) C dX3_ask_68 rfl 4 rfl ?_
        refine g_15_memory C dX3_ask_69 lf_X3_9 ?_
        refine j_aload_n (i := 0) C dX3_ask_72 rfl 4 rfl ?_
        refine j_iconst (x := 0) C dX3_ask_73 (by decide) ?_
        refine j_iload (i := 6) C dX3_ask_74 2 rfl ?_
        refine c_V (As := [.int 0, .int ((S_X4_lendFirst_16 v f).1)]) (rest := [.ref (ad 1)]) (st1 := [.int (Q_X3_ask_12 v f a b c), .ref (ad 1)]) C (c_X3_descriptorAt ε ad ((S_X4_lendFirst_16 v f).2.1) ((S_X4_lendFirst_16 v f).2.2) u g 0 ((S_X4_lendFirst_16 v f).1)  ) mv_X3_descriptorAt lm_X3_52 dX3_ask_76 15 wl_15 rfl rfl rfl (by decide) (Nat.le_of_ble_eq_true rfl) rfl ?_
        refine j_iload (i := 8) C dX3_ask_79 0 rfl ?_
        refine j_bipush (x := 48) C dX3_ask_81 (by decide) ?_
        refine j_iconst (x := 4) C dX3_ask_83 (by decide) ?_
        refine j_iconst (x := 0) C dX3_ask_84 (by decide) ?_
        refine c_V (As := [.int (Q_X3_ask_12 v f a b c), .int (1792 + (64 * ((S_X4_lendFirst_16 v f).1))), .int 48, .int 4, .int 0]) (rest := []) (st1 := []) (ω1 := (WD ε ad ((S_X4_lendFirst_16 v f).2.1) (Q_X3_ask_13 v f a b c) u g)) C (c_X5_setDescriptor ε ad ((S_X4_lendFirst_16 v f).2.1) ((S_X4_lendFirst_16 v f).2.2) u g (Q_X3_ask_12 v f a b c) (1792 + (64 * ((S_X4_lendFirst_16 v f).1))) 48 4 0  ) mv_X5_setDescriptor lm_X3_56 dX3_ask_85 1 wl_1 rfl rfl rfl (by decide) (Nat.le_of_ble_eq_true rfl) rfl ?_
        refine j_aload_n (i := 0) C dX3_ask_88 rfl 4 rfl ?_
        refine j_iload (i := 8) C dX3_ask_89 0 rfl ?_
        refine j_iconst (x := 0) C dX3_ask_91 (by decide) ?_
        refine j_iconst (x := 1) C dX3_ask_92 (by decide) ?_
        refine j_iconst (x := 2) C dX3_ask_93 (by decide) ?_
        refine j_iload (i := 7) C dX3_ask_94 1 rfl ?_
        refine j_iload_n (i := 1) C dX3_ask_96 rfl 5 rfl ?_
        refine c_V (As := [.int (1792 + (64 * ((S_X4_lendFirst_16 v f).1))), .int 0, .int 1, .int 2, .int (1024 + (96 * ((S_X4_lendFirst_16 v f).1))), .int a]) (rest := []) (st1 := []) (ω1 := (WD ε ad ((S_X4_lendFirst_16 v f).2.1) (Q_X3_ask_14 v f a b c) u g)) C (c_X3_layRequest ε ad ((S_X4_lendFirst_16 v f).2.1) (Q_X3_ask_13 v f a b c) u g (1792 + (64 * ((S_X4_lendFirst_16 v f).1))) 0 1 2 (1024 + (96 * ((S_X4_lendFirst_16 v f).1))) a  ) mv_X3_layRequest lm_X3_62 dX3_ask_97 15 wl_15 rfl rfl rfl (by decide) (Nat.le_of_ble_eq_true rfl) rfl ?_
        refine j_goto (tgt := 142) C dX3_ask_100 (by decide) ?_
        refine j_aload_n (i := 0) C dX3_ask_142 rfl 4 rfl ?_
        refine j_iload (i := 7) C dX3_ask_143 1 rfl ?_
        refine j_iload_n (i := 1) C dX3_ask_145 rfl 5 rfl ?_
        refine j_iload_n (i := 2) C dX3_ask_146 rfl 6 rfl ?_
        refine j_lload_n (i := 3) C dX3_ask_147 rfl 7 rfl ?_
        refine c_V (As := [.int (1024 + (96 * ((S_X4_lendFirst_16 v f).1))), .int a, .int b, .long c]) (rest := []) (st1 := []) (ω1 := (WD ε ad ((S_X4_lendFirst_16 v f).2.1) (Q_X3_ask_15 v f a b c) u g)) C (c_X3_fillRequest ε ad ((S_X4_lendFirst_16 v f).2.1) (Q_X3_ask_14 v f a b c) u g (1024 + (96 * ((S_X4_lendFirst_16 v f).1))) a b c  ) mv_X3_fillRequest lm_X3_73 dX3_ask_148 15 wl_15 rfl rfl rfl (by decide) (Nat.le_of_ble_eq_true rfl) rfl ?_
        refine j_aload_n (i := 0) C dX3_ask_151 rfl 4 rfl ?_
        refine j_iconst (x := 0) C dX3_ask_152 (by decide) ?_
        refine j_iload (i := 6) C dX3_ask_153 2 rfl ?_
        refine c_V (As := [.int 0, .int ((S_X4_lendFirst_16 v f).1)]) (rest := []) (st1 := []) (ω1 := (WD ε ad (Q_X3_ask_16 v f a b c) (Q_X3_ask_17 v f a b c) u g)) C (c_X3_offer_0 ε ad ((S_X4_lendFirst_16 v f).2.1) (Q_X3_ask_15 v f a b c) u g ((S_X4_lendFirst_16 v f).1)  ) mv_X3_offer lm_X3_77 dX3_ask_155 15 wl_15 rfl rfl rfl (by decide) (Nat.le_of_ble_eq_true rfl) rfl ?_
        refine j_iload (i := 6) C dX3_ask_158 2 rfl ?_
        have hs : S_X3_ask v f a b c = (((S_X4_lendFirst_16 v f).1), (Q_X3_ask_16 v f a b c), (Q_X3_ask_17 v f a b c)) := by unfold S_X3_ask; rw [if_neg c_1, if_pos c_4, if_neg c_5]
        exact j_iret C hQ rfl dX3_ask_160 (dt_ivf hs)
    · refine j_iload (i := 5) C dX3_ask_27 0 rfl ?_
      have hs : S_X3_ask v f a b c = ((S_X3_refusal_16 v f 1), v, f) := by unfold S_X3_ask; rw [if_neg c_1, if_neg c_4]
      exact j_iret C hQ rfl dX3_ask_29 (dt_ivf hs)

def Q_X3_letGo_1 (v : Nat → Int32) (f : Nat → Nat → Int32) (a : Int32) (b : Int64) : Int32 := ((S_X4_lendNext_20 ((S_X4_lendFirst_20 v f).2.1) ((S_X4_lendFirst_20 v f).2.2) ((S_X4_lendFirst_20 v f).1)).1)
def Q_X3_letGo_2 (v : Nat → Int32) (f : Nat → Nat → Int32) (a : Int32) (b : Int64) : (Nat → Int32) := ((S_X4_lendNext_20 ((S_X4_lendFirst_20 v f).2.1) ((S_X4_lendFirst_20 v f).2.2) ((S_X4_lendFirst_20 v f).1)).2.1)
def Q_X3_letGo_3 (v : Nat → Int32) (f : Nat → Nat → Int32) (a : Int32) (b : Int64) : (Nat → Nat → Int32) := ((S_X4_lendNext_20 ((S_X4_lendFirst_20 v f).2.1) ((S_X4_lendFirst_20 v f).2.2) ((S_X4_lendFirst_20 v f).1)).2.2)
def Q_X3_letGo_4 (v : Nat → Int32) (f : Nat → Nat → Int32) (a : Int32) (b : Int64) : Int32 := (S_X3_descriptorAt (Q_X3_letGo_2 v f a b) (Q_X3_letGo_3 v f a b) 2 ((S_X4_lendFirst_20 v f).1))
def Q_X3_letGo_5 (v : Nat → Int32) (f : Nat → Nat → Int32) (a : Int32) (b : Int64) : (Nat → Nat → Int32) := (S_X5_setDescriptor (Q_X3_letGo_2 v f a b) (Q_X3_letGo_3 v f a b) (Q_X3_letGo_4 v f a b) (2304 + (96 * ((S_X4_lendFirst_20 v f).1))) 12 1 (Q_X3_letGo_1 v f a b))
def Q_X3_letGo_6 (v : Nat → Int32) (f : Nat → Nat → Int32) (a : Int32) (b : Int64) : Int32 := (S_X3_descriptorAt (Q_X3_letGo_2 v f a b) (Q_X3_letGo_5 v f a b) 2 (Q_X3_letGo_1 v f a b))
def Q_X3_letGo_7 (v : Nat → Int32) (f : Nat → Nat → Int32) (a : Int32) (b : Int64) : (Nat → Nat → Int32) := (S_X5_setDescriptor (Q_X3_letGo_2 v f a b) (Q_X3_letGo_5 v f a b) (Q_X3_letGo_6 v f a b) ((2304 + (96 * ((S_X4_lendFirst_20 v f).1))) + 12) a 0 0)
def Q_X3_letGo_8 (v : Nat → Int32) (f : Nat → Nat → Int32) (a : Int32) (b : Int64) : (Nat → Nat → Int32) := (S_X5_setNumber (Q_X3_letGo_2 v f a b) (Q_X3_letGo_7 v f a b) (2304 + (96 * ((S_X4_lendFirst_20 v f).1))) 0 8)
def Q_X3_letGo_9 (v : Nat → Int32) (f : Nat → Nat → Int32) (a : Int32) (b : Int64) : (Nat → Nat → Int32) := (S_X5_setNumber (Q_X3_letGo_2 v f a b) (Q_X3_letGo_8 v f a b) ((2304 + (96 * ((S_X4_lendFirst_20 v f).1))) + 8) 0 4)
def Q_X3_letGo_10 (v : Nat → Int32) (f : Nat → Nat → Int32) (a : Int32) (b : Int64) : (Nat → Nat → Int32) := (S_X3_fillPattern (Q_X3_letGo_2 v f a b) (Q_X3_letGo_9 v f a b) ((2304 + (96 * ((S_X4_lendFirst_20 v f).1))) + 12) a b)
def Q_X3_letGo_11 (v : Nat → Int32) (f : Nat → Nat → Int32) (a : Int32) (b : Int64) : (Nat → Int32) := ((S_X3_offer_2 (Q_X3_letGo_2 v f a b) (Q_X3_letGo_10 v f a b) ((S_X4_lendFirst_20 v f).1)).1)
def Q_X3_letGo_12 (v : Nat → Int32) (f : Nat → Nat → Int32) (a : Int32) (b : Int64) : (Nat → Nat → Int32) := ((S_X3_offer_2 (Q_X3_letGo_2 v f a b) (Q_X3_letGo_10 v f a b) ((S_X4_lendFirst_20 v f).1)).2)
def S_X3_letGo (v : Nat → Int32) (f : Nat → Nat → Int32) (a : Int32) (b : Int64) : Int32 × (Nat → Int32) × (Nat → Nat → Int32) :=
  if (S_X3_refusal_20 v f 2) = 0 then (((S_X4_lendFirst_20 v f).1), (Q_X3_letGo_11 v f a b), (Q_X3_letGo_12 v f a b))
  else ((S_X3_refusal_20 v f 2), v, f)
set_option maxHeartbeats 1000000 in
set_option maxRecDepth 100000 in
theorem c_X3_letGo (ε : ET) (ad : Nat → Nat) (v : Nat → Int32) (f : Nat → Nat → Int32) (u : Nat → Int32) (g : Nat → Nat → Int32) (a : Int32) (b : Int64)  : CT ε yX3_letGo cX3_letGo 8 (some .int) 3 72 0 0 [.ref (ad 15), .int a, .long b] (WD ε ad v f u g) (DT (some (.int ((S_X3_letGo v f a b).1))) (WD ε ad ((S_X3_letGo v f a b).2.1) ((S_X3_letGo v f a b).2.2) u g)) := by
  refine CT.of (own := RX3) (by decide) rfl (Nat.le_of_ble_eq_true rfl) (fun κ C hQ => ?_)
  refine j_aload_n (i := 0) C dX3_letGo_0 rfl 0 rfl ?_
  refine j_aload_n (i := 0) C dX3_letGo_1 rfl 0 rfl ?_
  refine g_15_goes C dX3_letGo_2 lf_X3_25 ?_
  refine j_iconst (x := 2) C dX3_letGo_5 (by decide) ?_
  refine c_V (As := [.ref (ad 20), .int 2]) (rest := []) (st1 := [.int (S_X3_refusal_20 v f 2)]) C (c_X3_refusal_20 ε ad v f u g 2  ) mv_X3_refusal lm_X3_45 dX3_letGo_6 15 wl_15 rfl rfl rfl (by decide) (Nat.le_of_ble_eq_true rfl) rfl ?_
  refine j_istore (i := 4) (lv' := [(4, .int (S_X3_refusal_20 v f 2)), (0, .ref (ad 15)), (1, .int a), (2, .long b)]) C dX3_letGo_9 (by decide) rfl ?_
  refine j_iload (i := 4) C dX3_letGo_11 0 rfl ?_
  refine j_if_eq (tgt := 19) C dX3_letGo_13 (by decide) (fun c_1 => ?_) (fun c_1 => ?_)
  · refine j_aload_n (i := 0) C dX3_letGo_19 rfl 1 rfl ?_
    refine g_15_goes C dX3_letGo_20 lf_X3_25 ?_
    refine c_V (As := []) (rest := []) (st1 := [.int ((S_X4_lendFirst_20 v f).1)]) C (c_X4_lendFirst_20 ε ad v f u g   ) mv_X4_lendFirst lm_X3_49 dX3_letGo_23 20 wl_20 rfl rfl rfl (by decide) (Nat.le_of_ble_eq_true rfl) rfl ?_
    refine j_istore (i := 5) (lv' := [(5, .int ((S_X4_lendFirst_20 v f).1)), (4, .int (S_X3_refusal_20 v f 2)), (0, .ref (ad 15)), (1, .int a), (2, .long b)]) C dX3_letGo_26 (by decide) rfl ?_
    refine j_aload_n (i := 0) C dX3_letGo_28 rfl 2 rfl ?_
    refine g_15_goes C dX3_letGo_29 lf_X3_25 ?_
    refine j_iload (i := 5) C dX3_letGo_32 0 rfl ?_
    refine c_V (As := [.int ((S_X4_lendFirst_20 v f).1)]) (rest := []) (st1 := [.int (Q_X3_letGo_1 v f a b)]) (ω1 := (WD ε ad (Q_X3_letGo_2 v f a b) (Q_X3_letGo_3 v f a b) u g)) C (c_X4_lendNext_20 ε ad ((S_X4_lendFirst_20 v f).2.1) ((S_X4_lendFirst_20 v f).2.2) u g ((S_X4_lendFirst_20 v f).1)  ) mv_X4_lendNext lm_X3_66 dX3_letGo_34 20 wl_20 rfl rfl rfl (by decide) (Nat.le_of_ble_eq_true rfl) rfl ?_
    refine j_istore (i := 6) (lv' := [(6, .int (Q_X3_letGo_1 v f a b)), (5, .int ((S_X4_lendFirst_20 v f).1)), (4, .int (S_X3_refusal_20 v f 2)), (0, .ref (ad 15)), (1, .int a), (2, .long b)]) C dX3_letGo_37 (by decide) rfl ?_
    refine j_sipush (x := 2304) C dX3_letGo_39 (by decide) ?_
    refine j_bipush (x := 96) C dX3_letGo_42 (by decide) ?_
    refine j_iload (i := 5) C dX3_letGo_44 1 rfl ?_
    refine j_imul C dX3_letGo_46 ?_
    refine j_iadd C dX3_letGo_47 ?_
    refine j_istore (i := 7) (lv' := [(7, .int (2304 + (96 * ((S_X4_lendFirst_20 v f).1)))), (6, .int (Q_X3_letGo_1 v f a b)), (5, .int ((S_X4_lendFirst_20 v f).1)), (4, .int (S_X3_refusal_20 v f 2)), (0, .ref (ad 15)), (1, .int a), (2, .long b)]) C dX3_letGo_48 (by decide) rfl ?_
    refine j_aload_n (i := 0) C dX3_letGo_50 rfl 4 rfl ?_
    refine g_15_memory C dX3_letGo_51 lf_X3_9 ?_
    refine j_aload_n (i := 0) C dX3_letGo_54 rfl 4 rfl ?_
    refine j_iconst (x := 2) C dX3_letGo_55 (by decide) ?_
    refine j_iload (i := 5) C dX3_letGo_56 2 rfl ?_
    refine c_V (As := [.int 2, .int ((S_X4_lendFirst_20 v f).1)]) (rest := [.ref (ad 1)]) (st1 := [.int (Q_X3_letGo_4 v f a b), .ref (ad 1)]) C (c_X3_descriptorAt ε ad (Q_X3_letGo_2 v f a b) (Q_X3_letGo_3 v f a b) u g 2 ((S_X4_lendFirst_20 v f).1)  ) mv_X3_descriptorAt lm_X3_52 dX3_letGo_58 15 wl_15 rfl rfl rfl (by decide) (Nat.le_of_ble_eq_true rfl) rfl ?_
    refine j_iload (i := 7) C dX3_letGo_61 0 rfl ?_
    refine j_bipush (x := 12) C dX3_letGo_63 (by decide) ?_
    refine j_iconst (x := 1) C dX3_letGo_65 (by decide) ?_
    refine j_iload (i := 6) C dX3_letGo_66 1 rfl ?_
    refine c_V (As := [.int (Q_X3_letGo_4 v f a b), .int (2304 + (96 * ((S_X4_lendFirst_20 v f).1))), .int 12, .int 1, .int (Q_X3_letGo_1 v f a b)]) (rest := []) (st1 := []) (ω1 := (WD ε ad (Q_X3_letGo_2 v f a b) (Q_X3_letGo_5 v f a b) u g)) C (c_X5_setDescriptor ε ad (Q_X3_letGo_2 v f a b) (Q_X3_letGo_3 v f a b) u g (Q_X3_letGo_4 v f a b) (2304 + (96 * ((S_X4_lendFirst_20 v f).1))) 12 1 (Q_X3_letGo_1 v f a b)  ) mv_X5_setDescriptor lm_X3_56 dX3_letGo_68 1 wl_1 rfl rfl rfl (by decide) (Nat.le_of_ble_eq_true rfl) rfl ?_
    refine j_aload_n (i := 0) C dX3_letGo_71 rfl 4 rfl ?_
    refine g_15_memory C dX3_letGo_72 lf_X3_9 ?_
    refine j_aload_n (i := 0) C dX3_letGo_75 rfl 4 rfl ?_
    refine j_iconst (x := 2) C dX3_letGo_76 (by decide) ?_
    refine j_iload (i := 6) C dX3_letGo_77 1 rfl ?_
    refine c_V (As := [.int 2, .int (Q_X3_letGo_1 v f a b)]) (rest := [.ref (ad 1)]) (st1 := [.int (Q_X3_letGo_6 v f a b), .ref (ad 1)]) C (c_X3_descriptorAt ε ad (Q_X3_letGo_2 v f a b) (Q_X3_letGo_5 v f a b) u g 2 (Q_X3_letGo_1 v f a b)  ) mv_X3_descriptorAt lm_X3_52 dX3_letGo_79 15 wl_15 rfl rfl rfl (by decide) (Nat.le_of_ble_eq_true rfl) rfl ?_
    refine j_iload (i := 7) C dX3_letGo_82 0 rfl ?_
    refine j_bipush (x := 12) C dX3_letGo_84 (by decide) ?_
    refine j_iadd C dX3_letGo_86 ?_
    refine j_iload_n (i := 1) C dX3_letGo_87 rfl 5 rfl ?_
    refine j_iconst (x := 0) C dX3_letGo_88 (by decide) ?_
    refine j_iconst (x := 0) C dX3_letGo_89 (by decide) ?_
    refine c_V (As := [.int (Q_X3_letGo_6 v f a b), .int ((2304 + (96 * ((S_X4_lendFirst_20 v f).1))) + 12), .int a, .int 0, .int 0]) (rest := []) (st1 := []) (ω1 := (WD ε ad (Q_X3_letGo_2 v f a b) (Q_X3_letGo_7 v f a b) u g)) C (c_X5_setDescriptor ε ad (Q_X3_letGo_2 v f a b) (Q_X3_letGo_5 v f a b) u g (Q_X3_letGo_6 v f a b) ((2304 + (96 * ((S_X4_lendFirst_20 v f).1))) + 12) a 0 0  ) mv_X5_setDescriptor lm_X3_56 dX3_letGo_90 1 wl_1 rfl rfl rfl (by decide) (Nat.le_of_ble_eq_true rfl) rfl ?_
    refine j_aload_n (i := 0) C dX3_letGo_93 rfl 4 rfl ?_
    refine g_15_memory C dX3_letGo_94 lf_X3_9 ?_
    refine j_iload (i := 7) C dX3_letGo_97 0 rfl ?_
    refine j_bipush (x := 8) C dX3_letGo_99 (by decide) ?_
    refine j_lconst (x := 0) C dX3_letGo_101 (by decide) ?_
    refine c_V (As := [.int (2304 + (96 * ((S_X4_lendFirst_20 v f).1))), .int 8, .long 0]) (rest := []) (st1 := []) (ω1 := (WD ε ad (Q_X3_letGo_2 v f a b) (Q_X3_letGo_8 v f a b) u g)) C (c_X5_setNumber ε ad (Q_X3_letGo_2 v f a b) (Q_X3_letGo_7 v f a b) u g (2304 + (96 * ((S_X4_lendFirst_20 v f).1))) 0 8  (by first | assumption | omega | decide)) mv_X5_setNumber lm_X3_81 dX3_letGo_102 1 wl_1 rfl rfl rfl (by decide) (Nat.le_of_ble_eq_true rfl) rfl ?_
    refine j_aload_n (i := 0) C dX3_letGo_105 rfl 4 rfl ?_
    refine g_15_memory C dX3_letGo_106 lf_X3_9 ?_
    refine j_iload (i := 7) C dX3_letGo_109 0 rfl ?_
    refine j_bipush (x := 8) C dX3_letGo_111 (by decide) ?_
    refine j_iadd C dX3_letGo_113 ?_
    refine j_iconst (x := 4) C dX3_letGo_114 (by decide) ?_
    refine j_lconst (x := 0) C dX3_letGo_115 (by decide) ?_
    refine c_V (As := [.int ((2304 + (96 * ((S_X4_lendFirst_20 v f).1))) + 8), .int 4, .long 0]) (rest := []) (st1 := []) (ω1 := (WD ε ad (Q_X3_letGo_2 v f a b) (Q_X3_letGo_9 v f a b) u g)) C (c_X5_setNumber ε ad (Q_X3_letGo_2 v f a b) (Q_X3_letGo_8 v f a b) u g ((2304 + (96 * ((S_X4_lendFirst_20 v f).1))) + 8) 0 4  (by first | assumption | omega | decide)) mv_X5_setNumber lm_X3_81 dX3_letGo_116 1 wl_1 rfl rfl rfl (by decide) (Nat.le_of_ble_eq_true rfl) rfl ?_
    refine j_aload_n (i := 0) C dX3_letGo_119 rfl 4 rfl ?_
    refine j_iload (i := 7) C dX3_letGo_120 0 rfl ?_
    refine j_bipush (x := 12) C dX3_letGo_122 (by decide) ?_
    refine j_iadd C dX3_letGo_124 ?_
    refine j_iload_n (i := 1) C dX3_letGo_125 rfl 5 rfl ?_
    refine j_lload_n (i := 2) C dX3_letGo_126 rfl 6 rfl ?_
    refine c_V (As := [.int ((2304 + (96 * ((S_X4_lendFirst_20 v f).1))) + 12), .int a, .long b]) (rest := []) (st1 := []) (ω1 := (WD ε ad (Q_X3_letGo_2 v f a b) (Q_X3_letGo_10 v f a b) u g)) C (c_X3_fillPattern ε ad (Q_X3_letGo_2 v f a b) (Q_X3_letGo_9 v f a b) u g ((2304 + (96 * ((S_X4_lendFirst_20 v f).1))) + 12) a b  ) mv_X3_fillPattern lm_X3_85 dX3_letGo_127 15 wl_15 rfl rfl rfl (by decide) (Nat.le_of_ble_eq_true rfl) rfl ?_
    refine j_aload_n (i := 0) C dX3_letGo_130 rfl 4 rfl ?_
    refine j_iconst (x := 2) C dX3_letGo_131 (by decide) ?_
    refine j_iload (i := 5) C dX3_letGo_132 2 rfl ?_
    refine c_V (As := [.int 2, .int ((S_X4_lendFirst_20 v f).1)]) (rest := []) (st1 := []) (ω1 := (WD ε ad (Q_X3_letGo_11 v f a b) (Q_X3_letGo_12 v f a b) u g)) C (c_X3_offer_2 ε ad (Q_X3_letGo_2 v f a b) (Q_X3_letGo_10 v f a b) u g ((S_X4_lendFirst_20 v f).1)  ) mv_X3_offer lm_X3_77 dX3_letGo_134 15 wl_15 rfl rfl rfl (by decide) (Nat.le_of_ble_eq_true rfl) rfl ?_
    refine j_iload (i := 5) C dX3_letGo_137 2 rfl ?_
    have hs : S_X3_letGo v f a b = (((S_X4_lendFirst_20 v f).1), (Q_X3_letGo_11 v f a b), (Q_X3_letGo_12 v f a b)) := by unfold S_X3_letGo; rw [if_pos c_1]
    exact j_iret C hQ rfl dX3_letGo_139 (dt_ivf hs)
  · refine j_iload (i := 4) C dX3_letGo_16 0 rfl ?_
    have hs : S_X3_letGo v f a b = ((S_X3_refusal_20 v f 2), v, f) := by unfold S_X3_letGo; rw [if_neg c_1]
    exact j_iret C hQ rfl dX3_letGo_18 (dt_ivf hs)

def Q_X3_lendBuffer_1 (v : Nat → Int32) (f : Nat → Nat → Int32) : Int32 := (S_X3_descriptorAt ((S_X4_lendFirst_18 v f).2.1) ((S_X4_lendFirst_18 v f).2.2) 1 ((S_X4_lendFirst_18 v f).1))
def Q_X3_lendBuffer_2 (v : Nat → Int32) (f : Nat → Nat → Int32) : (Nat → Nat → Int32) := (S_X5_setDescriptor ((S_X4_lendFirst_18 v f).2.1) ((S_X4_lendFirst_18 v f).2.2) (Q_X3_lendBuffer_1 v f) (3072 + (96 * ((S_X4_lendFirst_18 v f).1))) 92 2 0)
def Q_X3_lendBuffer_3 (v : Nat → Int32) (f : Nat → Nat → Int32) : (Nat → Int32) := ((S_X3_offer_1 ((S_X4_lendFirst_18 v f).2.1) (Q_X3_lendBuffer_2 v f) ((S_X4_lendFirst_18 v f).1)).1)
def Q_X3_lendBuffer_4 (v : Nat → Int32) (f : Nat → Nat → Int32) : (Nat → Nat → Int32) := ((S_X3_offer_1 ((S_X4_lendFirst_18 v f).2.1) (Q_X3_lendBuffer_2 v f) ((S_X4_lendFirst_18 v f).1)).2)
def S_X3_lendBuffer (v : Nat → Int32) (f : Nat → Nat → Int32)  : Int32 × (Nat → Int32) × (Nat → Nat → Int32) :=
  if (S_X3_refusal_18 v f 1) = 0 then (((S_X4_lendFirst_18 v f).1), (Q_X3_lendBuffer_3 v f), (Q_X3_lendBuffer_4 v f))
  else ((S_X3_refusal_18 v f 1), v, f)
set_option maxHeartbeats 1000000 in
set_option maxRecDepth 100000 in
theorem c_X3_lendBuffer (ε : ET) (ad : Nat → Nat) (v : Nat → Int32) (f : Nat → Nat → Int32) (u : Nat → Int32) (g : Nat → Nat → Int32)   : CT ε yX3_lendBuffer cX3_lendBuffer 4 (some .int) 3 72 0 0 [.ref (ad 15)] (WD ε ad v f u g) (DT (some (.int ((S_X3_lendBuffer v f).1))) (WD ε ad ((S_X3_lendBuffer v f).2.1) ((S_X3_lendBuffer v f).2.2) u g)) := by
  refine CT.of (own := RX3) (by decide) rfl (Nat.le_of_ble_eq_true rfl) (fun κ C hQ => ?_)
  refine j_aload_n (i := 0) C dX3_lendBuffer_0 rfl 0 rfl ?_
  refine j_aload_n (i := 0) C dX3_lendBuffer_1 rfl 0 rfl ?_
  refine g_15_comes C dX3_lendBuffer_2 lf_X3_22 ?_
  refine j_iconst (x := 1) C dX3_lendBuffer_5 (by decide) ?_
  refine c_V (As := [.ref (ad 18), .int 1]) (rest := []) (st1 := [.int (S_X3_refusal_18 v f 1)]) C (c_X3_refusal_18 ε ad v f u g 1  ) mv_X3_refusal lm_X3_45 dX3_lendBuffer_6 15 wl_15 rfl rfl rfl (by decide) (Nat.le_of_ble_eq_true rfl) rfl ?_
  refine j_istore_n (i := 1) (lv' := [(1, .int (S_X3_refusal_18 v f 1)), (0, .ref (ad 15))]) C dX3_lendBuffer_9 rfl (by decide) rfl ?_
  refine j_iload_n (i := 1) C dX3_lendBuffer_10 rfl 0 rfl ?_
  refine j_if_eq (tgt := 16) C dX3_lendBuffer_11 (by decide) (fun c_1 => ?_) (fun c_1 => ?_)
  · refine j_aload_n (i := 0) C dX3_lendBuffer_16 rfl 1 rfl ?_
    refine g_15_comes C dX3_lendBuffer_17 lf_X3_22 ?_
    refine c_V (As := []) (rest := []) (st1 := [.int ((S_X4_lendFirst_18 v f).1)]) C (c_X4_lendFirst_18 ε ad v f u g   ) mv_X4_lendFirst lm_X3_49 dX3_lendBuffer_20 18 wl_18 rfl rfl rfl (by decide) (Nat.le_of_ble_eq_true rfl) rfl ?_
    refine j_istore_n (i := 2) (lv' := [(2, .int ((S_X4_lendFirst_18 v f).1)), (1, .int (S_X3_refusal_18 v f 1)), (0, .ref (ad 15))]) C dX3_lendBuffer_23 rfl (by decide) rfl ?_
    refine j_sipush (x := 3072) C dX3_lendBuffer_24 (by decide) ?_
    refine j_bipush (x := 96) C dX3_lendBuffer_27 (by decide) ?_
    refine j_iload_n (i := 2) C dX3_lendBuffer_29 rfl 0 rfl ?_
    refine j_imul C dX3_lendBuffer_30 ?_
    refine j_iadd C dX3_lendBuffer_31 ?_
    refine j_istore_n (i := 3) (lv' := [(3, .int (3072 + (96 * ((S_X4_lendFirst_18 v f).1)))), (2, .int ((S_X4_lendFirst_18 v f).1)), (1, .int (S_X3_refusal_18 v f 1)), (0, .ref (ad 15))]) C dX3_lendBuffer_32 rfl (by decide) rfl ?_
    refine j_aload_n (i := 0) C dX3_lendBuffer_33 rfl 3 rfl ?_
    refine g_15_memory C dX3_lendBuffer_34 lf_X3_9 ?_
    refine j_aload_n (i := 0) C dX3_lendBuffer_37 rfl 3 rfl ?_
    refine j_iconst (x := 1) C dX3_lendBuffer_38 (by decide) ?_
    refine j_iload_n (i := 2) C dX3_lendBuffer_39 rfl 1 rfl ?_
    refine c_V (As := [.int 1, .int ((S_X4_lendFirst_18 v f).1)]) (rest := [.ref (ad 1)]) (st1 := [.int (Q_X3_lendBuffer_1 v f), .ref (ad 1)]) C (c_X3_descriptorAt ε ad ((S_X4_lendFirst_18 v f).2.1) ((S_X4_lendFirst_18 v f).2.2) u g 1 ((S_X4_lendFirst_18 v f).1)  ) mv_X3_descriptorAt lm_X3_52 dX3_lendBuffer_40 15 wl_15 rfl rfl rfl (by decide) (Nat.le_of_ble_eq_true rfl) rfl ?_
    refine j_iload_n (i := 3) C dX3_lendBuffer_43 rfl 0 rfl ?_
    refine j_bipush (x := 92) C dX3_lendBuffer_44 (by decide) ?_
    refine j_iconst (x := 2) C dX3_lendBuffer_46 (by decide) ?_
    refine j_iconst (x := 0) C dX3_lendBuffer_47 (by decide) ?_
    refine c_V (As := [.int (Q_X3_lendBuffer_1 v f), .int (3072 + (96 * ((S_X4_lendFirst_18 v f).1))), .int 92, .int 2, .int 0]) (rest := []) (st1 := []) (ω1 := (WD ε ad ((S_X4_lendFirst_18 v f).2.1) (Q_X3_lendBuffer_2 v f) u g)) C (c_X5_setDescriptor ε ad ((S_X4_lendFirst_18 v f).2.1) ((S_X4_lendFirst_18 v f).2.2) u g (Q_X3_lendBuffer_1 v f) (3072 + (96 * ((S_X4_lendFirst_18 v f).1))) 92 2 0  ) mv_X5_setDescriptor lm_X3_56 dX3_lendBuffer_48 1 wl_1 rfl rfl rfl (by decide) (Nat.le_of_ble_eq_true rfl) rfl ?_
    refine j_aload_n (i := 0) C dX3_lendBuffer_51 rfl 3 rfl ?_
    refine j_iconst (x := 1) C dX3_lendBuffer_52 (by decide) ?_
    refine j_iload_n (i := 2) C dX3_lendBuffer_53 rfl 1 rfl ?_
    refine c_V (As := [.int 1, .int ((S_X4_lendFirst_18 v f).1)]) (rest := []) (st1 := []) (ω1 := (WD ε ad (Q_X3_lendBuffer_3 v f) (Q_X3_lendBuffer_4 v f) u g)) C (c_X3_offer_1 ε ad ((S_X4_lendFirst_18 v f).2.1) (Q_X3_lendBuffer_2 v f) u g ((S_X4_lendFirst_18 v f).1)  ) mv_X3_offer lm_X3_77 dX3_lendBuffer_54 15 wl_15 rfl rfl rfl (by decide) (Nat.le_of_ble_eq_true rfl) rfl ?_
    refine j_iload_n (i := 2) C dX3_lendBuffer_57 rfl 1 rfl ?_
    have hs : S_X3_lendBuffer v f = (((S_X4_lendFirst_18 v f).1), (Q_X3_lendBuffer_3 v f), (Q_X3_lendBuffer_4 v f)) := by unfold S_X3_lendBuffer; rw [if_pos c_1]
    exact j_iret C hQ rfl dX3_lendBuffer_58 (dt_ivf hs)
  · refine j_iload_n (i := 1) C dX3_lendBuffer_14 rfl 0 rfl ?_
    have hs : S_X3_lendBuffer v f = ((S_X3_refusal_18 v f 1), v, f) := by unfold S_X3_lendBuffer; rw [if_neg c_1]
    exact j_iret C hQ rfl dX3_lendBuffer_15 (dt_ivf hs)

def Q_X3_collectOne_0_1 (v : Nat → Int32) (f : Nat → Nat → Int32) : Int64 := (S_X5_number (upd v 43 (S_X8_oneMore v f (v 43))) f (((S_X8_usedOf v f 0) + 4) + (8 * ((v 43) - (v 43) / 8 * 8))) 4)
def Q_X3_collectOne_0_2 (v : Nat → Int32) (f : Nat → Nat → Int32) : Int32 := ((S_X4_takeBack_16 (upd v 43 (S_X8_oneMore v f (v 43))) f (Q_X3_collectOne_0_1 v f)).1)
def Q_X3_collectOne_0_3 (v : Nat → Int32) (f : Nat → Nat → Int32) : (Nat → Int32) := ((S_X4_takeBack_16 (upd v 43 (S_X8_oneMore v f (v 43))) f (Q_X3_collectOne_0_1 v f)).2.1)
def Q_X3_collectOne_0_4 (v : Nat → Int32) (f : Nat → Nat → Int32) : (Nat → Nat → Int32) := ((S_X4_takeBack_16 (upd v 43 (S_X8_oneMore v f (v 43))) f (Q_X3_collectOne_0_1 v f)).2.2)
def Q_X3_collectOne_0_5 (v : Nat → Int32) (f : Nat → Nat → Int32) : Int64 := (S_X5_number (Q_X3_collectOne_0_3 v f) (Q_X3_collectOne_0_4 v f) ((((S_X8_usedOf v f 0) + 4) + (8 * ((v 43) - (v 43) / 8 * 8))) + 4) 4)
def S_X3_collectOne_0 (v : Nat → Int32) (f : Nat → Nat → Int32)  : Int32 × (Nat → Int32) × (Nat → Nat → Int32) :=
  if (v 40) = 0 then ((-4), v, f)
  else if (S_X5_two v f ((S_X8_usedOf v f 0) + 2)) = (v 43) then ((-1), v, f)
    else if (Q_X3_collectOne_0_2 v f) = 0 then ((-3), (Q_X3_collectOne_0_3 v f), (Q_X3_collectOne_0_4 v f))
      else ((((Q_X3_collectOne_0_1 v f) : Int64).toInt32), (upd (Q_X3_collectOne_0_3 v f) 44 ((((Q_X3_collectOne_0_5 v f) : Int64).toInt32) &&& 2147483647)), (Q_X3_collectOne_0_4 v f))
set_option maxHeartbeats 1000000 in
set_option maxRecDepth 100000 in
theorem c_X3_collectOne_0 (ε : ET) (ad : Nat → Nat) (v : Nat → Int32) (f : Nat → Nat → Int32) (u : Nat → Int32) (g : Nat → Nat → Int32)   : CT ε yX3_collectOne cX3_collectOne 7 (some .int) 2 46 0 0 [.ref (ad 15), .int 0] (WD ε ad v f u g) (DT (some (.int ((S_X3_collectOne_0 v f).1))) (WD ε ad ((S_X3_collectOne_0 v f).2.1) ((S_X3_collectOne_0 v f).2.2) u g)) := by
  refine CT.of (own := RX3) (by decide) rfl (Nat.le_of_ble_eq_true rfl) (fun κ C hQ => ?_)
  refine j_aload_n (i := 0) C dX3_collectOne_0 rfl 0 rfl ?_
  refine g_15_started (x := (v 40)) C dX3_collectOne_1 lf_X3_28 rfl ?_
  refine j_if_ne (tgt := 10) C dX3_collectOne_4 (by decide) (fun c_1 => ?_) (fun c_1 => ?_)
  · refine j_aload_n (i := 0) C dX3_collectOne_10 rfl 0 rfl ?_
    refine j_iload_n (i := 1) C dX3_collectOne_11 rfl 1 rfl ?_
    refine c_V (As := [.int 0]) (rest := []) (st1 := [.ref (ad 16)]) C (c_X3_loansOf_0 ε ad v f u g   ) mv_X3_loansOf lm_X3_95 dX3_collectOne_12 15 wl_15 rfl rfl rfl (by decide) (Nat.le_of_ble_eq_true rfl) rfl ?_
    refine j_astore_n (i := 2) (lv' := [(2, .ref (ad 16)), (0, .ref (ad 15)), (1, .int 0)]) C dX3_collectOne_15 rfl (by decide) rfl ?_
    refine j_iload_n (i := 1) C dX3_collectOne_16 rfl 2 rfl ?_
    refine c_SN (As := [.int 0]) (rest := []) (st1 := [.int (S_X8_usedOf v f 0)]) C (c_X8_usedOf ε ad v f u g 0  ) mt_X8_usedOf nw_X3_109 dX3_collectOne_17 rfl rfl (by decide) (Nat.le_of_ble_eq_true rfl) rfl ?_
    refine j_istore_n (i := 3) (lv' := [(3, .int (S_X8_usedOf v f 0)), (2, .ref (ad 16)), (0, .ref (ad 15)), (1, .int 0)]) C dX3_collectOne_20 rfl (by decide) rfl ?_
    refine j_aload_n (i := 0) C dX3_collectOne_21 rfl 2 rfl ?_
    refine g_15_memory C dX3_collectOne_22 lf_X3_9 ?_
    refine j_iload_n (i := 3) C dX3_collectOne_25 rfl 0 rfl ?_
    refine j_iconst (x := 2) C dX3_collectOne_26 (by decide) ?_
    refine j_iadd C dX3_collectOne_27 ?_
    refine c_V (As := [.int ((S_X8_usedOf v f 0) + 2)]) (rest := []) (st1 := [.int (S_X5_two v f ((S_X8_usedOf v f 0) + 2))]) C (c_X5_two ε ad v f u g ((S_X8_usedOf v f 0) + 2)  ) mv_X5_two lm_X3_112 dX3_collectOne_28 1 wl_1 rfl rfl rfl (by decide) (Nat.le_of_ble_eq_true rfl) rfl ?_
    refine j_aload_n (i := 2) C dX3_collectOne_31 rfl 1 rfl ?_
    refine g_16_saw (x := (v 43)) C dX3_collectOne_32 lf_X3_115 rfl ?_
    refine j_icmp_ne (tgt := 40) C dX3_collectOne_35 (by decide) (fun c_2 => ?_) (fun c_2 => ?_)
    · refine j_iload_n (i := 3) C dX3_collectOne_40 rfl 0 rfl ?_
      refine j_iconst (x := 4) C dX3_collectOne_41 (by decide) ?_
      refine j_iadd C dX3_collectOne_42 ?_
      refine j_bipush (x := 8) C dX3_collectOne_43 (by decide) ?_
      refine j_aload_n (i := 2) C dX3_collectOne_45 rfl 1 rfl ?_
      refine g_16_saw (x := (v 43)) C dX3_collectOne_46 lf_X3_115 rfl ?_
      refine j_bipush (x := 8) C dX3_collectOne_49 (by decide) ?_
      refine j_irem C dX3_collectOne_51 (by decide) ?_
      refine j_imul C dX3_collectOne_52 ?_
      refine j_iadd C dX3_collectOne_53 ?_
      refine j_istore (i := 4) (lv' := [(4, .int (((S_X8_usedOf v f 0) + 4) + (8 * ((v 43) - (v 43) / 8 * 8)))), (3, .int (S_X8_usedOf v f 0)), (2, .ref (ad 16)), (0, .ref (ad 15)), (1, .int 0)]) C dX3_collectOne_54 (by decide) rfl ?_
      refine j_aload_n (i := 2) C dX3_collectOne_56 rfl 2 rfl ?_
      refine j_aload_n (i := 2) C dX3_collectOne_57 rfl 2 rfl ?_
      refine g_16_saw (x := (v 43)) C dX3_collectOne_58 lf_X3_115 rfl ?_
      refine c_SN (As := [.int (v 43)]) (rest := [.ref (ad 16)]) (st1 := [.int (S_X8_oneMore v f (v 43)), .ref (ad 16)]) C (c_X8_oneMore ε ad v f u g (v 43)  ) mt_X8_oneMore nw_X3_106 dX3_collectOne_61 rfl rfl (by decide) (Nat.le_of_ble_eq_true rfl) rfl ?_
      refine p_16_saw C dX3_collectOne_64 lf_X3_115 ?_
      refine j_aload_n (i := 0) C dX3_collectOne_67 rfl 3 rfl ?_
      refine g_15_memory C dX3_collectOne_68 lf_X3_9 ?_
      refine j_iload (i := 4) C dX3_collectOne_71 0 rfl ?_
      refine j_iconst (x := 4) C dX3_collectOne_73 (by decide) ?_
      refine c_V (As := [.int (((S_X8_usedOf v f 0) + 4) + (8 * ((v 43) - (v 43) / 8 * 8))), .int 4]) (rest := []) (st1 := [.long (Q_X3_collectOne_0_1 v f)]) C (c_X5_number ε ad (upd v 43 (S_X8_oneMore v f (v 43))) f u g (((S_X8_usedOf v f 0) + 4) + (8 * ((v 43) - (v 43) / 8 * 8))) 4  (by first | assumption | omega | decide)) mv_X5_number lm_X3_118 dX3_collectOne_74 1 wl_1 rfl rfl rfl (by decide) (Nat.le_of_ble_eq_true rfl) rfl ?_
      refine j_lstore (i := 5) (lv' := [(5, .long (Q_X3_collectOne_0_1 v f)), (4, .int (((S_X8_usedOf v f 0) + 4) + (8 * ((v 43) - (v 43) / 8 * 8)))), (3, .int (S_X8_usedOf v f 0)), (2, .ref (ad 16)), (0, .ref (ad 15)), (1, .int 0)]) C dX3_collectOne_77 (by decide) rfl ?_
      refine j_aload_n (i := 2) C dX3_collectOne_79 rfl 3 rfl ?_
      refine j_lload (i := 5) C dX3_collectOne_80 0 rfl ?_
      refine c_V (As := [.long (Q_X3_collectOne_0_1 v f)]) (rest := []) (st1 := [.int (Q_X3_collectOne_0_2 v f)]) (ω1 := (WD ε ad (Q_X3_collectOne_0_3 v f) (Q_X3_collectOne_0_4 v f) u g)) C (c_X4_takeBack_16 ε ad (upd v 43 (S_X8_oneMore v f (v 43))) f u g (Q_X3_collectOne_0_1 v f)  ) mv_X4_takeBack lm_X3_122 dX3_collectOne_82 16 wl_16 rfl rfl rfl (by decide) (Nat.le_of_ble_eq_true rfl) rfl ?_
      refine j_if_ne (tgt := 91) C dX3_collectOne_85 (by decide) (fun c_3 => ?_) (fun c_3 => ?_)
      · refine j_aload_n (i := 2) C dX3_collectOne_91 rfl 3 rfl ?_
        refine j_aload_n (i := 0) C dX3_collectOne_92 rfl 4 rfl ?_
        refine g_15_memory C dX3_collectOne_93 lf_X3_9 ?_
        refine j_iload (i := 4) C dX3_collectOne_96 1 rfl ?_
        refine j_iconst (x := 4) C dX3_collectOne_98 (by decide) ?_
        refine j_iadd C dX3_collectOne_99 ?_
        refine j_iconst (x := 4) C dX3_collectOne_100 (by decide) ?_
        refine c_V (As := [.int ((((S_X8_usedOf v f 0) + 4) + (8 * ((v 43) - (v 43) / 8 * 8))) + 4), .int 4]) (rest := [.ref (ad 16)]) (st1 := [.long (Q_X3_collectOne_0_5 v f), .ref (ad 16)]) C (c_X5_number ε ad (Q_X3_collectOne_0_3 v f) (Q_X3_collectOne_0_4 v f) u g ((((S_X8_usedOf v f 0) + 4) + (8 * ((v 43) - (v 43) / 8 * 8))) + 4) 4  (by first | assumption | omega | decide)) mv_X5_number lm_X3_118 dX3_collectOne_101 1 wl_1 rfl rfl rfl (by decide) (Nat.le_of_ble_eq_true rfl) rfl ?_
        refine j_l2i C dX3_collectOne_104 ?_
        refine j_ldc C dX3_collectOne_105 li_X3_126 ?_
        refine j_iand C dX3_collectOne_107 ?_
        refine p_16_latestWritten C dX3_collectOne_108 lf_X3_127 ?_
        refine j_lload (i := 5) C dX3_collectOne_111 0 rfl ?_
        refine j_l2i C dX3_collectOne_113 ?_
        have hs : S_X3_collectOne_0 v f = ((((Q_X3_collectOne_0_1 v f) : Int64).toInt32), (upd (Q_X3_collectOne_0_3 v f) 44 ((((Q_X3_collectOne_0_5 v f) : Int64).toInt32) &&& 2147483647)), (Q_X3_collectOne_0_4 v f)) := by unfold S_X3_collectOne_0; rw [if_neg c_1, if_neg c_2, if_neg c_3]
        exact j_iret C hQ rfl dX3_collectOne_114 (dt_ivf hs)
      · refine j_bipush (x := (-3)) C dX3_collectOne_88 (by decide) ?_
        have hs : S_X3_collectOne_0 v f = ((-3), (Q_X3_collectOne_0_3 v f), (Q_X3_collectOne_0_4 v f)) := by unfold S_X3_collectOne_0; rw [if_neg c_1, if_neg c_2, if_pos c_3]
        exact j_iret C hQ rfl dX3_collectOne_90 (dt_ivf hs)
    · refine j_iconst (x := (-1)) C dX3_collectOne_38 (by decide) ?_
      have hs : S_X3_collectOne_0 v f = ((-1), v, f) := by unfold S_X3_collectOne_0; rw [if_neg c_1, if_pos c_2]
      exact j_iret C hQ rfl dX3_collectOne_39 (dt_ivf hs)
  · refine j_bipush (x := (-4)) C dX3_collectOne_7 (by decide) ?_
    have hs : S_X3_collectOne_0 v f = ((-4), v, f) := by unfold S_X3_collectOne_0; rw [if_pos c_1]
    exact j_iret C hQ rfl dX3_collectOne_9 (dt_ivf hs)

def Q_X3_collectOne_1_1 (v : Nat → Int32) (f : Nat → Nat → Int32) : Int64 := (S_X5_number (upd v 47 (S_X8_oneMore v f (v 47))) f (((S_X8_usedOf v f 1) + 4) + (8 * ((v 47) - (v 47) / 8 * 8))) 4)
def Q_X3_collectOne_1_2 (v : Nat → Int32) (f : Nat → Nat → Int32) : Int32 := ((S_X4_takeBack_18 (upd v 47 (S_X8_oneMore v f (v 47))) f (Q_X3_collectOne_1_1 v f)).1)
def Q_X3_collectOne_1_3 (v : Nat → Int32) (f : Nat → Nat → Int32) : (Nat → Int32) := ((S_X4_takeBack_18 (upd v 47 (S_X8_oneMore v f (v 47))) f (Q_X3_collectOne_1_1 v f)).2.1)
def Q_X3_collectOne_1_4 (v : Nat → Int32) (f : Nat → Nat → Int32) : (Nat → Nat → Int32) := ((S_X4_takeBack_18 (upd v 47 (S_X8_oneMore v f (v 47))) f (Q_X3_collectOne_1_1 v f)).2.2)
def Q_X3_collectOne_1_5 (v : Nat → Int32) (f : Nat → Nat → Int32) : Int64 := (S_X5_number (Q_X3_collectOne_1_3 v f) (Q_X3_collectOne_1_4 v f) ((((S_X8_usedOf v f 1) + 4) + (8 * ((v 47) - (v 47) / 8 * 8))) + 4) 4)
def S_X3_collectOne_1 (v : Nat → Int32) (f : Nat → Nat → Int32)  : Int32 × (Nat → Int32) × (Nat → Nat → Int32) :=
  if (v 40) = 0 then ((-4), v, f)
  else if (S_X5_two v f ((S_X8_usedOf v f 1) + 2)) = (v 47) then ((-1), v, f)
    else if (Q_X3_collectOne_1_2 v f) = 0 then ((-3), (Q_X3_collectOne_1_3 v f), (Q_X3_collectOne_1_4 v f))
      else ((((Q_X3_collectOne_1_1 v f) : Int64).toInt32), (upd (Q_X3_collectOne_1_3 v f) 48 ((((Q_X3_collectOne_1_5 v f) : Int64).toInt32) &&& 2147483647)), (Q_X3_collectOne_1_4 v f))
set_option maxHeartbeats 1000000 in
set_option maxRecDepth 100000 in
theorem c_X3_collectOne_1 (ε : ET) (ad : Nat → Nat) (v : Nat → Int32) (f : Nat → Nat → Int32) (u : Nat → Int32) (g : Nat → Nat → Int32)   : CT ε yX3_collectOne cX3_collectOne 7 (some .int) 2 46 0 0 [.ref (ad 15), .int 1] (WD ε ad v f u g) (DT (some (.int ((S_X3_collectOne_1 v f).1))) (WD ε ad ((S_X3_collectOne_1 v f).2.1) ((S_X3_collectOne_1 v f).2.2) u g)) := by
  refine CT.of (own := RX3) (by decide) rfl (Nat.le_of_ble_eq_true rfl) (fun κ C hQ => ?_)
  refine j_aload_n (i := 0) C dX3_collectOne_0 rfl 0 rfl ?_
  refine g_15_started (x := (v 40)) C dX3_collectOne_1 lf_X3_28 rfl ?_
  refine j_if_ne (tgt := 10) C dX3_collectOne_4 (by decide) (fun c_1 => ?_) (fun c_1 => ?_)
  · refine j_aload_n (i := 0) C dX3_collectOne_10 rfl 0 rfl ?_
    refine j_iload_n (i := 1) C dX3_collectOne_11 rfl 1 rfl ?_
    refine c_V (As := [.int 1]) (rest := []) (st1 := [.ref (ad 18)]) C (c_X3_loansOf_1 ε ad v f u g   ) mv_X3_loansOf lm_X3_95 dX3_collectOne_12 15 wl_15 rfl rfl rfl (by decide) (Nat.le_of_ble_eq_true rfl) rfl ?_
    refine j_astore_n (i := 2) (lv' := [(2, .ref (ad 18)), (0, .ref (ad 15)), (1, .int 1)]) C dX3_collectOne_15 rfl (by decide) rfl ?_
    refine j_iload_n (i := 1) C dX3_collectOne_16 rfl 2 rfl ?_
    refine c_SN (As := [.int 1]) (rest := []) (st1 := [.int (S_X8_usedOf v f 1)]) C (c_X8_usedOf ε ad v f u g 1  ) mt_X8_usedOf nw_X3_109 dX3_collectOne_17 rfl rfl (by decide) (Nat.le_of_ble_eq_true rfl) rfl ?_
    refine j_istore_n (i := 3) (lv' := [(3, .int (S_X8_usedOf v f 1)), (2, .ref (ad 18)), (0, .ref (ad 15)), (1, .int 1)]) C dX3_collectOne_20 rfl (by decide) rfl ?_
    refine j_aload_n (i := 0) C dX3_collectOne_21 rfl 2 rfl ?_
    refine g_15_memory C dX3_collectOne_22 lf_X3_9 ?_
    refine j_iload_n (i := 3) C dX3_collectOne_25 rfl 0 rfl ?_
    refine j_iconst (x := 2) C dX3_collectOne_26 (by decide) ?_
    refine j_iadd C dX3_collectOne_27 ?_
    refine c_V (As := [.int ((S_X8_usedOf v f 1) + 2)]) (rest := []) (st1 := [.int (S_X5_two v f ((S_X8_usedOf v f 1) + 2))]) C (c_X5_two ε ad v f u g ((S_X8_usedOf v f 1) + 2)  ) mv_X5_two lm_X3_112 dX3_collectOne_28 1 wl_1 rfl rfl rfl (by decide) (Nat.le_of_ble_eq_true rfl) rfl ?_
    refine j_aload_n (i := 2) C dX3_collectOne_31 rfl 1 rfl ?_
    refine g_18_saw (x := (v 47)) C dX3_collectOne_32 lf_X3_115 rfl ?_
    refine j_icmp_ne (tgt := 40) C dX3_collectOne_35 (by decide) (fun c_2 => ?_) (fun c_2 => ?_)
    · refine j_iload_n (i := 3) C dX3_collectOne_40 rfl 0 rfl ?_
      refine j_iconst (x := 4) C dX3_collectOne_41 (by decide) ?_
      refine j_iadd C dX3_collectOne_42 ?_
      refine j_bipush (x := 8) C dX3_collectOne_43 (by decide) ?_
      refine j_aload_n (i := 2) C dX3_collectOne_45 rfl 1 rfl ?_
      refine g_18_saw (x := (v 47)) C dX3_collectOne_46 lf_X3_115 rfl ?_
      refine j_bipush (x := 8) C dX3_collectOne_49 (by decide) ?_
      refine j_irem C dX3_collectOne_51 (by decide) ?_
      refine j_imul C dX3_collectOne_52 ?_
      refine j_iadd C dX3_collectOne_53 ?_
      refine j_istore (i := 4) (lv' := [(4, .int (((S_X8_usedOf v f 1) + 4) + (8 * ((v 47) - (v 47) / 8 * 8)))), (3, .int (S_X8_usedOf v f 1)), (2, .ref (ad 18)), (0, .ref (ad 15)), (1, .int 1)]) C dX3_collectOne_54 (by decide) rfl ?_
      refine j_aload_n (i := 2) C dX3_collectOne_56 rfl 2 rfl ?_
      refine j_aload_n (i := 2) C dX3_collectOne_57 rfl 2 rfl ?_
      refine g_18_saw (x := (v 47)) C dX3_collectOne_58 lf_X3_115 rfl ?_
      refine c_SN (As := [.int (v 47)]) (rest := [.ref (ad 18)]) (st1 := [.int (S_X8_oneMore v f (v 47)), .ref (ad 18)]) C (c_X8_oneMore ε ad v f u g (v 47)  ) mt_X8_oneMore nw_X3_106 dX3_collectOne_61 rfl rfl (by decide) (Nat.le_of_ble_eq_true rfl) rfl ?_
      refine p_18_saw C dX3_collectOne_64 lf_X3_115 ?_
      refine j_aload_n (i := 0) C dX3_collectOne_67 rfl 3 rfl ?_
      refine g_15_memory C dX3_collectOne_68 lf_X3_9 ?_
      refine j_iload (i := 4) C dX3_collectOne_71 0 rfl ?_
      refine j_iconst (x := 4) C dX3_collectOne_73 (by decide) ?_
      refine c_V (As := [.int (((S_X8_usedOf v f 1) + 4) + (8 * ((v 47) - (v 47) / 8 * 8))), .int 4]) (rest := []) (st1 := [.long (Q_X3_collectOne_1_1 v f)]) C (c_X5_number ε ad (upd v 47 (S_X8_oneMore v f (v 47))) f u g (((S_X8_usedOf v f 1) + 4) + (8 * ((v 47) - (v 47) / 8 * 8))) 4  (by first | assumption | omega | decide)) mv_X5_number lm_X3_118 dX3_collectOne_74 1 wl_1 rfl rfl rfl (by decide) (Nat.le_of_ble_eq_true rfl) rfl ?_
      refine j_lstore (i := 5) (lv' := [(5, .long (Q_X3_collectOne_1_1 v f)), (4, .int (((S_X8_usedOf v f 1) + 4) + (8 * ((v 47) - (v 47) / 8 * 8)))), (3, .int (S_X8_usedOf v f 1)), (2, .ref (ad 18)), (0, .ref (ad 15)), (1, .int 1)]) C dX3_collectOne_77 (by decide) rfl ?_
      refine j_aload_n (i := 2) C dX3_collectOne_79 rfl 3 rfl ?_
      refine j_lload (i := 5) C dX3_collectOne_80 0 rfl ?_
      refine c_V (As := [.long (Q_X3_collectOne_1_1 v f)]) (rest := []) (st1 := [.int (Q_X3_collectOne_1_2 v f)]) (ω1 := (WD ε ad (Q_X3_collectOne_1_3 v f) (Q_X3_collectOne_1_4 v f) u g)) C (c_X4_takeBack_18 ε ad (upd v 47 (S_X8_oneMore v f (v 47))) f u g (Q_X3_collectOne_1_1 v f)  ) mv_X4_takeBack lm_X3_122 dX3_collectOne_82 18 wl_18 rfl rfl rfl (by decide) (Nat.le_of_ble_eq_true rfl) rfl ?_
      refine j_if_ne (tgt := 91) C dX3_collectOne_85 (by decide) (fun c_3 => ?_) (fun c_3 => ?_)
      · refine j_aload_n (i := 2) C dX3_collectOne_91 rfl 3 rfl ?_
        refine j_aload_n (i := 0) C dX3_collectOne_92 rfl 4 rfl ?_
        refine g_15_memory C dX3_collectOne_93 lf_X3_9 ?_
        refine j_iload (i := 4) C dX3_collectOne_96 1 rfl ?_
        refine j_iconst (x := 4) C dX3_collectOne_98 (by decide) ?_
        refine j_iadd C dX3_collectOne_99 ?_
        refine j_iconst (x := 4) C dX3_collectOne_100 (by decide) ?_
        refine c_V (As := [.int ((((S_X8_usedOf v f 1) + 4) + (8 * ((v 47) - (v 47) / 8 * 8))) + 4), .int 4]) (rest := [.ref (ad 18)]) (st1 := [.long (Q_X3_collectOne_1_5 v f), .ref (ad 18)]) C (c_X5_number ε ad (Q_X3_collectOne_1_3 v f) (Q_X3_collectOne_1_4 v f) u g ((((S_X8_usedOf v f 1) + 4) + (8 * ((v 47) - (v 47) / 8 * 8))) + 4) 4  (by first | assumption | omega | decide)) mv_X5_number lm_X3_118 dX3_collectOne_101 1 wl_1 rfl rfl rfl (by decide) (Nat.le_of_ble_eq_true rfl) rfl ?_
        refine j_l2i C dX3_collectOne_104 ?_
        refine j_ldc C dX3_collectOne_105 li_X3_126 ?_
        refine j_iand C dX3_collectOne_107 ?_
        refine p_18_latestWritten C dX3_collectOne_108 lf_X3_127 ?_
        refine j_lload (i := 5) C dX3_collectOne_111 0 rfl ?_
        refine j_l2i C dX3_collectOne_113 ?_
        have hs : S_X3_collectOne_1 v f = ((((Q_X3_collectOne_1_1 v f) : Int64).toInt32), (upd (Q_X3_collectOne_1_3 v f) 48 ((((Q_X3_collectOne_1_5 v f) : Int64).toInt32) &&& 2147483647)), (Q_X3_collectOne_1_4 v f)) := by unfold S_X3_collectOne_1; rw [if_neg c_1, if_neg c_2, if_neg c_3]
        exact j_iret C hQ rfl dX3_collectOne_114 (dt_ivf hs)
      · refine j_bipush (x := (-3)) C dX3_collectOne_88 (by decide) ?_
        have hs : S_X3_collectOne_1 v f = ((-3), (Q_X3_collectOne_1_3 v f), (Q_X3_collectOne_1_4 v f)) := by unfold S_X3_collectOne_1; rw [if_neg c_1, if_neg c_2, if_pos c_3]
        exact j_iret C hQ rfl dX3_collectOne_90 (dt_ivf hs)
    · refine j_iconst (x := (-1)) C dX3_collectOne_38 (by decide) ?_
      have hs : S_X3_collectOne_1 v f = ((-1), v, f) := by unfold S_X3_collectOne_1; rw [if_neg c_1, if_pos c_2]
      exact j_iret C hQ rfl dX3_collectOne_39 (dt_ivf hs)
  · refine j_bipush (x := (-4)) C dX3_collectOne_7 (by decide) ?_
    have hs : S_X3_collectOne_1 v f = ((-4), v, f) := by unfold S_X3_collectOne_1; rw [if_pos c_1]
    exact j_iret C hQ rfl dX3_collectOne_9 (dt_ivf hs)

def Q_X3_collectOne_2_1 (v : Nat → Int32) (f : Nat → Nat → Int32) : Int64 := (S_X5_number (upd v 51 (S_X8_oneMore v f (v 51))) f (((S_X8_usedOf v f 2) + 4) + (8 * ((v 51) - (v 51) / 8 * 8))) 4)
def Q_X3_collectOne_2_2 (v : Nat → Int32) (f : Nat → Nat → Int32) : Int32 := ((S_X4_takeBack_20 (upd v 51 (S_X8_oneMore v f (v 51))) f (Q_X3_collectOne_2_1 v f)).1)
def Q_X3_collectOne_2_3 (v : Nat → Int32) (f : Nat → Nat → Int32) : (Nat → Int32) := ((S_X4_takeBack_20 (upd v 51 (S_X8_oneMore v f (v 51))) f (Q_X3_collectOne_2_1 v f)).2.1)
def Q_X3_collectOne_2_4 (v : Nat → Int32) (f : Nat → Nat → Int32) : (Nat → Nat → Int32) := ((S_X4_takeBack_20 (upd v 51 (S_X8_oneMore v f (v 51))) f (Q_X3_collectOne_2_1 v f)).2.2)
def Q_X3_collectOne_2_5 (v : Nat → Int32) (f : Nat → Nat → Int32) : Int64 := (S_X5_number (Q_X3_collectOne_2_3 v f) (Q_X3_collectOne_2_4 v f) ((((S_X8_usedOf v f 2) + 4) + (8 * ((v 51) - (v 51) / 8 * 8))) + 4) 4)
def S_X3_collectOne_2 (v : Nat → Int32) (f : Nat → Nat → Int32)  : Int32 × (Nat → Int32) × (Nat → Nat → Int32) :=
  if (v 40) = 0 then ((-4), v, f)
  else if (S_X5_two v f ((S_X8_usedOf v f 2) + 2)) = (v 51) then ((-1), v, f)
    else if (Q_X3_collectOne_2_2 v f) = 0 then ((-3), (Q_X3_collectOne_2_3 v f), (Q_X3_collectOne_2_4 v f))
      else ((((Q_X3_collectOne_2_1 v f) : Int64).toInt32), (upd (Q_X3_collectOne_2_3 v f) 52 ((((Q_X3_collectOne_2_5 v f) : Int64).toInt32) &&& 2147483647)), (Q_X3_collectOne_2_4 v f))
set_option maxHeartbeats 1000000 in
set_option maxRecDepth 100000 in
theorem c_X3_collectOne_2 (ε : ET) (ad : Nat → Nat) (v : Nat → Int32) (f : Nat → Nat → Int32) (u : Nat → Int32) (g : Nat → Nat → Int32)   : CT ε yX3_collectOne cX3_collectOne 7 (some .int) 2 46 0 0 [.ref (ad 15), .int 2] (WD ε ad v f u g) (DT (some (.int ((S_X3_collectOne_2 v f).1))) (WD ε ad ((S_X3_collectOne_2 v f).2.1) ((S_X3_collectOne_2 v f).2.2) u g)) := by
  refine CT.of (own := RX3) (by decide) rfl (Nat.le_of_ble_eq_true rfl) (fun κ C hQ => ?_)
  refine j_aload_n (i := 0) C dX3_collectOne_0 rfl 0 rfl ?_
  refine g_15_started (x := (v 40)) C dX3_collectOne_1 lf_X3_28 rfl ?_
  refine j_if_ne (tgt := 10) C dX3_collectOne_4 (by decide) (fun c_1 => ?_) (fun c_1 => ?_)
  · refine j_aload_n (i := 0) C dX3_collectOne_10 rfl 0 rfl ?_
    refine j_iload_n (i := 1) C dX3_collectOne_11 rfl 1 rfl ?_
    refine c_V (As := [.int 2]) (rest := []) (st1 := [.ref (ad 20)]) C (c_X3_loansOf_2 ε ad v f u g   ) mv_X3_loansOf lm_X3_95 dX3_collectOne_12 15 wl_15 rfl rfl rfl (by decide) (Nat.le_of_ble_eq_true rfl) rfl ?_
    refine j_astore_n (i := 2) (lv' := [(2, .ref (ad 20)), (0, .ref (ad 15)), (1, .int 2)]) C dX3_collectOne_15 rfl (by decide) rfl ?_
    refine j_iload_n (i := 1) C dX3_collectOne_16 rfl 2 rfl ?_
    refine c_SN (As := [.int 2]) (rest := []) (st1 := [.int (S_X8_usedOf v f 2)]) C (c_X8_usedOf ε ad v f u g 2  ) mt_X8_usedOf nw_X3_109 dX3_collectOne_17 rfl rfl (by decide) (Nat.le_of_ble_eq_true rfl) rfl ?_
    refine j_istore_n (i := 3) (lv' := [(3, .int (S_X8_usedOf v f 2)), (2, .ref (ad 20)), (0, .ref (ad 15)), (1, .int 2)]) C dX3_collectOne_20 rfl (by decide) rfl ?_
    refine j_aload_n (i := 0) C dX3_collectOne_21 rfl 2 rfl ?_
    refine g_15_memory C dX3_collectOne_22 lf_X3_9 ?_
    refine j_iload_n (i := 3) C dX3_collectOne_25 rfl 0 rfl ?_
    refine j_iconst (x := 2) C dX3_collectOne_26 (by decide) ?_
    refine j_iadd C dX3_collectOne_27 ?_
    refine c_V (As := [.int ((S_X8_usedOf v f 2) + 2)]) (rest := []) (st1 := [.int (S_X5_two v f ((S_X8_usedOf v f 2) + 2))]) C (c_X5_two ε ad v f u g ((S_X8_usedOf v f 2) + 2)  ) mv_X5_two lm_X3_112 dX3_collectOne_28 1 wl_1 rfl rfl rfl (by decide) (Nat.le_of_ble_eq_true rfl) rfl ?_
    refine j_aload_n (i := 2) C dX3_collectOne_31 rfl 1 rfl ?_
    refine g_20_saw (x := (v 51)) C dX3_collectOne_32 lf_X3_115 rfl ?_
    refine j_icmp_ne (tgt := 40) C dX3_collectOne_35 (by decide) (fun c_2 => ?_) (fun c_2 => ?_)
    · refine j_iload_n (i := 3) C dX3_collectOne_40 rfl 0 rfl ?_
      refine j_iconst (x := 4) C dX3_collectOne_41 (by decide) ?_
      refine j_iadd C dX3_collectOne_42 ?_
      refine j_bipush (x := 8) C dX3_collectOne_43 (by decide) ?_
      refine j_aload_n (i := 2) C dX3_collectOne_45 rfl 1 rfl ?_
      refine g_20_saw (x := (v 51)) C dX3_collectOne_46 lf_X3_115 rfl ?_
      refine j_bipush (x := 8) C dX3_collectOne_49 (by decide) ?_
      refine j_irem C dX3_collectOne_51 (by decide) ?_
      refine j_imul C dX3_collectOne_52 ?_
      refine j_iadd C dX3_collectOne_53 ?_
      refine j_istore (i := 4) (lv' := [(4, .int (((S_X8_usedOf v f 2) + 4) + (8 * ((v 51) - (v 51) / 8 * 8)))), (3, .int (S_X8_usedOf v f 2)), (2, .ref (ad 20)), (0, .ref (ad 15)), (1, .int 2)]) C dX3_collectOne_54 (by decide) rfl ?_
      refine j_aload_n (i := 2) C dX3_collectOne_56 rfl 2 rfl ?_
      refine j_aload_n (i := 2) C dX3_collectOne_57 rfl 2 rfl ?_
      refine g_20_saw (x := (v 51)) C dX3_collectOne_58 lf_X3_115 rfl ?_
      refine c_SN (As := [.int (v 51)]) (rest := [.ref (ad 20)]) (st1 := [.int (S_X8_oneMore v f (v 51)), .ref (ad 20)]) C (c_X8_oneMore ε ad v f u g (v 51)  ) mt_X8_oneMore nw_X3_106 dX3_collectOne_61 rfl rfl (by decide) (Nat.le_of_ble_eq_true rfl) rfl ?_
      refine p_20_saw C dX3_collectOne_64 lf_X3_115 ?_
      refine j_aload_n (i := 0) C dX3_collectOne_67 rfl 3 rfl ?_
      refine g_15_memory C dX3_collectOne_68 lf_X3_9 ?_
      refine j_iload (i := 4) C dX3_collectOne_71 0 rfl ?_
      refine j_iconst (x := 4) C dX3_collectOne_73 (by decide) ?_
      refine c_V (As := [.int (((S_X8_usedOf v f 2) + 4) + (8 * ((v 51) - (v 51) / 8 * 8))), .int 4]) (rest := []) (st1 := [.long (Q_X3_collectOne_2_1 v f)]) C (c_X5_number ε ad (upd v 51 (S_X8_oneMore v f (v 51))) f u g (((S_X8_usedOf v f 2) + 4) + (8 * ((v 51) - (v 51) / 8 * 8))) 4  (by first | assumption | omega | decide)) mv_X5_number lm_X3_118 dX3_collectOne_74 1 wl_1 rfl rfl rfl (by decide) (Nat.le_of_ble_eq_true rfl) rfl ?_
      refine j_lstore (i := 5) (lv' := [(5, .long (Q_X3_collectOne_2_1 v f)), (4, .int (((S_X8_usedOf v f 2) + 4) + (8 * ((v 51) - (v 51) / 8 * 8)))), (3, .int (S_X8_usedOf v f 2)), (2, .ref (ad 20)), (0, .ref (ad 15)), (1, .int 2)]) C dX3_collectOne_77 (by decide) rfl ?_
      refine j_aload_n (i := 2) C dX3_collectOne_79 rfl 3 rfl ?_
      refine j_lload (i := 5) C dX3_collectOne_80 0 rfl ?_
      refine c_V (As := [.long (Q_X3_collectOne_2_1 v f)]) (rest := []) (st1 := [.int (Q_X3_collectOne_2_2 v f)]) (ω1 := (WD ε ad (Q_X3_collectOne_2_3 v f) (Q_X3_collectOne_2_4 v f) u g)) C (c_X4_takeBack_20 ε ad (upd v 51 (S_X8_oneMore v f (v 51))) f u g (Q_X3_collectOne_2_1 v f)  ) mv_X4_takeBack lm_X3_122 dX3_collectOne_82 20 wl_20 rfl rfl rfl (by decide) (Nat.le_of_ble_eq_true rfl) rfl ?_
      refine j_if_ne (tgt := 91) C dX3_collectOne_85 (by decide) (fun c_3 => ?_) (fun c_3 => ?_)
      · refine j_aload_n (i := 2) C dX3_collectOne_91 rfl 3 rfl ?_
        refine j_aload_n (i := 0) C dX3_collectOne_92 rfl 4 rfl ?_
        refine g_15_memory C dX3_collectOne_93 lf_X3_9 ?_
        refine j_iload (i := 4) C dX3_collectOne_96 1 rfl ?_
        refine j_iconst (x := 4) C dX3_collectOne_98 (by decide) ?_
        refine j_iadd C dX3_collectOne_99 ?_
        refine j_iconst (x := 4) C dX3_collectOne_100 (by decide) ?_
        refine c_V (As := [.int ((((S_X8_usedOf v f 2) + 4) + (8 * ((v 51) - (v 51) / 8 * 8))) + 4), .int 4]) (rest := [.ref (ad 20)]) (st1 := [.long (Q_X3_collectOne_2_5 v f), .ref (ad 20)]) C (c_X5_number ε ad (Q_X3_collectOne_2_3 v f) (Q_X3_collectOne_2_4 v f) u g ((((S_X8_usedOf v f 2) + 4) + (8 * ((v 51) - (v 51) / 8 * 8))) + 4) 4  (by first | assumption | omega | decide)) mv_X5_number lm_X3_118 dX3_collectOne_101 1 wl_1 rfl rfl rfl (by decide) (Nat.le_of_ble_eq_true rfl) rfl ?_
        refine j_l2i C dX3_collectOne_104 ?_
        refine j_ldc C dX3_collectOne_105 li_X3_126 ?_
        refine j_iand C dX3_collectOne_107 ?_
        refine p_20_latestWritten C dX3_collectOne_108 lf_X3_127 ?_
        refine j_lload (i := 5) C dX3_collectOne_111 0 rfl ?_
        refine j_l2i C dX3_collectOne_113 ?_
        have hs : S_X3_collectOne_2 v f = ((((Q_X3_collectOne_2_1 v f) : Int64).toInt32), (upd (Q_X3_collectOne_2_3 v f) 52 ((((Q_X3_collectOne_2_5 v f) : Int64).toInt32) &&& 2147483647)), (Q_X3_collectOne_2_4 v f)) := by unfold S_X3_collectOne_2; rw [if_neg c_1, if_neg c_2, if_neg c_3]
        exact j_iret C hQ rfl dX3_collectOne_114 (dt_ivf hs)
      · refine j_bipush (x := (-3)) C dX3_collectOne_88 (by decide) ?_
        have hs : S_X3_collectOne_2 v f = ((-3), (Q_X3_collectOne_2_3 v f), (Q_X3_collectOne_2_4 v f)) := by unfold S_X3_collectOne_2; rw [if_neg c_1, if_neg c_2, if_pos c_3]
        exact j_iret C hQ rfl dX3_collectOne_90 (dt_ivf hs)
    · refine j_iconst (x := (-1)) C dX3_collectOne_38 (by decide) ?_
      have hs : S_X3_collectOne_2 v f = ((-1), v, f) := by unfold S_X3_collectOne_2; rw [if_neg c_1, if_pos c_2]
      exact j_iret C hQ rfl dX3_collectOne_39 (dt_ivf hs)
  · refine j_bipush (x := (-4)) C dX3_collectOne_7 (by decide) ?_
    have hs : S_X3_collectOne_2 v f = ((-4), v, f) := by unfold S_X3_collectOne_2; rw [if_pos c_1]
    exact j_iret C hQ rfl dX3_collectOne_9 (dt_ivf hs)

