def S_X6_forget_4 (v : Nat → Int32) (f : Nat → Nat → Int32)  : (Nat → Int32) :=
  (upd (upd (upd (upd (upd v 4 0) 5 0) 9 0) 10 0) 11 0)
set_option maxHeartbeats 1000000 in
set_option maxRecDepth 100000 in
theorem c_X6_forget_4 (ε : ET) (ad : Nat → Nat) (v : Nat → Int32) (f : Nat → Nat → Int32) (u : Nat → Int32) (g : Nat → Nat → Int32)   : CT ε yX6_forget cX6_forget 1 none 0 0 0 0 [.ref (ad 4)] (WD ε ad v f u g) (DT none (WD ε ad (S_X6_forget_4 v f) f u g)) := by
  refine CT.of (own := RX6) (by decide) rfl (Nat.le_of_ble_eq_true rfl) (fun κ C hQ => ?_)
  refine j_aload_n (i := 0) C dX6_forget_0 rfl 0 rfl ?_
  refine j_iconst (x := 0) C dX6_forget_1 (by decide) ?_
  refine p_4_laid C dX6_forget_2 lf_X6_15 (Or.inl rfl) ?_
  refine j_aload_n (i := 0) C dX6_forget_5 rfl 0 rfl ?_
  refine j_iconst (x := 0) C dX6_forget_6 (by decide) ?_
  refine p_4_size C dX6_forget_7 lf_X6_19 ?_
  refine j_aload_n (i := 0) C dX6_forget_10 rfl 0 rfl ?_
  refine j_iconst (x := 0) C dX6_forget_11 (by decide) ?_
  refine p_4_taken C dX6_forget_12 lf_X6_23 ?_
  refine j_aload_n (i := 0) C dX6_forget_15 rfl 0 rfl ?_
  refine j_iconst (x := 0) C dX6_forget_16 (by decide) ?_
  refine p_4_given C dX6_forget_17 lf_X6_26 ?_
  refine j_aload_n (i := 0) C dX6_forget_20 rfl 0 rfl ?_
  refine j_iconst (x := 0) C dX6_forget_21 (by decide) ?_
  refine p_4_signals C dX6_forget_22 lf_X6_29 ?_
  have hs : S_X6_forget_4 v f = (upd (upd (upd (upd (upd v 4 0) 5 0) 9 0) 10 0) 11 0) := by unfold S_X6_forget_4; rfl
  exact j_vret C hQ rfl dX6_forget_25 (dt_nv hs)

def S_X6_forget_5 (v : Nat → Int32) (f : Nat → Nat → Int32)  : (Nat → Int32) :=
  (upd (upd (upd (upd (upd v 12 0) 13 0) 17 0) 18 0) 19 0)
set_option maxHeartbeats 1000000 in
set_option maxRecDepth 100000 in
theorem c_X6_forget_5 (ε : ET) (ad : Nat → Nat) (v : Nat → Int32) (f : Nat → Nat → Int32) (u : Nat → Int32) (g : Nat → Nat → Int32)   : CT ε yX6_forget cX6_forget 1 none 0 0 0 0 [.ref (ad 5)] (WD ε ad v f u g) (DT none (WD ε ad (S_X6_forget_5 v f) f u g)) := by
  refine CT.of (own := RX6) (by decide) rfl (Nat.le_of_ble_eq_true rfl) (fun κ C hQ => ?_)
  refine j_aload_n (i := 0) C dX6_forget_0 rfl 0 rfl ?_
  refine j_iconst (x := 0) C dX6_forget_1 (by decide) ?_
  refine p_5_laid C dX6_forget_2 lf_X6_15 (Or.inl rfl) ?_
  refine j_aload_n (i := 0) C dX6_forget_5 rfl 0 rfl ?_
  refine j_iconst (x := 0) C dX6_forget_6 (by decide) ?_
  refine p_5_size C dX6_forget_7 lf_X6_19 ?_
  refine j_aload_n (i := 0) C dX6_forget_10 rfl 0 rfl ?_
  refine j_iconst (x := 0) C dX6_forget_11 (by decide) ?_
  refine p_5_taken C dX6_forget_12 lf_X6_23 ?_
  refine j_aload_n (i := 0) C dX6_forget_15 rfl 0 rfl ?_
  refine j_iconst (x := 0) C dX6_forget_16 (by decide) ?_
  refine p_5_given C dX6_forget_17 lf_X6_26 ?_
  refine j_aload_n (i := 0) C dX6_forget_20 rfl 0 rfl ?_
  refine j_iconst (x := 0) C dX6_forget_21 (by decide) ?_
  refine p_5_signals C dX6_forget_22 lf_X6_29 ?_
  have hs : S_X6_forget_5 v f = (upd (upd (upd (upd (upd v 12 0) 13 0) 17 0) 18 0) 19 0) := by unfold S_X6_forget_5; rfl
  exact j_vret C hQ rfl dX6_forget_25 (dt_nv hs)

def S_X6_forget_6 (v : Nat → Int32) (f : Nat → Nat → Int32)  : (Nat → Int32) :=
  (upd (upd (upd (upd (upd v 20 0) 21 0) 25 0) 26 0) 27 0)
set_option maxHeartbeats 1000000 in
set_option maxRecDepth 100000 in
theorem c_X6_forget_6 (ε : ET) (ad : Nat → Nat) (v : Nat → Int32) (f : Nat → Nat → Int32) (u : Nat → Int32) (g : Nat → Nat → Int32)   : CT ε yX6_forget cX6_forget 1 none 0 0 0 0 [.ref (ad 6)] (WD ε ad v f u g) (DT none (WD ε ad (S_X6_forget_6 v f) f u g)) := by
  refine CT.of (own := RX6) (by decide) rfl (Nat.le_of_ble_eq_true rfl) (fun κ C hQ => ?_)
  refine j_aload_n (i := 0) C dX6_forget_0 rfl 0 rfl ?_
  refine j_iconst (x := 0) C dX6_forget_1 (by decide) ?_
  refine p_6_laid C dX6_forget_2 lf_X6_15 (Or.inl rfl) ?_
  refine j_aload_n (i := 0) C dX6_forget_5 rfl 0 rfl ?_
  refine j_iconst (x := 0) C dX6_forget_6 (by decide) ?_
  refine p_6_size C dX6_forget_7 lf_X6_19 ?_
  refine j_aload_n (i := 0) C dX6_forget_10 rfl 0 rfl ?_
  refine j_iconst (x := 0) C dX6_forget_11 (by decide) ?_
  refine p_6_taken C dX6_forget_12 lf_X6_23 ?_
  refine j_aload_n (i := 0) C dX6_forget_15 rfl 0 rfl ?_
  refine j_iconst (x := 0) C dX6_forget_16 (by decide) ?_
  refine p_6_given C dX6_forget_17 lf_X6_26 ?_
  refine j_aload_n (i := 0) C dX6_forget_20 rfl 0 rfl ?_
  refine j_iconst (x := 0) C dX6_forget_21 (by decide) ?_
  refine p_6_signals C dX6_forget_22 lf_X6_29 ?_
  have hs : S_X6_forget_6 v f = (upd (upd (upd (upd (upd v 20 0) 21 0) 25 0) 26 0) 27 0) := by unfold S_X6_forget_6; rfl
  exact j_vret C hQ rfl dX6_forget_25 (dt_nv hs)

def S_X6_lay_4 (v : Nat → Int32) (f : Nat → Nat → Int32) (a : Int32) (b : Int32) (c : Int32) (d : Int32) : (Nat → Int32) :=
  (upd (upd (upd (upd (upd v 4 1) 5 a) 6 b) 7 c) 8 d)
set_option maxHeartbeats 1000000 in
set_option maxRecDepth 100000 in
theorem c_X6_lay_4 (ε : ET) (ad : Nat → Nat) (v : Nat → Int32) (f : Nat → Nat → Int32) (u : Nat → Int32) (g : Nat → Nat → Int32) (a : Int32) (b : Int32) (c : Int32) (d : Int32)  : CT ε yX6_lay cX6_lay 5 none 0 0 0 0 [.ref (ad 4), .int a, .int b, .int c, .int d] (WD ε ad v f u g) (DT none (WD ε ad (S_X6_lay_4 v f a b c d) f u g)) := by
  refine CT.of (own := RX6) (by decide) rfl (Nat.le_of_ble_eq_true rfl) (fun κ C hQ => ?_)
  refine j_aload_n (i := 0) C dX6_lay_0 rfl 0 rfl ?_
  refine j_iconst (x := 1) C dX6_lay_1 (by decide) ?_
  refine p_4_laid C dX6_lay_2 lf_X6_15 (Or.inr rfl) ?_
  refine j_aload_n (i := 0) C dX6_lay_5 rfl 0 rfl ?_
  refine j_iload_n (i := 1) C dX6_lay_6 rfl 1 rfl ?_
  refine p_4_size C dX6_lay_7 lf_X6_19 ?_
  refine j_aload_n (i := 0) C dX6_lay_10 rfl 0 rfl ?_
  refine j_iload_n (i := 2) C dX6_lay_11 rfl 2 rfl ?_
  refine p_4_descriptors C dX6_lay_12 lf_X6_32 ?_
  refine j_aload_n (i := 0) C dX6_lay_15 rfl 0 rfl ?_
  refine j_iload_n (i := 3) C dX6_lay_16 rfl 3 rfl ?_
  refine p_4_available C dX6_lay_17 lf_X6_35 ?_
  refine j_aload_n (i := 0) C dX6_lay_20 rfl 0 rfl ?_
  refine j_iload (i := 4) C dX6_lay_21 4 rfl ?_
  refine p_4_used C dX6_lay_23 lf_X6_38 ?_
  have hs : S_X6_lay_4 v f a b c d = (upd (upd (upd (upd (upd v 4 1) 5 a) 6 b) 7 c) 8 d) := by unfold S_X6_lay_4; rfl
  exact j_vret C hQ rfl dX6_lay_26 (dt_nv hs)

def S_X6_lay_5 (v : Nat → Int32) (f : Nat → Nat → Int32) (a : Int32) (b : Int32) (c : Int32) (d : Int32) : (Nat → Int32) :=
  (upd (upd (upd (upd (upd v 12 1) 13 a) 14 b) 15 c) 16 d)
set_option maxHeartbeats 1000000 in
set_option maxRecDepth 100000 in
theorem c_X6_lay_5 (ε : ET) (ad : Nat → Nat) (v : Nat → Int32) (f : Nat → Nat → Int32) (u : Nat → Int32) (g : Nat → Nat → Int32) (a : Int32) (b : Int32) (c : Int32) (d : Int32)  : CT ε yX6_lay cX6_lay 5 none 0 0 0 0 [.ref (ad 5), .int a, .int b, .int c, .int d] (WD ε ad v f u g) (DT none (WD ε ad (S_X6_lay_5 v f a b c d) f u g)) := by
  refine CT.of (own := RX6) (by decide) rfl (Nat.le_of_ble_eq_true rfl) (fun κ C hQ => ?_)
  refine j_aload_n (i := 0) C dX6_lay_0 rfl 0 rfl ?_
  refine j_iconst (x := 1) C dX6_lay_1 (by decide) ?_
  refine p_5_laid C dX6_lay_2 lf_X6_15 (Or.inr rfl) ?_
  refine j_aload_n (i := 0) C dX6_lay_5 rfl 0 rfl ?_
  refine j_iload_n (i := 1) C dX6_lay_6 rfl 1 rfl ?_
  refine p_5_size C dX6_lay_7 lf_X6_19 ?_
  refine j_aload_n (i := 0) C dX6_lay_10 rfl 0 rfl ?_
  refine j_iload_n (i := 2) C dX6_lay_11 rfl 2 rfl ?_
  refine p_5_descriptors C dX6_lay_12 lf_X6_32 ?_
  refine j_aload_n (i := 0) C dX6_lay_15 rfl 0 rfl ?_
  refine j_iload_n (i := 3) C dX6_lay_16 rfl 3 rfl ?_
  refine p_5_available C dX6_lay_17 lf_X6_35 ?_
  refine j_aload_n (i := 0) C dX6_lay_20 rfl 0 rfl ?_
  refine j_iload (i := 4) C dX6_lay_21 4 rfl ?_
  refine p_5_used C dX6_lay_23 lf_X6_38 ?_
  have hs : S_X6_lay_5 v f a b c d = (upd (upd (upd (upd (upd v 12 1) 13 a) 14 b) 15 c) 16 d) := by unfold S_X6_lay_5; rfl
  exact j_vret C hQ rfl dX6_lay_26 (dt_nv hs)

def S_X6_lay_6 (v : Nat → Int32) (f : Nat → Nat → Int32) (a : Int32) (b : Int32) (c : Int32) (d : Int32) : (Nat → Int32) :=
  (upd (upd (upd (upd (upd v 20 1) 21 a) 22 b) 23 c) 24 d)
set_option maxHeartbeats 1000000 in
set_option maxRecDepth 100000 in
theorem c_X6_lay_6 (ε : ET) (ad : Nat → Nat) (v : Nat → Int32) (f : Nat → Nat → Int32) (u : Nat → Int32) (g : Nat → Nat → Int32) (a : Int32) (b : Int32) (c : Int32) (d : Int32)  : CT ε yX6_lay cX6_lay 5 none 0 0 0 0 [.ref (ad 6), .int a, .int b, .int c, .int d] (WD ε ad v f u g) (DT none (WD ε ad (S_X6_lay_6 v f a b c d) f u g)) := by
  refine CT.of (own := RX6) (by decide) rfl (Nat.le_of_ble_eq_true rfl) (fun κ C hQ => ?_)
  refine j_aload_n (i := 0) C dX6_lay_0 rfl 0 rfl ?_
  refine j_iconst (x := 1) C dX6_lay_1 (by decide) ?_
  refine p_6_laid C dX6_lay_2 lf_X6_15 (Or.inr rfl) ?_
  refine j_aload_n (i := 0) C dX6_lay_5 rfl 0 rfl ?_
  refine j_iload_n (i := 1) C dX6_lay_6 rfl 1 rfl ?_
  refine p_6_size C dX6_lay_7 lf_X6_19 ?_
  refine j_aload_n (i := 0) C dX6_lay_10 rfl 0 rfl ?_
  refine j_iload_n (i := 2) C dX6_lay_11 rfl 2 rfl ?_
  refine p_6_descriptors C dX6_lay_12 lf_X6_32 ?_
  refine j_aload_n (i := 0) C dX6_lay_15 rfl 0 rfl ?_
  refine j_iload_n (i := 3) C dX6_lay_16 rfl 3 rfl ?_
  refine p_6_available C dX6_lay_17 lf_X6_35 ?_
  refine j_aload_n (i := 0) C dX6_lay_20 rfl 0 rfl ?_
  refine j_iload (i := 4) C dX6_lay_21 4 rfl ?_
  refine p_6_used C dX6_lay_23 lf_X6_38 ?_
  have hs : S_X6_lay_6 v f a b c d = (upd (upd (upd (upd (upd v 20 1) 21 a) 22 b) 23 c) 24 d) := by unfold S_X6_lay_6; rfl
  exact j_vret C hQ rfl dX6_lay_26 (dt_nv hs)

def S_X6_placeOf_4 (v : Nat → Int32) (f : Nat → Nat → Int32) (a : Int32) : Int32 :=
  if (v 5) ≤ 0 then 0
  else (a - a / (v 5) * (v 5))
set_option maxHeartbeats 1000000 in
set_option maxRecDepth 100000 in
theorem c_X6_placeOf_4 (ε : ET) (ad : Nat → Nat) (v : Nat → Int32) (f : Nat → Nat → Int32) (u : Nat → Int32) (g : Nat → Nat → Int32) (a : Int32)  : CT ε yX6_placeOf cX6_placeOf 2 (some .int) 0 0 0 0 [.ref (ad 4), .int a] (WD ε ad v f u g) (DT (some (.int (S_X6_placeOf_4 v f a))) (WD ε ad v f u g)) := by
  refine CT.of (own := RX6) (by decide) rfl (Nat.le_of_ble_eq_true rfl) (fun κ C hQ => ?_)
  refine j_aload_n (i := 0) C dX6_placeOf_0 rfl 0 rfl ?_
  refine g_4_size (x := (v 5)) C dX6_placeOf_1 lf_X6_19 rfl ?_
  refine j_if_le (tgt := 16) C dX6_placeOf_4 (by decide) (fun c_1 => ?_) (fun c_1 => ?_)
  · refine j_iconst (x := 0) C dX6_placeOf_16 (by decide) ?_
    have hs : S_X6_placeOf_4 v f a = 0 := by unfold S_X6_placeOf_4; rw [if_pos c_1]
    exact j_iret C hQ rfl dX6_placeOf_17 (dt_i hs)
  · refine j_iload_n (i := 1) C dX6_placeOf_7 rfl 1 rfl ?_
    refine j_aload_n (i := 0) C dX6_placeOf_8 rfl 0 rfl ?_
    refine g_4_size (x := (v 5)) C dX6_placeOf_9 lf_X6_19 rfl ?_
    refine j_irem C dX6_placeOf_12 (fun q9 => c_1 (by rw [q9]; decide)) ?_
    refine j_goto (tgt := 17) C dX6_placeOf_13 (by decide) ?_
    have hs : S_X6_placeOf_4 v f a = (a - a / (v 5) * (v 5)) := by unfold S_X6_placeOf_4; rw [if_neg c_1]
    exact j_iret C hQ rfl dX6_placeOf_17 (dt_i hs)

def S_X6_placeOf_5 (v : Nat → Int32) (f : Nat → Nat → Int32) (a : Int32) : Int32 :=
  if (v 13) ≤ 0 then 0
  else (a - a / (v 13) * (v 13))
set_option maxHeartbeats 1000000 in
set_option maxRecDepth 100000 in
theorem c_X6_placeOf_5 (ε : ET) (ad : Nat → Nat) (v : Nat → Int32) (f : Nat → Nat → Int32) (u : Nat → Int32) (g : Nat → Nat → Int32) (a : Int32)  : CT ε yX6_placeOf cX6_placeOf 2 (some .int) 0 0 0 0 [.ref (ad 5), .int a] (WD ε ad v f u g) (DT (some (.int (S_X6_placeOf_5 v f a))) (WD ε ad v f u g)) := by
  refine CT.of (own := RX6) (by decide) rfl (Nat.le_of_ble_eq_true rfl) (fun κ C hQ => ?_)
  refine j_aload_n (i := 0) C dX6_placeOf_0 rfl 0 rfl ?_
  refine g_5_size (x := (v 13)) C dX6_placeOf_1 lf_X6_19 rfl ?_
  refine j_if_le (tgt := 16) C dX6_placeOf_4 (by decide) (fun c_1 => ?_) (fun c_1 => ?_)
  · refine j_iconst (x := 0) C dX6_placeOf_16 (by decide) ?_
    have hs : S_X6_placeOf_5 v f a = 0 := by unfold S_X6_placeOf_5; rw [if_pos c_1]
    exact j_iret C hQ rfl dX6_placeOf_17 (dt_i hs)
  · refine j_iload_n (i := 1) C dX6_placeOf_7 rfl 1 rfl ?_
    refine j_aload_n (i := 0) C dX6_placeOf_8 rfl 0 rfl ?_
    refine g_5_size (x := (v 13)) C dX6_placeOf_9 lf_X6_19 rfl ?_
    refine j_irem C dX6_placeOf_12 (fun q9 => c_1 (by rw [q9]; decide)) ?_
    refine j_goto (tgt := 17) C dX6_placeOf_13 (by decide) ?_
    have hs : S_X6_placeOf_5 v f a = (a - a / (v 13) * (v 13)) := by unfold S_X6_placeOf_5; rw [if_neg c_1]
    exact j_iret C hQ rfl dX6_placeOf_17 (dt_i hs)

def S_X6_placeOf_6 (v : Nat → Int32) (f : Nat → Nat → Int32) (a : Int32) : Int32 :=
  if (v 21) ≤ 0 then 0
  else (a - a / (v 21) * (v 21))
set_option maxHeartbeats 1000000 in
set_option maxRecDepth 100000 in
theorem c_X6_placeOf_6 (ε : ET) (ad : Nat → Nat) (v : Nat → Int32) (f : Nat → Nat → Int32) (u : Nat → Int32) (g : Nat → Nat → Int32) (a : Int32)  : CT ε yX6_placeOf cX6_placeOf 2 (some .int) 0 0 0 0 [.ref (ad 6), .int a] (WD ε ad v f u g) (DT (some (.int (S_X6_placeOf_6 v f a))) (WD ε ad v f u g)) := by
  refine CT.of (own := RX6) (by decide) rfl (Nat.le_of_ble_eq_true rfl) (fun κ C hQ => ?_)
  refine j_aload_n (i := 0) C dX6_placeOf_0 rfl 0 rfl ?_
  refine g_6_size (x := (v 21)) C dX6_placeOf_1 lf_X6_19 rfl ?_
  refine j_if_le (tgt := 16) C dX6_placeOf_4 (by decide) (fun c_1 => ?_) (fun c_1 => ?_)
  · refine j_iconst (x := 0) C dX6_placeOf_16 (by decide) ?_
    have hs : S_X6_placeOf_6 v f a = 0 := by unfold S_X6_placeOf_6; rw [if_pos c_1]
    exact j_iret C hQ rfl dX6_placeOf_17 (dt_i hs)
  · refine j_iload_n (i := 1) C dX6_placeOf_7 rfl 1 rfl ?_
    refine j_aload_n (i := 0) C dX6_placeOf_8 rfl 0 rfl ?_
    refine g_6_size (x := (v 21)) C dX6_placeOf_9 lf_X6_19 rfl ?_
    refine j_irem C dX6_placeOf_12 (fun q9 => c_1 (by rw [q9]; decide)) ?_
    refine j_goto (tgt := 17) C dX6_placeOf_13 (by decide) ?_
    have hs : S_X6_placeOf_6 v f a = (a - a / (v 21) * (v 21)) := by unfold S_X6_placeOf_6; rw [if_neg c_1]
    exact j_iret C hQ rfl dX6_placeOf_17 (dt_i hs)

def S_X6_waiting_4 (v : Nat → Int32) (f : Nat → Nat → Int32)  : Int32 :=
  if (v 4) = 0 then 0
  else (((S_X5_two v f ((v 7) + 2)) - (v 9)) &&& 65535)
set_option maxHeartbeats 1000000 in
set_option maxRecDepth 100000 in
theorem c_X6_waiting_4 (ε : ET) (ad : Nat → Nat) (v : Nat → Int32) (f : Nat → Nat → Int32) (u : Nat → Int32) (g : Nat → Nat → Int32)   : CT ε yX6_waiting cX6_waiting 1 (some .int) 2 42 0 0 [.ref (ad 4)] (WD ε ad v f u g) (DT (some (.int (S_X6_waiting_4 v f))) (WD ε ad v f u g)) := by
  refine CT.of (own := RX6) (by decide) rfl (Nat.le_of_ble_eq_true rfl) (fun κ C hQ => ?_)
  refine j_aload_n (i := 0) C dX6_waiting_0 rfl 0 rfl ?_
  refine g_4_laid (x := (v 4)) C dX6_waiting_1 lf_X6_15 rfl ?_
  refine j_if_eq (tgt := 31) C dX6_waiting_4 (by decide) (fun c_1 => ?_) (fun c_1 => ?_)
  · refine j_iconst (x := 0) C dX6_waiting_31 (by decide) ?_
    have hs : S_X6_waiting_4 v f = 0 := by unfold S_X6_waiting_4; rw [if_pos c_1]
    exact j_iret C hQ rfl dX6_waiting_32 (dt_i hs)
  · refine j_aload_n (i := 0) C dX6_waiting_7 rfl 0 rfl ?_
    refine g_4_memory C dX6_waiting_8 lf_X6_9 ?_
    refine j_aload_n (i := 0) C dX6_waiting_11 rfl 0 rfl ?_
    refine g_4_available (x := (v 7)) C dX6_waiting_12 lf_X6_35 rfl ?_
    refine j_iconst (x := 2) C dX6_waiting_15 (by decide) ?_
    refine j_iadd C dX6_waiting_16 ?_
    refine c_V (As := [.int ((v 7) + 2)]) (rest := []) (st1 := [.int (S_X5_two v f ((v 7) + 2))]) C (c_X5_two ε ad v f u g ((v 7) + 2)  ) mv_X5_two lm_X6_41 dX6_waiting_17 1 wl_1 rfl rfl rfl (by decide) (Nat.le_of_ble_eq_true rfl) rfl ?_
    refine j_aload_n (i := 0) C dX6_waiting_20 rfl 0 rfl ?_
    refine g_4_taken (x := (v 9)) C dX6_waiting_21 lf_X6_23 rfl ?_
    refine j_isub C dX6_waiting_24 ?_
    refine j_ldc C dX6_waiting_25 li_X6_47 ?_
    refine j_iand C dX6_waiting_27 ?_
    refine j_goto (tgt := 32) C dX6_waiting_28 (by decide) ?_
    have hs : S_X6_waiting_4 v f = (((S_X5_two v f ((v 7) + 2)) - (v 9)) &&& 65535) := by unfold S_X6_waiting_4; rw [if_neg c_1]
    exact j_iret C hQ rfl dX6_waiting_32 (dt_i hs)

def S_X6_waiting_5 (v : Nat → Int32) (f : Nat → Nat → Int32)  : Int32 :=
  if (v 12) = 0 then 0
  else (((S_X5_two v f ((v 15) + 2)) - (v 17)) &&& 65535)
set_option maxHeartbeats 1000000 in
set_option maxRecDepth 100000 in
theorem c_X6_waiting_5 (ε : ET) (ad : Nat → Nat) (v : Nat → Int32) (f : Nat → Nat → Int32) (u : Nat → Int32) (g : Nat → Nat → Int32)   : CT ε yX6_waiting cX6_waiting 1 (some .int) 2 42 0 0 [.ref (ad 5)] (WD ε ad v f u g) (DT (some (.int (S_X6_waiting_5 v f))) (WD ε ad v f u g)) := by
  refine CT.of (own := RX6) (by decide) rfl (Nat.le_of_ble_eq_true rfl) (fun κ C hQ => ?_)
  refine j_aload_n (i := 0) C dX6_waiting_0 rfl 0 rfl ?_
  refine g_5_laid (x := (v 12)) C dX6_waiting_1 lf_X6_15 rfl ?_
  refine j_if_eq (tgt := 31) C dX6_waiting_4 (by decide) (fun c_1 => ?_) (fun c_1 => ?_)
  · refine j_iconst (x := 0) C dX6_waiting_31 (by decide) ?_
    have hs : S_X6_waiting_5 v f = 0 := by unfold S_X6_waiting_5; rw [if_pos c_1]
    exact j_iret C hQ rfl dX6_waiting_32 (dt_i hs)
  · refine j_aload_n (i := 0) C dX6_waiting_7 rfl 0 rfl ?_
    refine g_5_memory C dX6_waiting_8 lf_X6_9 ?_
    refine j_aload_n (i := 0) C dX6_waiting_11 rfl 0 rfl ?_
    refine g_5_available (x := (v 15)) C dX6_waiting_12 lf_X6_35 rfl ?_
    refine j_iconst (x := 2) C dX6_waiting_15 (by decide) ?_
    refine j_iadd C dX6_waiting_16 ?_
    refine c_V (As := [.int ((v 15) + 2)]) (rest := []) (st1 := [.int (S_X5_two v f ((v 15) + 2))]) C (c_X5_two ε ad v f u g ((v 15) + 2)  ) mv_X5_two lm_X6_41 dX6_waiting_17 1 wl_1 rfl rfl rfl (by decide) (Nat.le_of_ble_eq_true rfl) rfl ?_
    refine j_aload_n (i := 0) C dX6_waiting_20 rfl 0 rfl ?_
    refine g_5_taken (x := (v 17)) C dX6_waiting_21 lf_X6_23 rfl ?_
    refine j_isub C dX6_waiting_24 ?_
    refine j_ldc C dX6_waiting_25 li_X6_47 ?_
    refine j_iand C dX6_waiting_27 ?_
    refine j_goto (tgt := 32) C dX6_waiting_28 (by decide) ?_
    have hs : S_X6_waiting_5 v f = (((S_X5_two v f ((v 15) + 2)) - (v 17)) &&& 65535) := by unfold S_X6_waiting_5; rw [if_neg c_1]
    exact j_iret C hQ rfl dX6_waiting_32 (dt_i hs)

def S_X6_waiting_6 (v : Nat → Int32) (f : Nat → Nat → Int32)  : Int32 :=
  if (v 20) = 0 then 0
  else (((S_X5_two v f ((v 23) + 2)) - (v 25)) &&& 65535)
set_option maxHeartbeats 1000000 in
set_option maxRecDepth 100000 in
theorem c_X6_waiting_6 (ε : ET) (ad : Nat → Nat) (v : Nat → Int32) (f : Nat → Nat → Int32) (u : Nat → Int32) (g : Nat → Nat → Int32)   : CT ε yX6_waiting cX6_waiting 1 (some .int) 2 42 0 0 [.ref (ad 6)] (WD ε ad v f u g) (DT (some (.int (S_X6_waiting_6 v f))) (WD ε ad v f u g)) := by
  refine CT.of (own := RX6) (by decide) rfl (Nat.le_of_ble_eq_true rfl) (fun κ C hQ => ?_)
  refine j_aload_n (i := 0) C dX6_waiting_0 rfl 0 rfl ?_
  refine g_6_laid (x := (v 20)) C dX6_waiting_1 lf_X6_15 rfl ?_
  refine j_if_eq (tgt := 31) C dX6_waiting_4 (by decide) (fun c_1 => ?_) (fun c_1 => ?_)
  · refine j_iconst (x := 0) C dX6_waiting_31 (by decide) ?_
    have hs : S_X6_waiting_6 v f = 0 := by unfold S_X6_waiting_6; rw [if_pos c_1]
    exact j_iret C hQ rfl dX6_waiting_32 (dt_i hs)
  · refine j_aload_n (i := 0) C dX6_waiting_7 rfl 0 rfl ?_
    refine g_6_memory C dX6_waiting_8 lf_X6_9 ?_
    refine j_aload_n (i := 0) C dX6_waiting_11 rfl 0 rfl ?_
    refine g_6_available (x := (v 23)) C dX6_waiting_12 lf_X6_35 rfl ?_
    refine j_iconst (x := 2) C dX6_waiting_15 (by decide) ?_
    refine j_iadd C dX6_waiting_16 ?_
    refine c_V (As := [.int ((v 23) + 2)]) (rest := []) (st1 := [.int (S_X5_two v f ((v 23) + 2))]) C (c_X5_two ε ad v f u g ((v 23) + 2)  ) mv_X5_two lm_X6_41 dX6_waiting_17 1 wl_1 rfl rfl rfl (by decide) (Nat.le_of_ble_eq_true rfl) rfl ?_
    refine j_aload_n (i := 0) C dX6_waiting_20 rfl 0 rfl ?_
    refine g_6_taken (x := (v 25)) C dX6_waiting_21 lf_X6_23 rfl ?_
    refine j_isub C dX6_waiting_24 ?_
    refine j_ldc C dX6_waiting_25 li_X6_47 ?_
    refine j_iand C dX6_waiting_27 ?_
    refine j_goto (tgt := 32) C dX6_waiting_28 (by decide) ?_
    have hs : S_X6_waiting_6 v f = (((S_X5_two v f ((v 23) + 2)) - (v 25)) &&& 65535) := by unfold S_X6_waiting_6; rw [if_neg c_1]
    exact j_iret C hQ rfl dX6_waiting_32 (dt_i hs)

def Q_X6_nextHead_4_1 (v : Nat → Int32) (f : Nat → Nat → Int32) : Int32 := (S_X5_two v f (((v 7) + 4) + (2 * (S_X6_placeOf_4 v f (v 9)))))
def S_X6_nextHead_4 (v : Nat → Int32) (f : Nat → Nat → Int32)  : Int32 :=
  (Q_X6_nextHead_4_1 v f)
set_option maxHeartbeats 1000000 in
set_option maxRecDepth 100000 in
theorem c_X6_nextHead_4 (ε : ET) (ad : Nat → Nat) (v : Nat → Int32) (f : Nat → Nat → Int32) (u : Nat → Int32) (g : Nat → Nat → Int32)   : CT ε yX6_nextHead cX6_nextHead 1 (some .int) 2 42 0 0 [.ref (ad 4)] (WD ε ad v f u g) (DT (some (.int (S_X6_nextHead_4 v f))) (WD ε ad v f u g)) := by
  refine CT.of (own := RX6) (by decide) rfl (Nat.le_of_ble_eq_true rfl) (fun κ C hQ => ?_)
  refine j_aload_n (i := 0) C dX6_nextHead_0 rfl 0 rfl ?_
  refine g_4_memory C dX6_nextHead_1 lf_X6_9 ?_
  refine j_aload_n (i := 0) C dX6_nextHead_4 rfl 0 rfl ?_
  refine g_4_available (x := (v 7)) C dX6_nextHead_5 lf_X6_35 rfl ?_
  refine j_iconst (x := 4) C dX6_nextHead_8 (by decide) ?_
  refine j_iadd C dX6_nextHead_9 ?_
  refine j_iconst (x := 2) C dX6_nextHead_10 (by decide) ?_
  refine j_aload_n (i := 0) C dX6_nextHead_11 rfl 0 rfl ?_
  refine j_aload_n (i := 0) C dX6_nextHead_12 rfl 0 rfl ?_
  refine g_4_taken (x := (v 9)) C dX6_nextHead_13 lf_X6_23 rfl ?_
  refine c_V (As := [.int (v 9)]) (rest := [.int 2, .int ((v 7) + 4), .ref (ad 1)]) (st1 := [.int (S_X6_placeOf_4 v f (v 9)), .int 2, .int ((v 7) + 4), .ref (ad 1)]) C (c_X6_placeOf_4 ε ad v f u g (v 9)  ) mv_X6_placeOf lm_X6_48 dX6_nextHead_16 4 wl_4 rfl rfl rfl (by decide) (Nat.le_of_ble_eq_true rfl) rfl ?_
  refine j_imul C dX6_nextHead_19 ?_
  refine j_iadd C dX6_nextHead_20 ?_
  refine c_V (As := [.int (((v 7) + 4) + (2 * (S_X6_placeOf_4 v f (v 9))))]) (rest := []) (st1 := [.int (Q_X6_nextHead_4_1 v f)]) C (c_X5_two ε ad v f u g (((v 7) + 4) + (2 * (S_X6_placeOf_4 v f (v 9))))  ) mv_X5_two lm_X6_41 dX6_nextHead_21 1 wl_1 rfl rfl rfl (by decide) (Nat.le_of_ble_eq_true rfl) rfl ?_
  have hs : S_X6_nextHead_4 v f = (Q_X6_nextHead_4_1 v f) := by unfold S_X6_nextHead_4; rfl
  exact j_iret C hQ rfl dX6_nextHead_24 (dt_i hs)

def Q_X6_nextHead_5_1 (v : Nat → Int32) (f : Nat → Nat → Int32) : Int32 := (S_X5_two v f (((v 15) + 4) + (2 * (S_X6_placeOf_5 v f (v 17)))))
def S_X6_nextHead_5 (v : Nat → Int32) (f : Nat → Nat → Int32)  : Int32 :=
  (Q_X6_nextHead_5_1 v f)
set_option maxHeartbeats 1000000 in
set_option maxRecDepth 100000 in
theorem c_X6_nextHead_5 (ε : ET) (ad : Nat → Nat) (v : Nat → Int32) (f : Nat → Nat → Int32) (u : Nat → Int32) (g : Nat → Nat → Int32)   : CT ε yX6_nextHead cX6_nextHead 1 (some .int) 2 42 0 0 [.ref (ad 5)] (WD ε ad v f u g) (DT (some (.int (S_X6_nextHead_5 v f))) (WD ε ad v f u g)) := by
  refine CT.of (own := RX6) (by decide) rfl (Nat.le_of_ble_eq_true rfl) (fun κ C hQ => ?_)
  refine j_aload_n (i := 0) C dX6_nextHead_0 rfl 0 rfl ?_
  refine g_5_memory C dX6_nextHead_1 lf_X6_9 ?_
  refine j_aload_n (i := 0) C dX6_nextHead_4 rfl 0 rfl ?_
  refine g_5_available (x := (v 15)) C dX6_nextHead_5 lf_X6_35 rfl ?_
  refine j_iconst (x := 4) C dX6_nextHead_8 (by decide) ?_
  refine j_iadd C dX6_nextHead_9 ?_
  refine j_iconst (x := 2) C dX6_nextHead_10 (by decide) ?_
  refine j_aload_n (i := 0) C dX6_nextHead_11 rfl 0 rfl ?_
  refine j_aload_n (i := 0) C dX6_nextHead_12 rfl 0 rfl ?_
  refine g_5_taken (x := (v 17)) C dX6_nextHead_13 lf_X6_23 rfl ?_
  refine c_V (As := [.int (v 17)]) (rest := [.int 2, .int ((v 15) + 4), .ref (ad 1)]) (st1 := [.int (S_X6_placeOf_5 v f (v 17)), .int 2, .int ((v 15) + 4), .ref (ad 1)]) C (c_X6_placeOf_5 ε ad v f u g (v 17)  ) mv_X6_placeOf lm_X6_48 dX6_nextHead_16 5 wl_5 rfl rfl rfl (by decide) (Nat.le_of_ble_eq_true rfl) rfl ?_
  refine j_imul C dX6_nextHead_19 ?_
  refine j_iadd C dX6_nextHead_20 ?_
  refine c_V (As := [.int (((v 15) + 4) + (2 * (S_X6_placeOf_5 v f (v 17))))]) (rest := []) (st1 := [.int (Q_X6_nextHead_5_1 v f)]) C (c_X5_two ε ad v f u g (((v 15) + 4) + (2 * (S_X6_placeOf_5 v f (v 17))))  ) mv_X5_two lm_X6_41 dX6_nextHead_21 1 wl_1 rfl rfl rfl (by decide) (Nat.le_of_ble_eq_true rfl) rfl ?_
  have hs : S_X6_nextHead_5 v f = (Q_X6_nextHead_5_1 v f) := by unfold S_X6_nextHead_5; rfl
  exact j_iret C hQ rfl dX6_nextHead_24 (dt_i hs)

def Q_X6_nextHead_6_1 (v : Nat → Int32) (f : Nat → Nat → Int32) : Int32 := (S_X5_two v f (((v 23) + 4) + (2 * (S_X6_placeOf_6 v f (v 25)))))
def S_X6_nextHead_6 (v : Nat → Int32) (f : Nat → Nat → Int32)  : Int32 :=
  (Q_X6_nextHead_6_1 v f)
set_option maxHeartbeats 1000000 in
set_option maxRecDepth 100000 in
theorem c_X6_nextHead_6 (ε : ET) (ad : Nat → Nat) (v : Nat → Int32) (f : Nat → Nat → Int32) (u : Nat → Int32) (g : Nat → Nat → Int32)   : CT ε yX6_nextHead cX6_nextHead 1 (some .int) 2 42 0 0 [.ref (ad 6)] (WD ε ad v f u g) (DT (some (.int (S_X6_nextHead_6 v f))) (WD ε ad v f u g)) := by
  refine CT.of (own := RX6) (by decide) rfl (Nat.le_of_ble_eq_true rfl) (fun κ C hQ => ?_)
  refine j_aload_n (i := 0) C dX6_nextHead_0 rfl 0 rfl ?_
  refine g_6_memory C dX6_nextHead_1 lf_X6_9 ?_
  refine j_aload_n (i := 0) C dX6_nextHead_4 rfl 0 rfl ?_
  refine g_6_available (x := (v 23)) C dX6_nextHead_5 lf_X6_35 rfl ?_
  refine j_iconst (x := 4) C dX6_nextHead_8 (by decide) ?_
  refine j_iadd C dX6_nextHead_9 ?_
  refine j_iconst (x := 2) C dX6_nextHead_10 (by decide) ?_
  refine j_aload_n (i := 0) C dX6_nextHead_11 rfl 0 rfl ?_
  refine j_aload_n (i := 0) C dX6_nextHead_12 rfl 0 rfl ?_
  refine g_6_taken (x := (v 25)) C dX6_nextHead_13 lf_X6_23 rfl ?_
  refine c_V (As := [.int (v 25)]) (rest := [.int 2, .int ((v 23) + 4), .ref (ad 1)]) (st1 := [.int (S_X6_placeOf_6 v f (v 25)), .int 2, .int ((v 23) + 4), .ref (ad 1)]) C (c_X6_placeOf_6 ε ad v f u g (v 25)  ) mv_X6_placeOf lm_X6_48 dX6_nextHead_16 6 wl_6 rfl rfl rfl (by decide) (Nat.le_of_ble_eq_true rfl) rfl ?_
  refine j_imul C dX6_nextHead_19 ?_
  refine j_iadd C dX6_nextHead_20 ?_
  refine c_V (As := [.int (((v 23) + 4) + (2 * (S_X6_placeOf_6 v f (v 25))))]) (rest := []) (st1 := [.int (Q_X6_nextHead_6_1 v f)]) C (c_X5_two ε ad v f u g (((v 23) + 4) + (2 * (S_X6_placeOf_6 v f (v 25))))  ) mv_X5_two lm_X6_41 dX6_nextHead_21 1 wl_1 rfl rfl rfl (by decide) (Nat.le_of_ble_eq_true rfl) rfl ?_
  have hs : S_X6_nextHead_6 v f = (Q_X6_nextHead_6_1 v f) := by unfold S_X6_nextHead_6; rfl
  exact j_iret C hQ rfl dX6_nextHead_24 (dt_i hs)

def Q_X6_giveBack_4_1 (v : Nat → Int32) (f : Nat → Nat → Int32) (a : Int32) (b : Int32) : (Nat → Nat → Int32) := (S_X5_setNumber v f (((v 8) + 4) + (8 * (S_X6_placeOf_4 v f (v 10)))) ((a : Int32).toInt64) 4)
def Q_X6_giveBack_4_2 (v : Nat → Int32) (f : Nat → Nat → Int32) (a : Int32) (b : Int32) : (Nat → Nat → Int32) := (S_X5_setNumber v (Q_X6_giveBack_4_1 v f a b) ((((v 8) + 4) + (8 * (S_X6_placeOf_4 v f (v 10)))) + 4) ((b : Int32).toInt64) 4)
def Q_X6_giveBack_4_3 (v : Nat → Int32) (f : Nat → Nat → Int32) (a : Int32) (b : Int32) : Int32 := (S_X8_oneMore v (Q_X6_giveBack_4_2 v f a b) (v 10))
def Q_X6_giveBack_4_4 (v : Nat → Int32) (f : Nat → Nat → Int32) (a : Int32) (b : Int32) : (Nat → Nat → Int32) := (S_X5_setNumber (upd v 10 (Q_X6_giveBack_4_3 v f a b)) (Q_X6_giveBack_4_2 v f a b) (((upd v 10 (Q_X6_giveBack_4_3 v f a b)) 8) + 2) (((Q_X6_giveBack_4_3 v f a b) : Int32).toInt64) 2)
def Q_X6_giveBack_4_5 (v : Nat → Int32) (f : Nat → Nat → Int32) (a : Int32) (b : Int32) : Int32 := (S_X5_two (upd v 10 (Q_X6_giveBack_4_3 v f a b)) (Q_X6_giveBack_4_4 v f a b) ((upd v 10 (Q_X6_giveBack_4_3 v f a b)) 7))
def S_X6_giveBack_4 (v : Nat → Int32) (f : Nat → Nat → Int32) (a : Int32) (b : Int32) : (Nat → Int32) × (Nat → Nat → Int32) :=
  if ((Q_X6_giveBack_4_5 v f a b) &&& 1) = 0 then ((upd (upd v 10 (Q_X6_giveBack_4_3 v f a b)) 11 (((upd v 10 (Q_X6_giveBack_4_3 v f a b)) 11) + 1)), (Q_X6_giveBack_4_4 v f a b))
  else ((upd v 10 (Q_X6_giveBack_4_3 v f a b)), (Q_X6_giveBack_4_4 v f a b))
set_option maxHeartbeats 1000000 in
set_option maxRecDepth 100000 in
theorem c_X6_giveBack_4 (ε : ET) (ad : Nat → Nat) (v : Nat → Int32) (f : Nat → Nat → Int32) (u : Nat → Int32) (g : Nat → Nat → Int32) (a : Int32) (b : Int32)  : CT ε yX6_giveBack cX6_giveBack 4 none 2 47 0 0 [.ref (ad 4), .int a, .int b] (WD ε ad v f u g) (DT none (WD ε ad ((S_X6_giveBack_4 v f a b).1) ((S_X6_giveBack_4 v f a b).2) u g)) := by
  refine CT.of (own := RX6) (by decide) rfl (Nat.le_of_ble_eq_true rfl) (fun κ C hQ => ?_)
  refine j_aload_n (i := 0) C dX6_giveBack_0 rfl 0 rfl ?_
  refine g_4_used (x := (v 8)) C dX6_giveBack_1 lf_X6_38 rfl ?_
  refine j_iconst (x := 4) C dX6_giveBack_4 (by decide) ?_
  refine j_iadd C dX6_giveBack_5 ?_
  refine j_bipush (x := 8) C dX6_giveBack_6 (by decide) ?_
  refine j_aload_n (i := 0) C dX6_giveBack_8 rfl 0 rfl ?_
  refine j_aload_n (i := 0) C dX6_giveBack_9 rfl 0 rfl ?_
  refine g_4_given (x := (v 10)) C dX6_giveBack_10 lf_X6_26 rfl ?_
  refine c_V (As := [.int (v 10)]) (rest := [.int 8, .int ((v 8) + 4)]) (st1 := [.int (S_X6_placeOf_4 v f (v 10)), .int 8, .int ((v 8) + 4)]) C (c_X6_placeOf_4 ε ad v f u g (v 10)  ) mv_X6_placeOf lm_X6_48 dX6_giveBack_13 4 wl_4 rfl rfl rfl (by decide) (Nat.le_of_ble_eq_true rfl) rfl ?_
  refine j_imul C dX6_giveBack_16 ?_
  refine j_iadd C dX6_giveBack_17 ?_
  refine j_istore_n (i := 3) (lv' := [(3, .int (((v 8) + 4) + (8 * (S_X6_placeOf_4 v f (v 10))))), (0, .ref (ad 4)), (1, .int a), (2, .int b)]) C dX6_giveBack_18 rfl (by decide) rfl ?_
  refine j_aload_n (i := 0) C dX6_giveBack_19 rfl 1 rfl ?_
  refine g_4_memory C dX6_giveBack_20 lf_X6_9 ?_
  refine j_iload_n (i := 3) C dX6_giveBack_23 rfl 0 rfl ?_
  refine j_iconst (x := 4) C dX6_giveBack_24 (by decide) ?_
  refine j_iload_n (i := 1) C dX6_giveBack_25 rfl 2 rfl ?_
  refine j_i2l C dX6_giveBack_26 ?_
  refine c_V (As := [.int (((v 8) + 4) + (8 * (S_X6_placeOf_4 v f (v 10)))), .int 4, .long ((a : Int32).toInt64)]) (rest := []) (st1 := []) (ω1 := (WD ε ad v (Q_X6_giveBack_4_1 v f a b) u g)) C (c_X5_setNumber ε ad v f u g (((v 8) + 4) + (8 * (S_X6_placeOf_4 v f (v 10)))) ((a : Int32).toInt64) 4  (by first | assumption | omega | decide)) mv_X5_setNumber lm_X6_51 dX6_giveBack_27 1 wl_1 rfl rfl rfl (by decide) (Nat.le_of_ble_eq_true rfl) rfl ?_
  refine j_aload_n (i := 0) C dX6_giveBack_30 rfl 1 rfl ?_
  refine g_4_memory C dX6_giveBack_31 lf_X6_9 ?_
  refine j_iload_n (i := 3) C dX6_giveBack_34 rfl 0 rfl ?_
  refine j_iconst (x := 4) C dX6_giveBack_35 (by decide) ?_
  refine j_iadd C dX6_giveBack_36 ?_
  refine j_iconst (x := 4) C dX6_giveBack_37 (by decide) ?_
  refine j_iload_n (i := 2) C dX6_giveBack_38 rfl 3 rfl ?_
  refine j_i2l C dX6_giveBack_39 ?_
  refine c_V (As := [.int ((((v 8) + 4) + (8 * (S_X6_placeOf_4 v f (v 10)))) + 4), .int 4, .long ((b : Int32).toInt64)]) (rest := []) (st1 := []) (ω1 := (WD ε ad v (Q_X6_giveBack_4_2 v f a b) u g)) C (c_X5_setNumber ε ad v (Q_X6_giveBack_4_1 v f a b) u g ((((v 8) + 4) + (8 * (S_X6_placeOf_4 v f (v 10)))) + 4) ((b : Int32).toInt64) 4  (by first | assumption | omega | decide)) mv_X5_setNumber lm_X6_51 dX6_giveBack_40 1 wl_1 rfl rfl rfl (by decide) (Nat.le_of_ble_eq_true rfl) rfl ?_
  refine j_aload_n (i := 0) C dX6_giveBack_43 rfl 1 rfl ?_
  refine j_aload_n (i := 0) C dX6_giveBack_44 rfl 1 rfl ?_
  refine g_4_given (x := (v 10)) C dX6_giveBack_45 lf_X6_26 rfl ?_
  refine c_SN (As := [.int (v 10)]) (rest := [.ref (ad 4)]) (st1 := [.int (Q_X6_giveBack_4_3 v f a b), .ref (ad 4)]) C (c_X8_oneMore ε ad v (Q_X6_giveBack_4_2 v f a b) u g (v 10)  ) mt_X8_oneMore nw_X6_55 dX6_giveBack_48 rfl rfl (by decide) (Nat.le_of_ble_eq_true rfl) rfl ?_
  refine p_4_given C dX6_giveBack_51 lf_X6_26 ?_
  refine j_aload_n (i := 0) C dX6_giveBack_54 rfl 1 rfl ?_
  refine g_4_memory C dX6_giveBack_55 lf_X6_9 ?_
  refine j_aload_n (i := 0) C dX6_giveBack_58 rfl 1 rfl ?_
  refine g_4_used (x := ((upd v 10 (Q_X6_giveBack_4_3 v f a b)) 8)) C dX6_giveBack_59 lf_X6_38 rfl ?_
  refine j_iconst (x := 2) C dX6_giveBack_62 (by decide) ?_
  refine j_iadd C dX6_giveBack_63 ?_
  refine j_iconst (x := 2) C dX6_giveBack_64 (by decide) ?_
  refine j_aload_n (i := 0) C dX6_giveBack_65 rfl 1 rfl ?_
  refine g_4_given (x := (Q_X6_giveBack_4_3 v f a b)) C dX6_giveBack_66 lf_X6_26 rfl ?_
  refine j_i2l C dX6_giveBack_69 ?_
  refine c_V (As := [.int (((upd v 10 (Q_X6_giveBack_4_3 v f a b)) 8) + 2), .int 2, .long (((Q_X6_giveBack_4_3 v f a b) : Int32).toInt64)]) (rest := []) (st1 := []) (ω1 := (WD ε ad (upd v 10 (Q_X6_giveBack_4_3 v f a b)) (Q_X6_giveBack_4_4 v f a b) u g)) C (c_X5_setNumber ε ad (upd v 10 (Q_X6_giveBack_4_3 v f a b)) (Q_X6_giveBack_4_2 v f a b) u g (((upd v 10 (Q_X6_giveBack_4_3 v f a b)) 8) + 2) (((Q_X6_giveBack_4_3 v f a b) : Int32).toInt64) 2  (by first | assumption | omega | decide)) mv_X5_setNumber lm_X6_51 dX6_giveBack_70 1 wl_1 rfl rfl rfl (by decide) (Nat.le_of_ble_eq_true rfl) rfl ?_
  refine j_aload_n (i := 0) C dX6_giveBack_73 rfl 1 rfl ?_
  refine g_4_memory C dX6_giveBack_74 lf_X6_9 ?_
  refine j_aload_n (i := 0) C dX6_giveBack_77 rfl 1 rfl ?_
  refine g_4_available (x := ((upd v 10 (Q_X6_giveBack_4_3 v f a b)) 7)) C dX6_giveBack_78 lf_X6_35 rfl ?_
  refine c_V (As := [.int ((upd v 10 (Q_X6_giveBack_4_3 v f a b)) 7)]) (rest := []) (st1 := [.int (Q_X6_giveBack_4_5 v f a b)]) C (c_X5_two ε ad (upd v 10 (Q_X6_giveBack_4_3 v f a b)) (Q_X6_giveBack_4_4 v f a b) u g ((upd v 10 (Q_X6_giveBack_4_3 v f a b)) 7)  ) mv_X5_two lm_X6_41 dX6_giveBack_81 1 wl_1 rfl rfl rfl (by decide) (Nat.le_of_ble_eq_true rfl) rfl ?_
  refine j_iconst (x := 1) C dX6_giveBack_84 (by decide) ?_
  refine j_iand C dX6_giveBack_85 ?_
  refine j_if_ne (tgt := 99) C dX6_giveBack_86 (by decide) (fun c_1 => ?_) (fun c_1 => ?_)
  · have hs : S_X6_giveBack_4 v f a b = ((upd v 10 (Q_X6_giveBack_4_3 v f a b)), (Q_X6_giveBack_4_4 v f a b)) := by unfold S_X6_giveBack_4; rw [if_neg c_1]
    exact j_vret C hQ rfl dX6_giveBack_99 (dt_nvf hs)
  · refine j_aload_n (i := 0) C dX6_giveBack_89 rfl 1 rfl ?_
    refine j_dup C dX6_giveBack_90 rfl ?_
    refine g_4_signals (x := ((upd v 10 (Q_X6_giveBack_4_3 v f a b)) 11)) C dX6_giveBack_91 lf_X6_29 rfl ?_
    refine j_iconst (x := 1) C dX6_giveBack_94 (by decide) ?_
    refine j_iadd C dX6_giveBack_95 ?_
    refine p_4_signals C dX6_giveBack_96 lf_X6_29 ?_
    have hs : S_X6_giveBack_4 v f a b = ((upd (upd v 10 (Q_X6_giveBack_4_3 v f a b)) 11 (((upd v 10 (Q_X6_giveBack_4_3 v f a b)) 11) + 1)), (Q_X6_giveBack_4_4 v f a b)) := by unfold S_X6_giveBack_4; rw [if_pos c_1]
    exact j_vret C hQ rfl dX6_giveBack_99 (dt_nvf hs)

def Q_X6_giveBack_5_1 (v : Nat → Int32) (f : Nat → Nat → Int32) (a : Int32) (b : Int32) : (Nat → Nat → Int32) := (S_X5_setNumber v f (((v 16) + 4) + (8 * (S_X6_placeOf_5 v f (v 18)))) ((a : Int32).toInt64) 4)
def Q_X6_giveBack_5_2 (v : Nat → Int32) (f : Nat → Nat → Int32) (a : Int32) (b : Int32) : (Nat → Nat → Int32) := (S_X5_setNumber v (Q_X6_giveBack_5_1 v f a b) ((((v 16) + 4) + (8 * (S_X6_placeOf_5 v f (v 18)))) + 4) ((b : Int32).toInt64) 4)
def Q_X6_giveBack_5_3 (v : Nat → Int32) (f : Nat → Nat → Int32) (a : Int32) (b : Int32) : Int32 := (S_X8_oneMore v (Q_X6_giveBack_5_2 v f a b) (v 18))
def Q_X6_giveBack_5_4 (v : Nat → Int32) (f : Nat → Nat → Int32) (a : Int32) (b : Int32) : (Nat → Nat → Int32) := (S_X5_setNumber (upd v 18 (Q_X6_giveBack_5_3 v f a b)) (Q_X6_giveBack_5_2 v f a b) (((upd v 18 (Q_X6_giveBack_5_3 v f a b)) 16) + 2) (((Q_X6_giveBack_5_3 v f a b) : Int32).toInt64) 2)
def Q_X6_giveBack_5_5 (v : Nat → Int32) (f : Nat → Nat → Int32) (a : Int32) (b : Int32) : Int32 := (S_X5_two (upd v 18 (Q_X6_giveBack_5_3 v f a b)) (Q_X6_giveBack_5_4 v f a b) ((upd v 18 (Q_X6_giveBack_5_3 v f a b)) 15))
def S_X6_giveBack_5 (v : Nat → Int32) (f : Nat → Nat → Int32) (a : Int32) (b : Int32) : (Nat → Int32) × (Nat → Nat → Int32) :=
  if ((Q_X6_giveBack_5_5 v f a b) &&& 1) = 0 then ((upd (upd v 18 (Q_X6_giveBack_5_3 v f a b)) 19 (((upd v 18 (Q_X6_giveBack_5_3 v f a b)) 19) + 1)), (Q_X6_giveBack_5_4 v f a b))
  else ((upd v 18 (Q_X6_giveBack_5_3 v f a b)), (Q_X6_giveBack_5_4 v f a b))
set_option maxHeartbeats 1000000 in
set_option maxRecDepth 100000 in
theorem c_X6_giveBack_5 (ε : ET) (ad : Nat → Nat) (v : Nat → Int32) (f : Nat → Nat → Int32) (u : Nat → Int32) (g : Nat → Nat → Int32) (a : Int32) (b : Int32)  : CT ε yX6_giveBack cX6_giveBack 4 none 2 47 0 0 [.ref (ad 5), .int a, .int b] (WD ε ad v f u g) (DT none (WD ε ad ((S_X6_giveBack_5 v f a b).1) ((S_X6_giveBack_5 v f a b).2) u g)) := by
  refine CT.of (own := RX6) (by decide) rfl (Nat.le_of_ble_eq_true rfl) (fun κ C hQ => ?_)
  refine j_aload_n (i := 0) C dX6_giveBack_0 rfl 0 rfl ?_
  refine g_5_used (x := (v 16)) C dX6_giveBack_1 lf_X6_38 rfl ?_
  refine j_iconst (x := 4) C dX6_giveBack_4 (by decide) ?_
  refine j_iadd C dX6_giveBack_5 ?_
  refine j_bipush (x := 8) C dX6_giveBack_6 (by decide) ?_
  refine j_aload_n (i := 0) C dX6_giveBack_8 rfl 0 rfl ?_
  refine j_aload_n (i := 0) C dX6_giveBack_9 rfl 0 rfl ?_
  refine g_5_given (x := (v 18)) C dX6_giveBack_10 lf_X6_26 rfl ?_
  refine c_V (As := [.int (v 18)]) (rest := [.int 8, .int ((v 16) + 4)]) (st1 := [.int (S_X6_placeOf_5 v f (v 18)), .int 8, .int ((v 16) + 4)]) C (c_X6_placeOf_5 ε ad v f u g (v 18)  ) mv_X6_placeOf lm_X6_48 dX6_giveBack_13 5 wl_5 rfl rfl rfl (by decide) (Nat.le_of_ble_eq_true rfl) rfl ?_
  refine j_imul C dX6_giveBack_16 ?_
  refine j_iadd C dX6_giveBack_17 ?_
  refine j_istore_n (i := 3) (lv' := [(3, .int (((v 16) + 4) + (8 * (S_X6_placeOf_5 v f (v 18))))), (0, .ref (ad 5)), (1, .int a), (2, .int b)]) C dX6_giveBack_18 rfl (by decide) rfl ?_
  refine j_aload_n (i := 0) C dX6_giveBack_19 rfl 1 rfl ?_
  refine g_5_memory C dX6_giveBack_20 lf_X6_9 ?_
  refine j_iload_n (i := 3) C dX6_giveBack_23 rfl 0 rfl ?_
  refine j_iconst (x := 4) C dX6_giveBack_24 (by decide) ?_
  refine j_iload_n (i := 1) C dX6_giveBack_25 rfl 2 rfl ?_
  refine j_i2l C dX6_giveBack_26 ?_
  refine c_V (As := [.int (((v 16) + 4) + (8 * (S_X6_placeOf_5 v f (v 18)))), .int 4, .long ((a : Int32).toInt64)]) (rest := []) (st1 := []) (ω1 := (WD ε ad v (Q_X6_giveBack_5_1 v f a b) u g)) C (c_X5_setNumber ε ad v f u g (((v 16) + 4) + (8 * (S_X6_placeOf_5 v f (v 18)))) ((a : Int32).toInt64) 4  (by first | assumption | omega | decide)) mv_X5_setNumber lm_X6_51 dX6_giveBack_27 1 wl_1 rfl rfl rfl (by decide) (Nat.le_of_ble_eq_true rfl) rfl ?_
  refine j_aload_n (i := 0) C dX6_giveBack_30 rfl 1 rfl ?_
  refine g_5_memory C dX6_giveBack_31 lf_X6_9 ?_
  refine j_iload_n (i := 3) C dX6_giveBack_34 rfl 0 rfl ?_
  refine j_iconst (x := 4) C dX6_giveBack_35 (by decide) ?_
  refine j_iadd C dX6_giveBack_36 ?_
  refine j_iconst (x := 4) C dX6_giveBack_37 (by decide) ?_
  refine j_iload_n (i := 2) C dX6_giveBack_38 rfl 3 rfl ?_
  refine j_i2l C dX6_giveBack_39 ?_
  refine c_V (As := [.int ((((v 16) + 4) + (8 * (S_X6_placeOf_5 v f (v 18)))) + 4), .int 4, .long ((b : Int32).toInt64)]) (rest := []) (st1 := []) (ω1 := (WD ε ad v (Q_X6_giveBack_5_2 v f a b) u g)) C (c_X5_setNumber ε ad v (Q_X6_giveBack_5_1 v f a b) u g ((((v 16) + 4) + (8 * (S_X6_placeOf_5 v f (v 18)))) + 4) ((b : Int32).toInt64) 4  (by first | assumption | omega | decide)) mv_X5_setNumber lm_X6_51 dX6_giveBack_40 1 wl_1 rfl rfl rfl (by decide) (Nat.le_of_ble_eq_true rfl) rfl ?_
  refine j_aload_n (i := 0) C dX6_giveBack_43 rfl 1 rfl ?_
  refine j_aload_n (i := 0) C dX6_giveBack_44 rfl 1 rfl ?_
  refine g_5_given (x := (v 18)) C dX6_giveBack_45 lf_X6_26 rfl ?_
  refine c_SN (As := [.int (v 18)]) (rest := [.ref (ad 5)]) (st1 := [.int (Q_X6_giveBack_5_3 v f a b), .ref (ad 5)]) C (c_X8_oneMore ε ad v (Q_X6_giveBack_5_2 v f a b) u g (v 18)  ) mt_X8_oneMore nw_X6_55 dX6_giveBack_48 rfl rfl (by decide) (Nat.le_of_ble_eq_true rfl) rfl ?_
  refine p_5_given C dX6_giveBack_51 lf_X6_26 ?_
  refine j_aload_n (i := 0) C dX6_giveBack_54 rfl 1 rfl ?_
  refine g_5_memory C dX6_giveBack_55 lf_X6_9 ?_
  refine j_aload_n (i := 0) C dX6_giveBack_58 rfl 1 rfl ?_
  refine g_5_used (x := ((upd v 18 (Q_X6_giveBack_5_3 v f a b)) 16)) C dX6_giveBack_59 lf_X6_38 rfl ?_
  refine j_iconst (x := 2) C dX6_giveBack_62 (by decide) ?_
  refine j_iadd C dX6_giveBack_63 ?_
  refine j_iconst (x := 2) C dX6_giveBack_64 (by decide) ?_
  refine j_aload_n (i := 0) C dX6_giveBack_65 rfl 1 rfl ?_
  refine g_5_given (x := (Q_X6_giveBack_5_3 v f a b)) C dX6_giveBack_66 lf_X6_26 rfl ?_
  refine j_i2l C dX6_giveBack_69 ?_
  refine c_V (As := [.int (((upd v 18 (Q_X6_giveBack_5_3 v f a b)) 16) + 2), .int 2, .long (((Q_X6_giveBack_5_3 v f a b) : Int32).toInt64)]) (rest := []) (st1 := []) (ω1 := (WD ε ad (upd v 18 (Q_X6_giveBack_5_3 v f a b)) (Q_X6_giveBack_5_4 v f a b) u g)) C (c_X5_setNumber ε ad (upd v 18 (Q_X6_giveBack_5_3 v f a b)) (Q_X6_giveBack_5_2 v f a b) u g (((upd v 18 (Q_X6_giveBack_5_3 v f a b)) 16) + 2) (((Q_X6_giveBack_5_3 v f a b) : Int32).toInt64) 2  (by first | assumption | omega | decide)) mv_X5_setNumber lm_X6_51 dX6_giveBack_70 1 wl_1 rfl rfl rfl (by decide) (Nat.le_of_ble_eq_true rfl) rfl ?_
  refine j_aload_n (i := 0) C dX6_giveBack_73 rfl 1 rfl ?_
  refine g_5_memory C dX6_giveBack_74 lf_X6_9 ?_
  refine j_aload_n (i := 0) C dX6_giveBack_77 rfl 1 rfl ?_
  refine g_5_available (x := ((upd v 18 (Q_X6_giveBack_5_3 v f a b)) 15)) C dX6_giveBack_78 lf_X6_35 rfl ?_
  refine c_V (As := [.int ((upd v 18 (Q_X6_giveBack_5_3 v f a b)) 15)]) (rest := []) (st1 := [.int (Q_X6_giveBack_5_5 v f a b)]) C (c_X5_two ε ad (upd v 18 (Q_X6_giveBack_5_3 v f a b)) (Q_X6_giveBack_5_4 v f a b) u g ((upd v 18 (Q_X6_giveBack_5_3 v f a b)) 15)  ) mv_X5_two lm_X6_41 dX6_giveBack_81 1 wl_1 rfl rfl rfl (by decide) (Nat.le_of_ble_eq_true rfl) rfl ?_
  refine j_iconst (x := 1) C dX6_giveBack_84 (by decide) ?_
  refine j_iand C dX6_giveBack_85 ?_
  refine j_if_ne (tgt := 99) C dX6_giveBack_86 (by decide) (fun c_1 => ?_) (fun c_1 => ?_)
  · have hs : S_X6_giveBack_5 v f a b = ((upd v 18 (Q_X6_giveBack_5_3 v f a b)), (Q_X6_giveBack_5_4 v f a b)) := by unfold S_X6_giveBack_5; rw [if_neg c_1]
    exact j_vret C hQ rfl dX6_giveBack_99 (dt_nvf hs)
  · refine j_aload_n (i := 0) C dX6_giveBack_89 rfl 1 rfl ?_
    refine j_dup C dX6_giveBack_90 rfl ?_
    refine g_5_signals (x := ((upd v 18 (Q_X6_giveBack_5_3 v f a b)) 19)) C dX6_giveBack_91 lf_X6_29 rfl ?_
    refine j_iconst (x := 1) C dX6_giveBack_94 (by decide) ?_
    refine j_iadd C dX6_giveBack_95 ?_
    refine p_5_signals C dX6_giveBack_96 lf_X6_29 ?_
    have hs : S_X6_giveBack_5 v f a b = ((upd (upd v 18 (Q_X6_giveBack_5_3 v f a b)) 19 (((upd v 18 (Q_X6_giveBack_5_3 v f a b)) 19) + 1)), (Q_X6_giveBack_5_4 v f a b)) := by unfold S_X6_giveBack_5; rw [if_pos c_1]
    exact j_vret C hQ rfl dX6_giveBack_99 (dt_nvf hs)

def Q_X6_giveBack_6_1 (v : Nat → Int32) (f : Nat → Nat → Int32) (a : Int32) (b : Int32) : (Nat → Nat → Int32) := (S_X5_setNumber v f (((v 24) + 4) + (8 * (S_X6_placeOf_6 v f (v 26)))) ((a : Int32).toInt64) 4)
def Q_X6_giveBack_6_2 (v : Nat → Int32) (f : Nat → Nat → Int32) (a : Int32) (b : Int32) : (Nat → Nat → Int32) := (S_X5_setNumber v (Q_X6_giveBack_6_1 v f a b) ((((v 24) + 4) + (8 * (S_X6_placeOf_6 v f (v 26)))) + 4) ((b : Int32).toInt64) 4)
def Q_X6_giveBack_6_3 (v : Nat → Int32) (f : Nat → Nat → Int32) (a : Int32) (b : Int32) : Int32 := (S_X8_oneMore v (Q_X6_giveBack_6_2 v f a b) (v 26))
def Q_X6_giveBack_6_4 (v : Nat → Int32) (f : Nat → Nat → Int32) (a : Int32) (b : Int32) : (Nat → Nat → Int32) := (S_X5_setNumber (upd v 26 (Q_X6_giveBack_6_3 v f a b)) (Q_X6_giveBack_6_2 v f a b) (((upd v 26 (Q_X6_giveBack_6_3 v f a b)) 24) + 2) (((Q_X6_giveBack_6_3 v f a b) : Int32).toInt64) 2)
def Q_X6_giveBack_6_5 (v : Nat → Int32) (f : Nat → Nat → Int32) (a : Int32) (b : Int32) : Int32 := (S_X5_two (upd v 26 (Q_X6_giveBack_6_3 v f a b)) (Q_X6_giveBack_6_4 v f a b) ((upd v 26 (Q_X6_giveBack_6_3 v f a b)) 23))
def S_X6_giveBack_6 (v : Nat → Int32) (f : Nat → Nat → Int32) (a : Int32) (b : Int32) : (Nat → Int32) × (Nat → Nat → Int32) :=
  if ((Q_X6_giveBack_6_5 v f a b) &&& 1) = 0 then ((upd (upd v 26 (Q_X6_giveBack_6_3 v f a b)) 27 (((upd v 26 (Q_X6_giveBack_6_3 v f a b)) 27) + 1)), (Q_X6_giveBack_6_4 v f a b))
  else ((upd v 26 (Q_X6_giveBack_6_3 v f a b)), (Q_X6_giveBack_6_4 v f a b))
set_option maxHeartbeats 1000000 in
set_option maxRecDepth 100000 in
theorem c_X6_giveBack_6 (ε : ET) (ad : Nat → Nat) (v : Nat → Int32) (f : Nat → Nat → Int32) (u : Nat → Int32) (g : Nat → Nat → Int32) (a : Int32) (b : Int32)  : CT ε yX6_giveBack cX6_giveBack 4 none 2 47 0 0 [.ref (ad 6), .int a, .int b] (WD ε ad v f u g) (DT none (WD ε ad ((S_X6_giveBack_6 v f a b).1) ((S_X6_giveBack_6 v f a b).2) u g)) := by
  refine CT.of (own := RX6) (by decide) rfl (Nat.le_of_ble_eq_true rfl) (fun κ C hQ => ?_)
  refine j_aload_n (i := 0) C dX6_giveBack_0 rfl 0 rfl ?_
  refine g_6_used (x := (v 24)) C dX6_giveBack_1 lf_X6_38 rfl ?_
  refine j_iconst (x := 4) C dX6_giveBack_4 (by decide) ?_
  refine j_iadd C dX6_giveBack_5 ?_
  refine j_bipush (x := 8) C dX6_giveBack_6 (by decide) ?_
  refine j_aload_n (i := 0) C dX6_giveBack_8 rfl 0 rfl ?_
  refine j_aload_n (i := 0) C dX6_giveBack_9 rfl 0 rfl ?_
  refine g_6_given (x := (v 26)) C dX6_giveBack_10 lf_X6_26 rfl ?_
  refine c_V (As := [.int (v 26)]) (rest := [.int 8, .int ((v 24) + 4)]) (st1 := [.int (S_X6_placeOf_6 v f (v 26)), .int 8, .int ((v 24) + 4)]) C (c_X6_placeOf_6 ε ad v f u g (v 26)  ) mv_X6_placeOf lm_X6_48 dX6_giveBack_13 6 wl_6 rfl rfl rfl (by decide) (Nat.le_of_ble_eq_true rfl) rfl ?_
  refine j_imul C dX6_giveBack_16 ?_
  refine j_iadd C dX6_giveBack_17 ?_
  refine j_istore_n (i := 3) (lv' := [(3, .int (((v 24) + 4) + (8 * (S_X6_placeOf_6 v f (v 26))))), (0, .ref (ad 6)), (1, .int a), (2, .int b)]) C dX6_giveBack_18 rfl (by decide) rfl ?_
  refine j_aload_n (i := 0) C dX6_giveBack_19 rfl 1 rfl ?_
  refine g_6_memory C dX6_giveBack_20 lf_X6_9 ?_
  refine j_iload_n (i := 3) C dX6_giveBack_23 rfl 0 rfl ?_
  refine j_iconst (x := 4) C dX6_giveBack_24 (by decide) ?_
  refine j_iload_n (i := 1) C dX6_giveBack_25 rfl 2 rfl ?_
  refine j_i2l C dX6_giveBack_26 ?_
  refine c_V (As := [.int (((v 24) + 4) + (8 * (S_X6_placeOf_6 v f (v 26)))), .int 4, .long ((a : Int32).toInt64)]) (rest := []) (st1 := []) (ω1 := (WD ε ad v (Q_X6_giveBack_6_1 v f a b) u g)) C (c_X5_setNumber ε ad v f u g (((v 24) + 4) + (8 * (S_X6_placeOf_6 v f (v 26)))) ((a : Int32).toInt64) 4  (by first | assumption | omega | decide)) mv_X5_setNumber lm_X6_51 dX6_giveBack_27 1 wl_1 rfl rfl rfl (by decide) (Nat.le_of_ble_eq_true rfl) rfl ?_
  refine j_aload_n (i := 0) C dX6_giveBack_30 rfl 1 rfl ?_
  refine g_6_memory C dX6_giveBack_31 lf_X6_9 ?_
  refine j_iload_n (i := 3) C dX6_giveBack_34 rfl 0 rfl ?_
  refine j_iconst (x := 4) C dX6_giveBack_35 (by decide) ?_
  refine j_iadd C dX6_giveBack_36 ?_
  refine j_iconst (x := 4) C dX6_giveBack_37 (by decide) ?_
  refine j_iload_n (i := 2) C dX6_giveBack_38 rfl 3 rfl ?_
  refine j_i2l C dX6_giveBack_39 ?_
  refine c_V (As := [.int ((((v 24) + 4) + (8 * (S_X6_placeOf_6 v f (v 26)))) + 4), .int 4, .long ((b : Int32).toInt64)]) (rest := []) (st1 := []) (ω1 := (WD ε ad v (Q_X6_giveBack_6_2 v f a b) u g)) C (c_X5_setNumber ε ad v (Q_X6_giveBack_6_1 v f a b) u g ((((v 24) + 4) + (8 * (S_X6_placeOf_6 v f (v 26)))) + 4) ((b : Int32).toInt64) 4  (by first | assumption | omega | decide)) mv_X5_setNumber lm_X6_51 dX6_giveBack_40 1 wl_1 rfl rfl rfl (by decide) (Nat.le_of_ble_eq_true rfl) rfl ?_
  refine j_aload_n (i := 0) C dX6_giveBack_43 rfl 1 rfl ?_
  refine j_aload_n (i := 0) C dX6_giveBack_44 rfl 1 rfl ?_
  refine g_6_given (x := (v 26)) C dX6_giveBack_45 lf_X6_26 rfl ?_
  refine c_SN (As := [.int (v 26)]) (rest := [.ref (ad 6)]) (st1 := [.int (Q_X6_giveBack_6_3 v f a b), .ref (ad 6)]) C (c_X8_oneMore ε ad v (Q_X6_giveBack_6_2 v f a b) u g (v 26)  ) mt_X8_oneMore nw_X6_55 dX6_giveBack_48 rfl rfl (by decide) (Nat.le_of_ble_eq_true rfl) rfl ?_
  refine p_6_given C dX6_giveBack_51 lf_X6_26 ?_
  refine j_aload_n (i := 0) C dX6_giveBack_54 rfl 1 rfl ?_
  refine g_6_memory C dX6_giveBack_55 lf_X6_9 ?_
  refine j_aload_n (i := 0) C dX6_giveBack_58 rfl 1 rfl ?_
  refine g_6_used (x := ((upd v 26 (Q_X6_giveBack_6_3 v f a b)) 24)) C dX6_giveBack_59 lf_X6_38 rfl ?_
  refine j_iconst (x := 2) C dX6_giveBack_62 (by decide) ?_
  refine j_iadd C dX6_giveBack_63 ?_
  refine j_iconst (x := 2) C dX6_giveBack_64 (by decide) ?_
  refine j_aload_n (i := 0) C dX6_giveBack_65 rfl 1 rfl ?_
  refine g_6_given (x := (Q_X6_giveBack_6_3 v f a b)) C dX6_giveBack_66 lf_X6_26 rfl ?_
  refine j_i2l C dX6_giveBack_69 ?_
  refine c_V (As := [.int (((upd v 26 (Q_X6_giveBack_6_3 v f a b)) 24) + 2), .int 2, .long (((Q_X6_giveBack_6_3 v f a b) : Int32).toInt64)]) (rest := []) (st1 := []) (ω1 := (WD ε ad (upd v 26 (Q_X6_giveBack_6_3 v f a b)) (Q_X6_giveBack_6_4 v f a b) u g)) C (c_X5_setNumber ε ad (upd v 26 (Q_X6_giveBack_6_3 v f a b)) (Q_X6_giveBack_6_2 v f a b) u g (((upd v 26 (Q_X6_giveBack_6_3 v f a b)) 24) + 2) (((Q_X6_giveBack_6_3 v f a b) : Int32).toInt64) 2  (by first | assumption | omega | decide)) mv_X5_setNumber lm_X6_51 dX6_giveBack_70 1 wl_1 rfl rfl rfl (by decide) (Nat.le_of_ble_eq_true rfl) rfl ?_
  refine j_aload_n (i := 0) C dX6_giveBack_73 rfl 1 rfl ?_
  refine g_6_memory C dX6_giveBack_74 lf_X6_9 ?_
  refine j_aload_n (i := 0) C dX6_giveBack_77 rfl 1 rfl ?_
  refine g_6_available (x := ((upd v 26 (Q_X6_giveBack_6_3 v f a b)) 23)) C dX6_giveBack_78 lf_X6_35 rfl ?_
  refine c_V (As := [.int ((upd v 26 (Q_X6_giveBack_6_3 v f a b)) 23)]) (rest := []) (st1 := [.int (Q_X6_giveBack_6_5 v f a b)]) C (c_X5_two ε ad (upd v 26 (Q_X6_giveBack_6_3 v f a b)) (Q_X6_giveBack_6_4 v f a b) u g ((upd v 26 (Q_X6_giveBack_6_3 v f a b)) 23)  ) mv_X5_two lm_X6_41 dX6_giveBack_81 1 wl_1 rfl rfl rfl (by decide) (Nat.le_of_ble_eq_true rfl) rfl ?_
  refine j_iconst (x := 1) C dX6_giveBack_84 (by decide) ?_
  refine j_iand C dX6_giveBack_85 ?_
  refine j_if_ne (tgt := 99) C dX6_giveBack_86 (by decide) (fun c_1 => ?_) (fun c_1 => ?_)
  · have hs : S_X6_giveBack_6 v f a b = ((upd v 26 (Q_X6_giveBack_6_3 v f a b)), (Q_X6_giveBack_6_4 v f a b)) := by unfold S_X6_giveBack_6; rw [if_neg c_1]
    exact j_vret C hQ rfl dX6_giveBack_99 (dt_nvf hs)
  · refine j_aload_n (i := 0) C dX6_giveBack_89 rfl 1 rfl ?_
    refine j_dup C dX6_giveBack_90 rfl ?_
    refine g_6_signals (x := ((upd v 26 (Q_X6_giveBack_6_3 v f a b)) 27)) C dX6_giveBack_91 lf_X6_29 rfl ?_
    refine j_iconst (x := 1) C dX6_giveBack_94 (by decide) ?_
    refine j_iadd C dX6_giveBack_95 ?_
    refine p_6_signals C dX6_giveBack_96 lf_X6_29 ?_
    have hs : S_X6_giveBack_6 v f a b = ((upd (upd v 26 (Q_X6_giveBack_6_3 v f a b)) 27 (((upd v 26 (Q_X6_giveBack_6_3 v f a b)) 27) + 1)), (Q_X6_giveBack_6_4 v f a b)) := by unfold S_X6_giveBack_6; rw [if_pos c_1]
    exact j_vret C hQ rfl dX6_giveBack_99 (dt_nvf hs)

