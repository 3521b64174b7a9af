def Q_X1_doChain_0_1 (v : Nat → Int32) (f : Nat → Nat → Int32) : Int32 := ((S_X2_answer ((S_X1_takeFrom_4 v f).2.1) ((S_X1_takeFrom_4 v f).2.2)).1)
def Q_X1_doChain_0_2 (v : Nat → Int32) (f : Nat → Nat → Int32) : (Nat → Int32) := ((S_X2_answer ((S_X1_takeFrom_4 v f).2.1) ((S_X1_takeFrom_4 v f).2.2)).2.1)
def Q_X1_doChain_0_3 (v : Nat → Int32) (f : Nat → Nat → Int32) : (Nat → Nat → Int32) := ((S_X2_answer ((S_X1_takeFrom_4 v f).2.1) ((S_X1_takeFrom_4 v f).2.2)).2.2)
def Q_X1_doChain_0_4 (v : Nat → Int32) (f : Nat → Nat → Int32) : (Nat → Int32) := ((S_X6_giveBack_4 (Q_X1_doChain_0_2 v f) (Q_X1_doChain_0_3 v f) ((Q_X1_doChain_0_2 v f) 34) (Q_X1_doChain_0_1 v f)).1)
def Q_X1_doChain_0_5 (v : Nat → Int32) (f : Nat → Nat → Int32) : (Nat → Nat → Int32) := ((S_X6_giveBack_4 (Q_X1_doChain_0_2 v f) (Q_X1_doChain_0_3 v f) ((Q_X1_doChain_0_2 v f) 34) (Q_X1_doChain_0_1 v f)).2)
def S_X1_doChain_0 (v : Nat → Int32) (f : Nat → Nat → Int32)  : Int32 × (Nat → Int32) × (Nat → Nat → Int32) :=
  if ((S_X1_takeFrom_4 v f).1) = 1 then (1, (Q_X1_doChain_0_4 v f), (Q_X1_doChain_0_5 v f))
  else (((S_X1_takeFrom_4 v f).1), ((S_X1_takeFrom_4 v f).2.1), ((S_X1_takeFrom_4 v f).2.2))
set_option maxHeartbeats 1000000 in
set_option maxRecDepth 100000 in
theorem c_X1_doChain_0 (ε : ET) (ad : Nat → Nat) (v : Nat → Int32) (f : Nat → Nat → Int32) (u : Nat → Int32) (g : Nat → Nat → Int32)   : CT ε yX1_doChain cX1_doChain 5 (some .int) 7 157 0 0 [.ref (ad 3), .int 0] (WD ε ad v f u g) (DT (some (.int ((S_X1_doChain_0 v f).1))) (WD ε ad ((S_X1_doChain_0 v f).2.1) ((S_X1_doChain_0 v f).2.2) u g)) := by
  refine CT.of (own := RX1) (by decide) rfl (Nat.le_of_ble_eq_true rfl) (fun κ C hQ => ?_)
  refine j_aload_n (i := 0) C dX1_doChain_0 rfl 0 rfl ?_
  refine j_iload_n (i := 1) C dX1_doChain_1 rfl 1 rfl ?_
  refine c_V (As := [.int 0]) (rest := []) (st1 := [.ref (ad 4)]) C (c_X1_ringOf_0 ε ad v f u g   ) mv_X1_ringOf lm_X1_58 dX1_doChain_2 3 wl_3 rfl rfl rfl (by decide) (Nat.le_of_ble_eq_true rfl) rfl ?_
  refine j_astore_n (i := 2) (lv' := [(2, .ref (ad 4)), (0, .ref (ad 3)), (1, .int 0)]) C dX1_doChain_5 rfl (by decide) rfl ?_
  refine j_aload_n (i := 0) C dX1_doChain_6 rfl 1 rfl ?_
  refine j_aload_n (i := 2) C dX1_doChain_7 rfl 0 rfl ?_
  refine c_V (As := [.ref (ad 4)]) (rest := []) (st1 := [.int ((S_X1_takeFrom_4 v f).1)]) C (c_X1_takeFrom_4 ε ad v f u g   ) mv_X1_takeFrom lm_X1_62 dX1_doChain_8 3 wl_3 rfl rfl rfl (by decide) (Nat.le_of_ble_eq_true rfl) rfl ?_
  refine j_istore_n (i := 3) (lv' := [(3, .int ((S_X1_takeFrom_4 v f).1)), (2, .ref (ad 4)), (0, .ref (ad 3)), (1, .int 0)]) C dX1_doChain_11 rfl (by decide) rfl ?_
  refine j_iload_n (i := 3) C dX1_doChain_12 rfl 0 rfl ?_
  refine j_iconst (x := 1) C dX1_doChain_13 (by decide) ?_
  refine j_icmp_eq (tgt := 19) C dX1_doChain_14 (by decide) (fun c_1 => ?_) (fun c_1 => ?_)
  · refine j_iconst (x := 0) C dX1_doChain_19 (by decide) ?_
    refine j_istore (i := 4) (lv' := [(4, .int 0), (3, .int ((S_X1_takeFrom_4 v f).1)), (2, .ref (ad 4)), (0, .ref (ad 3)), (1, .int 0)]) C dX1_doChain_20 (by decide) rfl ?_
    refine j_iload_n (i := 1) C dX1_doChain_22 rfl 4 rfl ?_
    refine j_if_ne (tgt := 42) C dX1_doChain_23 (by decide) (fun c9 => absurd c9 (by decide)) (fun _ => ?_)
    refine j_aload_n (i := 0) C dX1_doChain_26 rfl 3 rfl ?_
    refine g_3_sectors C dX1_doChain_27 lf_X1_36 ?_
    refine j_aload_n (i := 0) C dX1_doChain_30 rfl 3 rfl ?_
    refine g_3_chain C dX1_doChain_31 lf_X1_29 ?_
    refine c_V (As := [.ref (ad 7)]) (rest := []) (st1 := [.int (Q_X1_doChain_0_1 v f)]) (ω1 := (WD ε ad (Q_X1_doChain_0_2 v f) (Q_X1_doChain_0_3 v f) u g)) C (c_X2_answer ε ad ((S_X1_takeFrom_4 v f).2.1) ((S_X1_takeFrom_4 v f).2.2) u g   (tf_29_4 v f c_1)) mv_X2_answer lm_X1_66 dX1_doChain_34 10 wl_10 rfl rfl rfl (by decide) (Nat.le_of_ble_eq_true rfl) rfl ?_
    refine j_istore (i := 4) (lv' := [(4, .int (Q_X1_doChain_0_1 v f)), (3, .int ((S_X1_takeFrom_4 v f).1)), (2, .ref (ad 4)), (0, .ref (ad 3)), (1, .int 0)]) C dX1_doChain_37 (by decide) rfl ?_
    refine j_goto (tgt := 53) C dX1_doChain_39 (by decide) ?_
    refine j_aload_n (i := 2) C dX1_doChain_53 rfl 2 rfl ?_
    refine j_aload_n (i := 0) C dX1_doChain_54 rfl 3 rfl ?_
    refine g_3_chain C dX1_doChain_55 lf_X1_29 ?_
    refine g_7_head (x := ((Q_X1_doChain_0_2 v f) 34)) C dX1_doChain_58 lf_X1_74 rfl ?_
    refine j_iload (i := 4) C dX1_doChain_61 0 rfl ?_
    refine c_V (As := [.int ((Q_X1_doChain_0_2 v f) 34), .int (Q_X1_doChain_0_1 v f)]) (rest := []) (st1 := []) (ω1 := (WD ε ad (Q_X1_doChain_0_4 v f) (Q_X1_doChain_0_5 v f) u g)) C (c_X6_giveBack_4 ε ad (Q_X1_doChain_0_2 v f) (Q_X1_doChain_0_3 v f) u g ((Q_X1_doChain_0_2 v f) 34) (Q_X1_doChain_0_1 v f)  ) mv_X6_giveBack lm_X1_77 dX1_doChain_63 4 wl_4 rfl rfl rfl (by decide) (Nat.le_of_ble_eq_true rfl) rfl ?_
    refine j_iconst (x := 1) C dX1_doChain_66 (by decide) ?_
    have hs : S_X1_doChain_0 v f = (1, (Q_X1_doChain_0_4 v f), (Q_X1_doChain_0_5 v f)) := by unfold S_X1_doChain_0; rw [if_pos c_1]
    exact j_iret C hQ rfl dX1_doChain_67 (dt_ivf hs)
  · refine j_iload_n (i := 3) C dX1_doChain_17 rfl 0 rfl ?_
    have hs : S_X1_doChain_0 v f = (((S_X1_takeFrom_4 v f).1), ((S_X1_takeFrom_4 v f).2.1), ((S_X1_takeFrom_4 v f).2.2)) := by unfold S_X1_doChain_0; rw [if_neg c_1]
    exact j_iret C hQ rfl dX1_doChain_18 (dt_ivf hs)

def Q_X1_doChain_2_1 (v : Nat → Int32) (f : Nat → Nat → Int32) : (Nat → Int32) := ((S_X7_carry ((S_X1_takeFrom_6 v f).2.1) ((S_X1_takeFrom_6 v f).2.2)).1)
def Q_X1_doChain_2_2 (v : Nat → Int32) (f : Nat → Nat → Int32) : (Nat → Nat → Int32) := ((S_X7_carry ((S_X1_takeFrom_6 v f).2.1) ((S_X1_takeFrom_6 v f).2.2)).2)
def Q_X1_doChain_2_3 (v : Nat → Int32) (f : Nat → Nat → Int32) : (Nat → Int32) := ((S_X6_giveBack_6 (Q_X1_doChain_2_1 v f) (Q_X1_doChain_2_2 v f) ((Q_X1_doChain_2_1 v f) 34) 0).1)
def Q_X1_doChain_2_4 (v : Nat → Int32) (f : Nat → Nat → Int32) : (Nat → Nat → Int32) := ((S_X6_giveBack_6 (Q_X1_doChain_2_1 v f) (Q_X1_doChain_2_2 v f) ((Q_X1_doChain_2_1 v f) 34) 0).2)
def S_X1_doChain_2 (v : Nat → Int32) (f : Nat → Nat → Int32)  : Int32 × (Nat → Int32) × (Nat → Nat → Int32) :=
  if ((S_X1_takeFrom_6 v f).1) = 1 then (1, (Q_X1_doChain_2_3 v f), (Q_X1_doChain_2_4 v f))
  else (((S_X1_takeFrom_6 v f).1), ((S_X1_takeFrom_6 v f).2.1), ((S_X1_takeFrom_6 v f).2.2))
set_option maxHeartbeats 1000000 in
set_option maxRecDepth 100000 in
theorem c_X1_doChain_2 (ε : ET) (ad : Nat → Nat) (v : Nat → Int32) (f : Nat → Nat → Int32) (u : Nat → Int32) (g : Nat → Nat → Int32)   : CT ε yX1_doChain cX1_doChain 5 (some .int) 5 123 0 0 [.ref (ad 3), .int 2] (WD ε ad v f u g) (DT (some (.int ((S_X1_doChain_2 v f).1))) (WD ε ad ((S_X1_doChain_2 v f).2.1) ((S_X1_doChain_2 v f).2.2) u g)) := by
  refine CT.of (own := RX1) (by decide) rfl (Nat.le_of_ble_eq_true rfl) (fun κ C hQ => ?_)
  refine j_aload_n (i := 0) C dX1_doChain_0 rfl 0 rfl ?_
  refine j_iload_n (i := 1) C dX1_doChain_1 rfl 1 rfl ?_
  refine c_V (As := [.int 2]) (rest := []) (st1 := [.ref (ad 6)]) C (c_X1_ringOf_2 ε ad v f u g   ) mv_X1_ringOf lm_X1_58 dX1_doChain_2 3 wl_3 rfl rfl rfl (by decide) (Nat.le_of_ble_eq_true rfl) rfl ?_
  refine j_astore_n (i := 2) (lv' := [(2, .ref (ad 6)), (0, .ref (ad 3)), (1, .int 2)]) C dX1_doChain_5 rfl (by decide) rfl ?_
  refine j_aload_n (i := 0) C dX1_doChain_6 rfl 1 rfl ?_
  refine j_aload_n (i := 2) C dX1_doChain_7 rfl 0 rfl ?_
  refine c_V (As := [.ref (ad 6)]) (rest := []) (st1 := [.int ((S_X1_takeFrom_6 v f).1)]) C (c_X1_takeFrom_6 ε ad v f u g   ) mv_X1_takeFrom lm_X1_62 dX1_doChain_8 3 wl_3 rfl rfl rfl (by decide) (Nat.le_of_ble_eq_true rfl) rfl ?_
  refine j_istore_n (i := 3) (lv' := [(3, .int ((S_X1_takeFrom_6 v f).1)), (2, .ref (ad 6)), (0, .ref (ad 3)), (1, .int 2)]) C dX1_doChain_11 rfl (by decide) rfl ?_
  refine j_iload_n (i := 3) C dX1_doChain_12 rfl 0 rfl ?_
  refine j_iconst (x := 1) C dX1_doChain_13 (by decide) ?_
  refine j_icmp_eq (tgt := 19) C dX1_doChain_14 (by decide) (fun c_1 => ?_) (fun c_1 => ?_)
  · refine j_iconst (x := 0) C dX1_doChain_19 (by decide) ?_
    refine j_istore (i := 4) (lv' := [(4, .int 0), (3, .int ((S_X1_takeFrom_6 v f).1)), (2, .ref (ad 6)), (0, .ref (ad 3)), (1, .int 2)]) C dX1_doChain_20 (by decide) rfl ?_
    refine j_iload_n (i := 1) C dX1_doChain_22 rfl 4 rfl ?_
    refine j_if_ne (tgt := 42) C dX1_doChain_23 (by decide) (fun _ => ?_) (fun c9 => absurd c9 (by decide))
    refine j_aload_n (i := 0) C dX1_doChain_42 rfl 3 rfl ?_
    refine g_3_line C dX1_doChain_43 lf_X1_43 ?_
    refine j_aload_n (i := 0) C dX1_doChain_46 rfl 3 rfl ?_
    refine g_3_chain C dX1_doChain_47 lf_X1_29 ?_
    refine c_V (As := [.ref (ad 7)]) (rest := []) (st1 := []) (ω1 := (WD ε ad (Q_X1_doChain_2_1 v f) (Q_X1_doChain_2_2 v f) u g)) C (c_X7_carry ε ad ((S_X1_takeFrom_6 v f).2.1) ((S_X1_takeFrom_6 v f).2.2) u g   ) mv_X7_carry lm_X1_70 dX1_doChain_50 12 wl_12 rfl rfl rfl (by decide) (Nat.le_of_ble_eq_true rfl) rfl ?_
    refine j_aload_n (i := 2) C dX1_doChain_53 rfl 2 rfl ?_
    refine j_aload_n (i := 0) C dX1_doChain_54 rfl 3 rfl ?_
    refine g_3_chain C dX1_doChain_55 lf_X1_29 ?_
    refine g_7_head (x := ((Q_X1_doChain_2_1 v f) 34)) C dX1_doChain_58 lf_X1_74 rfl ?_
    refine j_iload (i := 4) C dX1_doChain_61 0 rfl ?_
    refine c_V (As := [.int ((Q_X1_doChain_2_1 v f) 34), .int 0]) (rest := []) (st1 := []) (ω1 := (WD ε ad (Q_X1_doChain_2_3 v f) (Q_X1_doChain_2_4 v f) u g)) C (c_X6_giveBack_6 ε ad (Q_X1_doChain_2_1 v f) (Q_X1_doChain_2_2 v f) u g ((Q_X1_doChain_2_1 v f) 34) 0  ) mv_X6_giveBack lm_X1_77 dX1_doChain_63 6 wl_6 rfl rfl rfl (by decide) (Nat.le_of_ble_eq_true rfl) rfl ?_
    refine j_iconst (x := 1) C dX1_doChain_66 (by decide) ?_
    have hs : S_X1_doChain_2 v f = (1, (Q_X1_doChain_2_3 v f), (Q_X1_doChain_2_4 v f)) := by unfold S_X1_doChain_2; rw [if_pos c_1]
    exact j_iret C hQ rfl dX1_doChain_67 (dt_ivf hs)
  · refine j_iload_n (i := 3) C dX1_doChain_17 rfl 0 rfl ?_
    have hs : S_X1_doChain_2 v f = (((S_X1_takeFrom_6 v f).1), ((S_X1_takeFrom_6 v f).2.1), ((S_X1_takeFrom_6 v f).2.2)) := by unfold S_X1_doChain_2; rw [if_neg c_1]
    exact j_iret C hQ rfl dX1_doChain_18 (dt_ivf hs)

def L_X1_deliver (v : Nat → Int32) (f : Nat → Nat → Int32) (a : Int32) (b : Int64) : Nat → (Nat → Int32) × (Nat → Nat → Int32)
  | 0 => ((S_X0_toWrites v f), f)
  | i1 + 1 =>
    (((S_X0_putByte ((L_X1_deliver v f a b i1).1) ((L_X1_deliver v f a b i1).2) 0).1), ((S_X0_putByte ((L_X1_deliver v f a b i1).1) ((L_X1_deliver v f a b i1).2) 0).2))
def L_X1_deliver2 (v : Nat → Int32) (f : Nat → Nat → Int32) (a : Int32) (b : Int64) : Nat → (Nat → Int32) × (Nat → Nat → Int32)
  | 0 => (((L_X1_deliver v f a b 12).1), ((L_X1_deliver v f a b 12).2))
  | i2 + 1 =>
    (((S_X0_putByte ((L_X1_deliver2 v f a b i2).1) ((L_X1_deliver2 v f a b i2).2) (S_X8_patternByte ((L_X1_deliver2 v f a b i2).1) ((L_X1_deliver2 v f a b i2).2) b (nI i2))).1), ((S_X0_putByte ((L_X1_deliver2 v f a b i2).1) ((L_X1_deliver2 v f a b i2).2) (S_X8_patternByte ((L_X1_deliver2 v f a b i2).1) ((L_X1_deliver2 v f a b i2).2) b (nI i2))).2))
def Q_X1_deliver_1 (v : Nat → Int32) (f : Nat → Nat → Int32) (a : Int32) (b : Int64) : (Nat → Int32) := ((S_X6_giveBack_5 ((L_X1_deliver2 v f a b a.toNatClampNeg).1) ((L_X1_deliver2 v f a b a.toNatClampNeg).2) (((L_X1_deliver2 v f a b a.toNatClampNeg).1) 34) (12 + a)).1)
def Q_X1_deliver_2 (v : Nat → Int32) (f : Nat → Nat → Int32) (a : Int32) (b : Int64) : (Nat → Nat → Int32) := ((S_X6_giveBack_5 ((L_X1_deliver2 v f a b a.toNatClampNeg).1) ((L_X1_deliver2 v f a b a.toNatClampNeg).2) (((L_X1_deliver2 v f a b a.toNatClampNeg).1) 34) (12 + a)).2)
def S_X1_deliver (v : Nat → Int32) (f : Nat → Nat → Int32) (a : Int32) (b : Int64) : Int32 × (Nat → Int32) × (Nat → Nat → Int32) :=
  if (v 35) = 0 then if (v 36) < (12 + a) then (0, ((S_X6_giveBack_5 v f (v 34) 0).1), ((S_X6_giveBack_5 v f (v 34) 0).2))
    else (1, (Q_X1_deliver_1 v f a b), (Q_X1_deliver_2 v f a b))
  else (0, ((S_X6_giveBack_5 v f (v 34) 0).1), ((S_X6_giveBack_5 v f (v 34) 0).2))
theorem de1_pos (v : Nat → Int32) (f : Nat → Nat → Int32) (a : Int32) (b : Int64) (hq : 0 ≤ (v 29).toInt) : ∀ i : Nat, 0 ≤ ((L_X1_deliver v f a b i).1 30).toInt
  | 0 => by rw [L_X1_deliver]; exact hq
  | i + 1 => by rw [L_X1_deliver]; exact np_pos _ _ (de1_pos v f a b hq i)
theorem de2_pos (v : Nat → Int32) (f : Nat → Nat → Int32) (a : Int32) (b : Int64) (hq : 0 ≤ (v 29).toInt) : ∀ i : Nat, 0 ≤ ((L_X1_deliver2 v f a b i).1 30).toInt
  | 0 => by rw [L_X1_deliver2]; dsimp only; exact de1_pos v f a b hq 12
  | i + 1 => by rw [L_X1_deliver2]; exact np_pos _ _ (de2_pos v f a b hq i)
set_option maxHeartbeats 1000000 in
set_option maxRecDepth 100000 in
theorem c_X1_deliver (ε : ET) (ad : Nat → Nat) (v : Nat → Int32) (f : Nat → Nat → Int32) (u : Nat → Int32) (g : Nat → Nat → Int32) (a : Int32) (b : Int64) (hq : 0 ≤ (v 29).toInt) : CT ε yX1_deliver cX1_deliver 6 (some .boolean) 3 70 0 0 [.ref (ad 3), .int a, .long b] (WD ε ad v f u g) (DT (some (.int ((S_X1_deliver v f a b).1))) (WD ε ad ((S_X1_deliver v f a b).2.1) ((S_X1_deliver v f a b).2.2) u g)) := by
  refine CT.of (own := RX1) (by decide) rfl (Nat.le_of_ble_eq_true rfl) (fun κ C hQ => ?_)
  refine j_aload_n (i := 0) C dX1_deliver_0 rfl 0 rfl ?_
  refine g_3_chain C dX1_deliver_1 lf_X1_29 ?_
  refine g_7_readable (x := (v 35)) C dX1_deliver_4 lf_X1_91 rfl ?_
  refine j_if_ne (tgt := 28) C dX1_deliver_7 (by decide) (fun c_1 => ?_) (fun c_1 => ?_)
  · refine j_iconst (x := 0) C dX1_deliver_28 (by decide) ?_
    refine j_istore (i := 4) (lv' := [(4, .int 0), (0, .ref (ad 3)), (1, .int a), (2, .long b)]) C dX1_deliver_29 (by decide) rfl ?_
    refine j_iload (i := 4) C dX1_deliver_31 0 rfl ?_
    refine j_if_eq (tgt := 95) C dX1_deliver_33 (by decide) (fun _ => ?_) (fun c9 => absurd c9 (by decide))
    refine j_aload_n (i := 0) C dX1_deliver_95 rfl 1 rfl ?_
    refine g_3_comes C dX1_deliver_96 lf_X1_20 ?_
    refine j_aload_n (i := 0) C dX1_deliver_99 rfl 1 rfl ?_
    refine g_3_chain C dX1_deliver_100 lf_X1_29 ?_
    refine g_7_head (x := (v 34)) C dX1_deliver_103 lf_X1_74 rfl ?_
    refine j_iload (i := 4) C dX1_deliver_106 0 rfl ?_
    refine j_if_eq (tgt := 118) C dX1_deliver_108 (by decide) (fun _ => ?_) (fun c9 => absurd c9 (by decide))
    refine j_iconst (x := 0) C dX1_deliver_118 (by decide) ?_
    refine c_V (As := [.int (v 34), .int 0]) (rest := []) (st1 := []) C (c_X6_giveBack_5 ε ad v f u g (v 34) 0  ) mv_X6_giveBack lm_X1_77 dX1_deliver_119 5 wl_5 rfl rfl rfl (by decide) (Nat.le_of_ble_eq_true rfl) rfl ?_
    refine j_iload (i := 4) C dX1_deliver_122 0 rfl ?_
    have hs : S_X1_deliver v f a b = (0, ((S_X6_giveBack_5 v f (v 34) 0).1), ((S_X6_giveBack_5 v f (v 34) 0).2)) := by unfold S_X1_deliver; rw [if_neg c_1]
    exact j_zret C hQ rfl rfl dX1_deliver_124 (dt_ivf hs)
  · refine j_aload_n (i := 0) C dX1_deliver_10 rfl 0 rfl ?_
    refine g_3_chain C dX1_deliver_11 lf_X1_29 ?_
    refine g_7_writable (x := (v 36)) C dX1_deliver_14 lf_X1_94 rfl ?_
    refine j_bipush (x := 12) C dX1_deliver_17 (by decide) ?_
    refine j_iload_n (i := 1) C dX1_deliver_19 rfl 1 rfl ?_
    refine j_iadd C dX1_deliver_20 ?_
    refine j_icmp_lt (tgt := 28) C dX1_deliver_21 (by decide) (fun c_2 => ?_) (fun c_2 => ?_)
    · refine j_iconst (x := 0) C dX1_deliver_28 (by decide) ?_
      refine j_istore (i := 4) (lv' := [(4, .int 0), (0, .ref (ad 3)), (1, .int a), (2, .long b)]) C dX1_deliver_29 (by decide) rfl ?_
      refine j_iload (i := 4) C dX1_deliver_31 0 rfl ?_
      refine j_if_eq (tgt := 95) C dX1_deliver_33 (by decide) (fun _ => ?_) (fun c9 => absurd c9 (by decide))
      refine j_aload_n (i := 0) C dX1_deliver_95 rfl 1 rfl ?_
      refine g_3_comes C dX1_deliver_96 lf_X1_20 ?_
      refine j_aload_n (i := 0) C dX1_deliver_99 rfl 1 rfl ?_
      refine g_3_chain C dX1_deliver_100 lf_X1_29 ?_
      refine g_7_head (x := (v 34)) C dX1_deliver_103 lf_X1_74 rfl ?_
      refine j_iload (i := 4) C dX1_deliver_106 0 rfl ?_
      refine j_if_eq (tgt := 118) C dX1_deliver_108 (by decide) (fun _ => ?_) (fun c9 => absurd c9 (by decide))
      refine j_iconst (x := 0) C dX1_deliver_118 (by decide) ?_
      refine c_V (As := [.int (v 34), .int 0]) (rest := []) (st1 := []) C (c_X6_giveBack_5 ε ad v f u g (v 34) 0  ) mv_X6_giveBack lm_X1_77 dX1_deliver_119 5 wl_5 rfl rfl rfl (by decide) (Nat.le_of_ble_eq_true rfl) rfl ?_
      refine j_iload (i := 4) C dX1_deliver_122 0 rfl ?_
      have hs : S_X1_deliver v f a b = (0, ((S_X6_giveBack_5 v f (v 34) 0).1), ((S_X6_giveBack_5 v f (v 34) 0).2)) := by unfold S_X1_deliver; rw [if_pos c_1, if_pos c_2]
      exact j_zret C hQ rfl rfl dX1_deliver_124 (dt_ivf hs)
    · refine j_iconst (x := 1) C dX1_deliver_24 (by decide) ?_
      refine j_goto (tgt := 29) C dX1_deliver_25 (by decide) ?_
      refine j_istore (i := 4) (lv' := [(4, .int 1), (0, .ref (ad 3)), (1, .int a), (2, .long b)]) C dX1_deliver_29 (by decide) rfl ?_
      refine j_iload (i := 4) C dX1_deliver_31 0 rfl ?_
      refine j_if_eq (tgt := 95) C dX1_deliver_33 (by decide) (fun c9 => absurd c9 (by decide)) (fun _ => ?_)
      refine j_aload_n (i := 0) C dX1_deliver_36 rfl 1 rfl ?_
      refine g_3_chain C dX1_deliver_37 lf_X1_29 ?_
      refine c_V (As := []) (rest := []) (st1 := []) C (c_X0_toWrites ε ad v f u g   ) mv_X0_toWrites lm_X1_97 dX1_deliver_40 7 wl_7 rfl rfl rfl (by decide) (Nat.le_of_ble_eq_true rfl) rfl ?_
      refine j_iconst (x := 0) C dX1_deliver_43 (by decide) ?_
      refine j_istore (i := 5) (lv' := [(5, .int 0), (4, .int 1), (0, .ref (ad 3)), (1, .int a), (2, .long b)]) C dX1_deliver_44 (by decide) rfl ?_
      have hx1 : JW κ 0 0 (WD ε ad ((L_X1_deliver v f a b 12).1) ((L_X1_deliver v f a b 12).2) u g) 67 [(5, .int (nI 12)), (4, .int 1), (0, .ref (ad 3)), (1, .int a), (2, .long b)] [] := by
        refine j_iconst (x := 0) C dX1_deliver_67 (by decide) ?_
        refine j_istore (i := 5) (lv' := [(5, .int 0), (4, .int 1), (0, .ref (ad 3)), (1, .int a), (2, .long b)]) C dX1_deliver_68 (by decide) rfl ?_
        have hx2 : JW κ 0 0 (WD ε ad ((L_X1_deliver2 v f a b a.toNatClampNeg).1) ((L_X1_deliver2 v f a b a.toNatClampNeg).2) u g) 95 [(5, .int (nI a.toNatClampNeg)), (4, .int 1), (0, .ref (ad 3)), (1, .int a), (2, .long b)] [] := by
          refine j_aload_n (i := 0) C dX1_deliver_95 rfl 2 rfl ?_
          refine g_3_comes C dX1_deliver_96 lf_X1_20 ?_
          refine j_aload_n (i := 0) C dX1_deliver_99 rfl 2 rfl ?_
          refine g_3_chain C dX1_deliver_100 lf_X1_29 ?_
          refine g_7_head (x := (((L_X1_deliver2 v f a b a.toNatClampNeg).1) 34)) C dX1_deliver_103 lf_X1_74 rfl ?_
          refine j_iload (i := 4) C dX1_deliver_106 1 rfl ?_
          refine j_if_eq (tgt := 118) C dX1_deliver_108 (by decide) (fun c9 => absurd c9 (by decide)) (fun _ => ?_)
          refine j_bipush (x := 12) C dX1_deliver_111 (by decide) ?_
          refine j_iload_n (i := 1) C dX1_deliver_113 rfl 3 rfl ?_
          refine j_iadd C dX1_deliver_114 ?_
          refine j_goto (tgt := 119) C dX1_deliver_115 (by decide) ?_
          refine c_V (As := [.int (((L_X1_deliver2 v f a b a.toNatClampNeg).1) 34), .int (12 + a)]) (rest := []) (st1 := []) (ω1 := (WD ε ad (Q_X1_deliver_1 v f a b) (Q_X1_deliver_2 v f a b) u g)) C (c_X6_giveBack_5 ε ad ((L_X1_deliver2 v f a b a.toNatClampNeg).1) ((L_X1_deliver2 v f a b a.toNatClampNeg).2) u g (((L_X1_deliver2 v f a b a.toNatClampNeg).1) 34) (12 + a)  ) mv_X6_giveBack lm_X1_77 dX1_deliver_119 5 wl_5 rfl rfl rfl (by decide) (Nat.le_of_ble_eq_true rfl) rfl ?_
          refine j_iload (i := 4) C dX1_deliver_122 1 rfl ?_
          have hs : S_X1_deliver v f a b = (1, (Q_X1_deliver_1 v f a b), (Q_X1_deliver_2 v f a b)) := by unfold S_X1_deliver; rw [if_pos c_1, if_neg c_2]
          exact j_zret C hQ rfl rfl dX1_deliver_124 (dt_ivf hs)
        have lp2 : ∀ d2 i2 : Nat, i2 + d2 = a.toNatClampNeg → JW κ 0 0 (WD ε ad ((L_X1_deliver2 v f a b i2).1) ((L_X1_deliver2 v f a b i2).2) u g) 70 [(5, .int (nI i2)), (4, .int 1), (0, .ref (ad 3)), (1, .int a), (2, .long b)] [] := by
          intro d2
          induction d2 with
          | zero =>
            intro i2 hi
            have e9 : i2 = a.toNatClampNeg := by omega
            rw [e9]
            have lf2 : a ≤ (nI a.toNatClampNeg) := lp_ge _
            refine j_iload (i := 5) C dX1_deliver_70 0 rfl ?_
            refine j_iload_n (i := 1) C dX1_deliver_72 rfl 3 rfl ?_
            refine j_icmp_ge (tgt := 95) C dX1_deliver_73 (by decide) (fun _ => ?_) (fun c9 => absurd lf2 c9)
            exact hx2
          | succ d2 ih2 =>
            intro i2 hi
            have hlt2 : i2 < a.toNatClampNeg := by omega
            have lf2 : ¬ a ≤ (nI i2) := lp_lt hlt2
            refine j_iload (i := 5) C dX1_deliver_70 0 rfl ?_
            refine j_iload_n (i := 1) C dX1_deliver_72 rfl 3 rfl ?_
            refine j_icmp_ge (tgt := 95) C dX1_deliver_73 (by decide) (fun c9 => absurd c9 lf2) (fun _ => ?_)
            refine j_aload_n (i := 0) C dX1_deliver_76 rfl 2 rfl ?_
            refine g_3_chain C dX1_deliver_77 lf_X1_29 ?_
            refine j_lload_n (i := 2) C dX1_deliver_80 rfl 4 rfl ?_
            refine j_iload (i := 5) C dX1_deliver_81 0 rfl ?_
            refine c_SN (As := [.long b, .int (nI i2)]) (rest := [.ref (ad 7)]) (st1 := [.int (S_X8_patternByte ((L_X1_deliver2 v f a b i2).1) ((L_X1_deliver2 v f a b i2).2) b (nI i2)), .ref (ad 7)]) C (c_X8_patternByte ε ad ((L_X1_deliver2 v f a b i2).1) ((L_X1_deliver2 v f a b i2).2) u g b (nI i2)  ) mt_X8_patternByte nw_X1_104 dX1_deliver_83 rfl rfl (by decide) (Nat.le_of_ble_eq_true rfl) rfl ?_
            refine c_V (As := [.int (S_X8_patternByte ((L_X1_deliver2 v f a b i2).1) ((L_X1_deliver2 v f a b i2).2) b (nI i2))]) (rest := []) (st1 := []) C (c_X0_putByte ε ad ((L_X1_deliver2 v f a b i2).1) ((L_X1_deliver2 v f a b i2).2) u g (S_X8_patternByte ((L_X1_deliver2 v f a b i2).1) ((L_X1_deliver2 v f a b i2).2) b (nI i2))  (de2_pos v f a b hq i2)) mv_X0_putByte lm_X1_100 dX1_deliver_86 7 wl_7 rfl rfl rfl (by decide) (Nat.le_of_ble_eq_true rfl) rfl ?_
            refine j_iinc (y := (nI (i2 + 1))) (lv' := [(5, .int (nI (i2 + 1))), (4, .int 1), (0, .ref (ad 3)), (1, .int a), (2, .long b)]) C dX1_deliver_89 0 rfl (nI_1 _) (by decide) rfl ?_
            refine j_goto (tgt := 70) C dX1_deliver_92 (by decide) ?_
            refine j_lv (lv' := [(5, .int (nI (i2 + 1))), (4, .int 1), (0, .ref (ad 3)), (1, .int a), (2, .long b)]) [0, 1, 2, 3, 4] rfl ?_
            have e8 := ih2 (i2 + 1) (by omega)
            rw [L_X1_deliver2] at e8
            try dsimp only at e8
            exact e8
        have e7 := lp2 a.toNatClampNeg 0 (by omega)
        rw [L_X1_deliver2] at e7
        try dsimp only at e7
        exact e7
      have lp1 : ∀ d1 i1 : Nat, i1 + d1 = 12 → JW κ 0 0 (WD ε ad ((L_X1_deliver v f a b i1).1) ((L_X1_deliver v f a b i1).2) u g) 46 [(5, .int (nI i1)), (4, .int 1), (0, .ref (ad 3)), (1, .int a), (2, .long b)] [] := by
        intro d1
        induction d1 with
        | zero =>
          intro i1 hi
          have e9 : i1 = 12 := by omega
          rw [e9]
          have lf1 : 12 ≤ (nI 12) := Int32.le_refl _
          refine j_iload (i := 5) C dX1_deliver_46 0 rfl ?_
          refine j_bipush (x := 12) C dX1_deliver_48 (by decide) ?_
          refine j_icmp_ge (tgt := 67) C dX1_deliver_50 (by decide) (fun _ => ?_) (fun c9 => absurd lf1 c9)
          exact hx1
        | succ d1 ih1 =>
          intro i1 hi
          have hlt1 : i1 < 12 := by omega
          have lf1 : ¬ 12 ≤ (nI i1) := nI_ge (b := 12) hlt1 (by decide)
          refine j_iload (i := 5) C dX1_deliver_46 0 rfl ?_
          refine j_bipush (x := 12) C dX1_deliver_48 (by decide) ?_
          refine j_icmp_ge (tgt := 67) C dX1_deliver_50 (by decide) (fun c9 => absurd c9 lf1) (fun _ => ?_)
          refine j_aload_n (i := 0) C dX1_deliver_53 rfl 2 rfl ?_
          refine g_3_chain C dX1_deliver_54 lf_X1_29 ?_
          refine j_iconst (x := 0) C dX1_deliver_57 (by decide) ?_
          refine c_V (As := [.int 0]) (rest := []) (st1 := []) C (c_X0_putByte ε ad ((L_X1_deliver v f a b i1).1) ((L_X1_deliver v f a b i1).2) u g 0  (de1_pos v f a b hq i1)) mv_X0_putByte lm_X1_100 dX1_deliver_58 7 wl_7 rfl rfl rfl (by decide) (Nat.le_of_ble_eq_true rfl) rfl ?_
          refine j_iinc (y := (nI (i1 + 1))) (lv' := [(5, .int (nI (i1 + 1))), (4, .int 1), (0, .ref (ad 3)), (1, .int a), (2, .long b)]) C dX1_deliver_61 0 rfl (nI_1 _) (by decide) rfl ?_
          refine j_goto (tgt := 46) C dX1_deliver_64 (by decide) ?_
          refine j_lv (lv' := [(5, .int (nI (i1 + 1))), (4, .int 1), (0, .ref (ad 3)), (1, .int a), (2, .long b)]) [0, 1, 2, 3, 4] rfl ?_
          have e8 := ih1 (i1 + 1) (by omega)
          rw [L_X1_deliver] at e8
          try dsimp only at e8
          exact e8
      have e7 := lp1 12 0 (by omega)
      rw [L_X1_deliver] at e7
      try dsimp only at e7
      exact e7

def Q_X1_frameComes_1 (v : Nat → Int32) (f : Nat → Nat → Int32) (a : Int32) (b : Int64) : Int32 := ((S_X1_deliver ((S_X1_takeFrom_5 v f).2.1) ((S_X1_takeFrom_5 v f).2.2) a b).1)
def Q_X1_frameComes_2 (v : Nat → Int32) (f : Nat → Nat → Int32) (a : Int32) (b : Int64) : (Nat → Int32) := ((S_X1_deliver ((S_X1_takeFrom_5 v f).2.1) ((S_X1_takeFrom_5 v f).2.2) a b).2.1)
def Q_X1_frameComes_3 (v : Nat → Int32) (f : Nat → Nat → Int32) (a : Int32) (b : Int64) : (Nat → Nat → Int32) := ((S_X1_deliver ((S_X1_takeFrom_5 v f).2.1) ((S_X1_takeFrom_5 v f).2.2) a b).2.2)
def S_X1_frameComes (v : Nat → Int32) (f : Nat → Nat → Int32) (a : Int32) (b : Int64) : Int32 × (Nat → Int32) × (Nat → Nat → Int32) :=
  if 0 ≤ ((S_X1_takeFrom_5 v f).1) then if ((S_X1_takeFrom_5 v f).1) = 1 then if (Q_X1_frameComes_1 v f a b) = 0 then (0, (upd (Q_X1_frameComes_2 v f a b) 3 (((Q_X1_frameComes_2 v f a b) 3) + 1)), (Q_X1_frameComes_3 v f a b))
      else (1, (upd (Q_X1_frameComes_2 v f a b) 2 (((Q_X1_frameComes_2 v f a b) 2) + 1)), (Q_X1_frameComes_3 v f a b))
    else (0, (upd ((S_X1_takeFrom_5 v f).2.1) 3 ((((S_X1_takeFrom_5 v f).2.1) 3) + 1)), ((S_X1_takeFrom_5 v f).2.2))
  else (((S_X1_takeFrom_5 v f).1), ((S_X1_takeFrom_5 v f).2.1), ((S_X1_takeFrom_5 v f).2.2))
set_option maxHeartbeats 1000000 in
set_option maxRecDepth 100000 in
theorem c_X1_frameComes (ε : ET) (ad : Nat → Nat) (v : Nat → Int32) (f : Nat → Nat → Int32) (u : Nat → Int32) (g : Nat → Nat → Int32) (a : Int32) (b : Int64)  : CT ε yX1_frameComes cX1_frameComes 5 (some .int) 5 123 0 0 [.ref (ad 3), .int a, .long b] (WD ε ad v f u g) (DT (some (.int ((S_X1_frameComes v f a b).1))) (WD ε ad ((S_X1_frameComes v f a b).2.1) ((S_X1_frameComes v f a b).2.2) u g)) := by
  refine CT.of (own := RX1) (by decide) rfl (Nat.le_of_ble_eq_true rfl) (fun κ C hQ => ?_)
  refine j_aload_n (i := 0) C dX1_frameComes_0 rfl 0 rfl ?_
  refine j_aload_n (i := 0) C dX1_frameComes_1 rfl 0 rfl ?_
  refine g_3_comes C dX1_frameComes_2 lf_X1_20 ?_
  refine c_V (As := [.ref (ad 5)]) (rest := []) (st1 := [.int ((S_X1_takeFrom_5 v f).1)]) C (c_X1_takeFrom_5 ε ad v f u g   ) mv_X1_takeFrom lm_X1_62 dX1_frameComes_5 3 wl_3 rfl rfl rfl (by decide) (Nat.le_of_ble_eq_true rfl) rfl ?_
  refine j_istore (i := 4) (lv' := [(4, .int ((S_X1_takeFrom_5 v f).1)), (0, .ref (ad 3)), (1, .int a), (2, .long b)]) C dX1_frameComes_8 (by decide) rfl ?_
  refine j_iload (i := 4) C dX1_frameComes_10 0 rfl ?_
  refine j_if_ge (tgt := 18) C dX1_frameComes_12 (by decide) (fun c_1 => ?_) (fun c_1 => ?_)
  · refine j_iload (i := 4) C dX1_frameComes_18 0 rfl ?_
    refine j_iconst (x := 1) C dX1_frameComes_20 (by decide) ?_
    refine j_icmp_ne (tgt := 45) C dX1_frameComes_21 (by decide) (fun c_2 => ?_) (fun c_2 => ?_)
    · refine j_aload_n (i := 0) C dX1_frameComes_45 rfl 1 rfl ?_
      refine j_dup C dX1_frameComes_46 rfl ?_
      refine g_3_dropped (x := (((S_X1_takeFrom_5 v f).2.1) 3)) C dX1_frameComes_47 lf_X1_88 rfl ?_
      refine j_iconst (x := 1) C dX1_frameComes_50 (by decide) ?_
      refine j_iadd C dX1_frameComes_51 ?_
      refine p_3_dropped C dX1_frameComes_52 lf_X1_88 ?_
      refine j_iconst (x := 0) C dX1_frameComes_55 (by decide) ?_
      have hs : S_X1_frameComes v f a b = (0, (upd ((S_X1_takeFrom_5 v f).2.1) 3 ((((S_X1_takeFrom_5 v f).2.1) 3) + 1)), ((S_X1_takeFrom_5 v f).2.2)) := by unfold S_X1_frameComes; rw [if_pos c_1, if_neg c_2]
      exact j_iret C hQ rfl dX1_frameComes_56 (dt_ivf hs)
    · refine j_aload_n (i := 0) C dX1_frameComes_24 rfl 1 rfl ?_
      refine j_iload_n (i := 1) C dX1_frameComes_25 rfl 2 rfl ?_
      refine j_lload_n (i := 2) C dX1_frameComes_26 rfl 3 rfl ?_
      refine c_V (As := [.int a, .long b]) (rest := []) (st1 := [.int (Q_X1_frameComes_1 v f a b)]) (ω1 := (WD ε ad (Q_X1_frameComes_2 v f a b) (Q_X1_frameComes_3 v f a b) u g)) C (c_X1_deliver ε ad ((S_X1_takeFrom_5 v f).2.1) ((S_X1_takeFrom_5 v f).2.2) u g a b  (tf_29_5 v f c_2)) mv_X1_deliver lm_X1_81 dX1_frameComes_27 3 wl_3 rfl rfl rfl (by decide) (Nat.le_of_ble_eq_true rfl) rfl ?_
      refine j_if_eq (tgt := 45) C dX1_frameComes_30 (by decide) (fun c_3 => ?_) (fun c_3 => ?_)
      · refine j_aload_n (i := 0) C dX1_frameComes_45 rfl 1 rfl ?_
        refine j_dup C dX1_frameComes_46 rfl ?_
        refine g_3_dropped (x := ((Q_X1_frameComes_2 v f a b) 3)) C dX1_frameComes_47 lf_X1_88 rfl ?_
        refine j_iconst (x := 1) C dX1_frameComes_50 (by decide) ?_
        refine j_iadd C dX1_frameComes_51 ?_
        refine p_3_dropped C dX1_frameComes_52 lf_X1_88 ?_
        refine j_iconst (x := 0) C dX1_frameComes_55 (by decide) ?_
        have hs : S_X1_frameComes v f a b = (0, (upd (Q_X1_frameComes_2 v f a b) 3 (((Q_X1_frameComes_2 v f a b) 3) + 1)), (Q_X1_frameComes_3 v f a b)) := by unfold S_X1_frameComes; rw [if_pos c_1, if_pos c_2, if_pos c_3]
        exact j_iret C hQ rfl dX1_frameComes_56 (dt_ivf hs)
      · refine j_aload_n (i := 0) C dX1_frameComes_33 rfl 1 rfl ?_
        refine j_dup C dX1_frameComes_34 rfl ?_
        refine g_3_came (x := ((Q_X1_frameComes_2 v f a b) 2)) C dX1_frameComes_35 lf_X1_85 rfl ?_
        refine j_iconst (x := 1) C dX1_frameComes_38 (by decide) ?_
        refine j_iadd C dX1_frameComes_39 ?_
        refine p_3_came C dX1_frameComes_40 lf_X1_85 ?_
        refine j_iconst (x := 1) C dX1_frameComes_43 (by decide) ?_
        have hs : S_X1_frameComes v f a b = (1, (upd (Q_X1_frameComes_2 v f a b) 2 (((Q_X1_frameComes_2 v f a b) 2) + 1)), (Q_X1_frameComes_3 v f a b)) := by unfold S_X1_frameComes; rw [if_pos c_1, if_pos c_2, if_neg c_3]
        exact j_iret C hQ rfl dX1_frameComes_44 (dt_ivf hs)
  · refine j_iload (i := 4) C dX1_frameComes_15 0 rfl ?_
    have hs : S_X1_frameComes v f a b = (((S_X1_takeFrom_5 v f).1), ((S_X1_takeFrom_5 v f).2.1), ((S_X1_takeFrom_5 v f).2.2)) := by unfold S_X1_frameComes; rw [if_neg c_1]
    exact j_iret C hQ rfl dX1_frameComes_17 (dt_ivf hs)

