theorem ap_29 (v : Nat → Int32) (f : Nat → Nat → Int32) (a b : Int32) (hp : 0 ≤ (v 28).toInt) (hq : 0 ≤ (v 29).toInt) : 0 ≤ ((S_X0_addPart v f a b).2.1 29).toInt := by
  unfold S_X0_addPart
  repeat' split
  all_goals first | exact hq | exact inc_pos hp (by assumption)
theorem gl_29_4 (v : Nat → Int32) (f : Nat → Nat → Int32) (b : Int32) : ∀ (d i : Nat) (base room num inT : Int32) (w : Nat → Int32) (h : Nat → Nat → Int32), 0 ≤ (w 28).toInt → 0 ≤ (w 29).toInt → 0 ≤ ((L_X0_gather_4 v f b d i base room num inT w h).2.1 29).toInt := by
  intro d
  induction d with
  | zero => intro i base room num inT w h h1 h2; rw [L_X0_gather_4]; exact h2
  | succ d ih =>
    intro i base room num inT w h h1 h2
    have hA := fun a b => ap_29 w h a b h1 h2
    have hB := fun a b => ap_pos w h a b h1
    rw [L_X0_gather_4]
    simp only [Q_X0_gather_4_3, Q_X0_gather_4_7]
    repeat' split
    all_goals (try dsimp only)
    all_goals first | with_reducible exact h2 | with_reducible exact hA _ _ | with_reducible exact ih _ _ _ _ _ _ _ (hB _ _) (hA _ _) | with_reducible exact ih _ _ _ _ _ _ _ h1 h2
theorem ga_29_4 (v : Nat → Int32) (f : Nat → Nat → Int32) (b : Int32) : 0 ≤ ((S_X0_gather_4 v f b).2.1 29).toInt := by
  unfold S_X0_gather_4
  exact gl_29_4 v f b _ _ _ _ _ _ _ _ (Int.le_refl 0) (Int.le_refl 0)
theorem gl_29_5 (v : Nat → Int32) (f : Nat → Nat → Int32) (b : Int32) : ∀ (d i : Nat) (base room num inT : Int32) (w : Nat → Int32) (h : Nat → Nat → Int32), 0 ≤ (w 28).toInt → 0 ≤ (w 29).toInt → 0 ≤ ((L_X0_gather_5 v f b d i base room num inT w h).2.1 29).toInt := by
  intro d
  induction d with
  | zero => intro i base room num inT w h h1 h2; rw [L_X0_gather_5]; exact h2
  | succ d ih =>
    intro i base room num inT w h h1 h2
    have hA := fun a b => ap_29 w h a b h1 h2
    have hB := fun a b => ap_pos w h a b h1
    rw [L_X0_gather_5]
    simp only [Q_X0_gather_5_3, Q_X0_gather_5_7]
    repeat' split
    all_goals (try dsimp only)
    all_goals first | with_reducible exact h2 | with_reducible exact hA _ _ | with_reducible exact ih _ _ _ _ _ _ _ (hB _ _) (hA _ _) | with_reducible exact ih _ _ _ _ _ _ _ h1 h2
theorem ga_29_5 (v : Nat → Int32) (f : Nat → Nat → Int32) (b : Int32) : 0 ≤ ((S_X0_gather_5 v f b).2.1 29).toInt := by
  unfold S_X0_gather_5
  exact gl_29_5 v f b _ _ _ _ _ _ _ _ (Int.le_refl 0) (Int.le_refl 0)
theorem gl_29_6 (v : Nat → Int32) (f : Nat → Nat → Int32) (b : Int32) : ∀ (d i : Nat) (base room num inT : Int32) (w : Nat → Int32) (h : Nat → Nat → Int32), 0 ≤ (w 28).toInt → 0 ≤ (w 29).toInt → 0 ≤ ((L_X0_gather_6 v f b d i base room num inT w h).2.1 29).toInt := by
  intro d
  induction d with
  | zero => intro i base room num inT w h h1 h2; rw [L_X0_gather_6]; exact h2
  | succ d ih =>
    intro i base room num inT w h h1 h2
    have hA := fun a b => ap_29 w h a b h1 h2
    have hB := fun a b => ap_pos w h a b h1
    rw [L_X0_gather_6]
    simp only [Q_X0_gather_6_3, Q_X0_gather_6_7]
    repeat' split
    all_goals (try dsimp only)
    all_goals first | with_reducible exact h2 | with_reducible exact hA _ _ | with_reducible exact ih _ _ _ _ _ _ _ (hB _ _) (hA _ _) | with_reducible exact ih _ _ _ _ _ _ _ h1 h2
theorem ga_29_6 (v : Nat → Int32) (f : Nat → Nat → Int32) (b : Int32) : 0 ≤ ((S_X0_gather_6 v f b).2.1 29).toInt := by
  unfold S_X0_gather_6
  exact gl_29_6 v f b _ _ _ _ _ _ _ _ (Int.le_refl 0) (Int.le_refl 0)
set_option maxHeartbeats 1000000 in
set_option maxRecDepth 100000 in
theorem c_X1_ringOf_0 (ε : ET) (ad : Nat → Nat) (v : Nat → Int32) (f : Nat → Nat → Int32) (u : Nat → Int32) (g : Nat → Nat → Int32)   : CT ε yX1_ringOf cX1_ringOf 2 (some (.object "RingDevices$Ring")) 0 0 0 0 [.ref (ad 3), .int 0] (WD ε ad v f u g) (DT (some (.ref (ad 4))) (WD ε ad v f u g)) := by
  refine CT.of (own := RX1) (by decide) rfl (Nat.le_of_ble_eq_true rfl) (fun κ C hQ => ?_)
  refine j_iload_n (i := 1) C dX1_ringOf_0 rfl 1 rfl ?_
  refine j_if_ne (tgt := 11) C dX1_ringOf_1 (by decide) (fun c9 => absurd c9 (by decide)) (fun _ => ?_)
  refine j_aload_n (i := 0) C dX1_ringOf_4 rfl 0 rfl ?_
  refine g_3_disks C dX1_ringOf_5 lf_X1_14 ?_
  refine j_goto (tgt := 27) C dX1_ringOf_8 (by decide) ?_
  exact j_aret C hQ rfl dX1_ringOf_27 ⟨rfl, rfl⟩

set_option maxHeartbeats 1000000 in
set_option maxRecDepth 100000 in
theorem c_X1_ringOf_1 (ε : ET) (ad : Nat → Nat) (v : Nat → Int32) (f : Nat → Nat → Int32) (u : Nat → Int32) (g : Nat → Nat → Int32)   : CT ε yX1_ringOf cX1_ringOf 2 (some (.object "RingDevices$Ring")) 0 0 0 0 [.ref (ad 3), .int 1] (WD ε ad v f u g) (DT (some (.ref (ad 5))) (WD ε ad v f u g)) := by
  refine CT.of (own := RX1) (by decide) rfl (Nat.le_of_ble_eq_true rfl) (fun κ C hQ => ?_)
  refine j_iload_n (i := 1) C dX1_ringOf_0 rfl 1 rfl ?_
  refine j_if_ne (tgt := 11) C dX1_ringOf_1 (by decide) (fun _ => ?_) (fun c9 => absurd c9 (by decide))
  refine j_iload_n (i := 1) C dX1_ringOf_11 rfl 1 rfl ?_
  refine j_iconst (x := 1) C dX1_ringOf_12 (by decide) ?_
  refine j_icmp_ne (tgt := 23) C dX1_ringOf_13 (by decide) (fun c9 => absurd c9 (by decide)) (fun _ => ?_)
  refine j_aload_n (i := 0) C dX1_ringOf_16 rfl 0 rfl ?_
  refine g_3_comes C dX1_ringOf_17 lf_X1_20 ?_
  refine j_goto (tgt := 27) C dX1_ringOf_20 (by decide) ?_
  exact j_aret C hQ rfl dX1_ringOf_27 ⟨rfl, rfl⟩

set_option maxHeartbeats 1000000 in
set_option maxRecDepth 100000 in
theorem c_X1_ringOf_2 (ε : ET) (ad : Nat → Nat) (v : Nat → Int32) (f : Nat → Nat → Int32) (u : Nat → Int32) (g : Nat → Nat → Int32)   : CT ε yX1_ringOf cX1_ringOf 2 (some (.object "RingDevices$Ring")) 0 0 0 0 [.ref (ad 3), .int 2] (WD ε ad v f u g) (DT (some (.ref (ad 6))) (WD ε ad v f u g)) := by
  refine CT.of (own := RX1) (by decide) rfl (Nat.le_of_ble_eq_true rfl) (fun κ C hQ => ?_)
  refine j_iload_n (i := 1) C dX1_ringOf_0 rfl 1 rfl ?_
  refine j_if_ne (tgt := 11) C dX1_ringOf_1 (by decide) (fun _ => ?_) (fun c9 => absurd c9 (by decide))
  refine j_iload_n (i := 1) C dX1_ringOf_11 rfl 1 rfl ?_
  refine j_iconst (x := 1) C dX1_ringOf_12 (by decide) ?_
  refine j_icmp_ne (tgt := 23) C dX1_ringOf_13 (by decide) (fun _ => ?_) (fun c9 => absurd c9 (by decide))
  refine j_aload_n (i := 0) C dX1_ringOf_23 rfl 0 rfl ?_
  refine g_3_goes C dX1_ringOf_24 lf_X1_23 ?_
  exact j_aret C hQ rfl dX1_ringOf_27 ⟨rfl, rfl⟩

def Q_X1_switchOff_1 (v : Nat → Int32) (f : Nat → Nat → Int32) (a : Int32) : (Nat → Int32) := (S_X6_forget_5 (S_X6_forget_4 (upd (upd v 0 0) 1 a) f) f)
def Q_X1_switchOff_2 (v : Nat → Int32) (f : Nat → Nat → Int32) (a : Int32) : (Nat → Int32) := (S_X6_forget_6 (Q_X1_switchOff_1 v f a) f)
def S_X1_switchOff (v : Nat → Int32) (f : Nat → Nat → Int32) (a : Int32) : (Nat → Int32) :=
  (Q_X1_switchOff_2 v f a)
set_option maxHeartbeats 1000000 in
set_option maxRecDepth 100000 in
theorem c_X1_switchOff (ε : ET) (ad : Nat → Nat) (v : Nat → Int32) (f : Nat → Nat → Int32) (u : Nat → Int32) (g : Nat → Nat → Int32) (a : Int32) (hb : a = 0 ∨ a = 1) : CT ε yX1_switchOff cX1_switchOff 2 none 1 20 0 0 [.ref (ad 3), .int a] (WD ε ad v f u g) (DT none (WD ε ad (S_X1_switchOff v f a) f u g)) := by
  refine CT.of (own := RX1) (by decide) rfl (Nat.le_of_ble_eq_true rfl) (fun κ C hQ => ?_)
  refine j_aload_n (i := 0) C dX1_switchOff_0 rfl 0 rfl ?_
  refine j_iconst (x := 0) C dX1_switchOff_1 (by decide) ?_
  refine p_3_state C dX1_switchOff_2 lf_X1_47 ?_
  refine j_aload_n (i := 0) C dX1_switchOff_5 rfl 0 rfl ?_
  refine j_iload_n (i := 1) C dX1_switchOff_6 rfl 1 rfl ?_
  refine p_3_tables C dX1_switchOff_7 lf_X1_51 hb ?_
  refine j_aload_n (i := 0) C dX1_switchOff_10 rfl 0 rfl ?_
  refine g_3_disks C dX1_switchOff_11 lf_X1_14 ?_
  refine c_V (As := []) (rest := []) (st1 := []) C (c_X6_forget_4 ε ad (upd (upd v 0 0) 1 a) f u g   ) mv_X6_forget lm_X1_55 dX1_switchOff_14 4 wl_4 rfl rfl rfl (by decide) (Nat.le_of_ble_eq_true rfl) rfl ?_
  refine j_aload_n (i := 0) C dX1_switchOff_17 rfl 0 rfl ?_
  refine g_3_comes C dX1_switchOff_18 lf_X1_20 ?_
  refine c_V (As := []) (rest := []) (st1 := []) (ω1 := (WD ε ad (Q_X1_switchOff_1 v f a) f u g)) C (c_X6_forget_5 ε ad (S_X6_forget_4 (upd (upd v 0 0) 1 a) f) f u g   ) mv_X6_forget lm_X1_55 dX1_switchOff_21 5 wl_5 rfl rfl rfl (by decide) (Nat.le_of_ble_eq_true rfl) rfl ?_
  refine j_aload_n (i := 0) C dX1_switchOff_24 rfl 0 rfl ?_
  refine g_3_goes C dX1_switchOff_25 lf_X1_23 ?_
  refine c_V (As := []) (rest := []) (st1 := []) (ω1 := (WD ε ad (Q_X1_switchOff_2 v f a) f u g)) C (c_X6_forget_6 ε ad (Q_X1_switchOff_1 v f a) f u g   ) mv_X6_forget lm_X1_55 dX1_switchOff_28 6 wl_6 rfl rfl rfl (by decide) (Nat.le_of_ble_eq_true rfl) rfl ?_
  have hs : S_X1_switchOff v f a = (Q_X1_switchOff_2 v f a) := by unfold S_X1_switchOff; rfl
  exact j_vret C hQ rfl dX1_switchOff_31 (dt_nv hs)

def Q_X1_takeFrom_4_1 (v : Nat → Int32) (f : Nat → Nat → Int32) : Int32 := (S_X8_oneMore ((S_X0_gather_4 v f (v 1)).2.1) ((S_X0_gather_4 v f (v 1)).2.2) (((S_X0_gather_4 v f (v 1)).2.1) 9))
def S_X1_takeFrom_4 (v : Nat → Int32) (f : Nat → Nat → Int32)  : Int32 × (Nat → Int32) × (Nat → Nat → Int32) :=
  if (v 0) = 1 then if (S_X6_waiting_4 v f) = 0 then (0, v, f)
    else if (v 5) < (S_X6_waiting_4 v f) then ((-5), (upd v 0 2), f)
      else if ((S_X0_gather_4 v f (v 1)).1) = 0 then ((-5), (upd ((S_X0_gather_4 v f (v 1)).2.1) 0 2), ((S_X0_gather_4 v f (v 1)).2.2))
        else (1, (upd ((S_X0_gather_4 v f (v 1)).2.1) 9 (Q_X1_takeFrom_4_1 v f)), ((S_X0_gather_4 v f (v 1)).2.2))
  else if (v 0) = 0 then ((-4), v, f)
    else ((-5), v, f)
set_option maxHeartbeats 1000000 in
set_option maxRecDepth 100000 in
theorem c_X1_takeFrom_4 (ε : ET) (ad : Nat → Nat) (v : Nat → Int32) (f : Nat → Nat → Int32) (u : Nat → Int32) (g : Nat → Nat → Int32)   : CT ε yX1_takeFrom cX1_takeFrom 3 (some .int) 4 101 0 0 [.ref (ad 3), .ref (ad 4)] (WD ε ad v f u g) (DT (some (.int ((S_X1_takeFrom_4 v f).1))) (WD ε ad ((S_X1_takeFrom_4 v f).2.1) ((S_X1_takeFrom_4 v f).2.2) u g)) := by
  refine CT.of (own := RX1) (by decide) rfl (Nat.le_of_ble_eq_true rfl) (fun κ C hQ => ?_)
  refine j_aload_n (i := 0) C dX1_takeFrom_0 rfl 0 rfl ?_
  refine g_3_state (x := (v 0)) C dX1_takeFrom_1 lf_X1_47 rfl ?_
  refine j_iconst (x := 1) C dX1_takeFrom_4 (by decide) ?_
  refine j_icmp_eq (tgt := 23) C dX1_takeFrom_5 (by decide) (fun c_1 => ?_) (fun c_1 => ?_)
  · refine j_aload_n (i := 1) C dX1_takeFrom_23 rfl 1 rfl ?_
    refine c_V (As := []) (rest := []) (st1 := [.int (S_X6_waiting_4 v f)]) C (c_X6_waiting_4 ε ad v f u g   ) mv_X6_waiting lm_X1_108 dX1_takeFrom_24 4 wl_4 rfl rfl rfl (by decide) (Nat.le_of_ble_eq_true rfl) rfl ?_
    refine j_istore_n (i := 2) (lv' := [(2, .int (S_X6_waiting_4 v f)), (0, .ref (ad 3)), (1, .ref (ad 4))]) C dX1_takeFrom_27 rfl (by decide) rfl ?_
    refine j_iload_n (i := 2) C dX1_takeFrom_28 rfl 0 rfl ?_
    refine j_if_ne (tgt := 34) C dX1_takeFrom_29 (by decide) (fun c_2 => ?_) (fun c_2 => ?_)
    · refine j_iload_n (i := 2) C dX1_takeFrom_34 rfl 0 rfl ?_
      refine j_aload_n (i := 1) C dX1_takeFrom_35 rfl 2 rfl ?_
      refine g_4_size (x := (v 5)) C dX1_takeFrom_36 lf_X1_112 rfl ?_
      refine j_icmp_gt (tgt := 57) C dX1_takeFrom_39 (by decide) (fun c_3 => ?_) (fun c_3 => ?_)
      · refine j_aload_n (i := 0) C dX1_takeFrom_57 rfl 1 rfl ?_
        refine j_iconst (x := 2) C dX1_takeFrom_58 (by decide) ?_
        refine p_3_state C dX1_takeFrom_59 lf_X1_47 ?_
        refine j_bipush (x := (-5)) C dX1_takeFrom_62 (by decide) ?_
        have hs : S_X1_takeFrom_4 v f = ((-5), (upd v 0 2), f) := by unfold S_X1_takeFrom_4; rw [if_pos c_1, if_neg c_2, if_pos c_3]
        exact j_iret C hQ rfl dX1_takeFrom_64 (dt_ivf hs)
      · refine j_aload_n (i := 0) C dX1_takeFrom_42 rfl 1 rfl ?_
        refine g_3_chain C dX1_takeFrom_43 lf_X1_29 ?_
        refine j_aload_n (i := 1) C dX1_takeFrom_46 rfl 2 rfl ?_
        refine j_aload_n (i := 0) C dX1_takeFrom_47 rfl 1 rfl ?_
        refine g_3_tables (x := (v 1)) C dX1_takeFrom_48 lf_X1_51 rfl ?_
        refine c_V (As := [.ref (ad 4), .int (v 1)]) (rest := []) (st1 := [.int ((S_X0_gather_4 v f (v 1)).1)]) C (c_X0_gather_4 ε ad v f u g (v 1)  ) mv_X0_gather lm_X1_115 dX1_takeFrom_51 7 wl_7 rfl rfl rfl (by decide) (Nat.le_of_ble_eq_true rfl) rfl ?_
        refine j_if_ne (tgt := 65) C dX1_takeFrom_54 (by decide) (fun c_4 => ?_) (fun c_4 => ?_)
        · refine j_aload_n (i := 1) C dX1_takeFrom_65 rfl 2 rfl ?_
          refine j_aload_n (i := 1) C dX1_takeFrom_66 rfl 2 rfl ?_
          refine g_4_taken (x := (((S_X0_gather_4 v f (v 1)).2.1) 9)) C dX1_takeFrom_67 lf_X1_119 rfl ?_
          refine c_SN (As := [.int (((S_X0_gather_4 v f (v 1)).2.1) 9)]) (rest := [.ref (ad 4)]) (st1 := [.int (Q_X1_takeFrom_4_1 v f), .ref (ad 4)]) C (c_X8_oneMore ε ad ((S_X0_gather_4 v f (v 1)).2.1) ((S_X0_gather_4 v f (v 1)).2.2) u g (((S_X0_gather_4 v f (v 1)).2.1) 9)  ) mt_X8_oneMore nw_X1_122 dX1_takeFrom_70 rfl rfl (by decide) (Nat.le_of_ble_eq_true rfl) rfl ?_
          refine p_4_taken C dX1_takeFrom_73 lf_X1_119 ?_
          refine j_iconst (x := 1) C dX1_takeFrom_76 (by decide) ?_
          have hs : S_X1_takeFrom_4 v f = (1, (upd ((S_X0_gather_4 v f (v 1)).2.1) 9 (Q_X1_takeFrom_4_1 v f)), ((S_X0_gather_4 v f (v 1)).2.2)) := by unfold S_X1_takeFrom_4; rw [if_pos c_1, if_neg c_2, if_neg c_3, if_neg c_4]
          exact j_iret C hQ rfl dX1_takeFrom_77 (dt_ivf hs)
        · refine j_aload_n (i := 0) C dX1_takeFrom_57 rfl 1 rfl ?_
          refine j_iconst (x := 2) C dX1_takeFrom_58 (by decide) ?_
          refine p_3_state C dX1_takeFrom_59 lf_X1_47 ?_
          refine j_bipush (x := (-5)) C dX1_takeFrom_62 (by decide) ?_
          have hs : S_X1_takeFrom_4 v f = ((-5), (upd ((S_X0_gather_4 v f (v 1)).2.1) 0 2), ((S_X0_gather_4 v f (v 1)).2.2)) := by unfold S_X1_takeFrom_4; rw [if_pos c_1, if_neg c_2, if_neg c_3, if_pos c_4]
          exact j_iret C hQ rfl dX1_takeFrom_64 (dt_ivf hs)
    · refine j_iconst (x := 0) C dX1_takeFrom_32 (by decide) ?_
      have hs : S_X1_takeFrom_4 v f = (0, v, f) := by unfold S_X1_takeFrom_4; rw [if_pos c_1, if_pos c_2]
      exact j_iret C hQ rfl dX1_takeFrom_33 (dt_ivf hs)
  · refine j_aload_n (i := 0) C dX1_takeFrom_8 rfl 0 rfl ?_
    refine g_3_state (x := (v 0)) C dX1_takeFrom_9 lf_X1_47 rfl ?_
    refine j_if_ne (tgt := 20) C dX1_takeFrom_12 (by decide) (fun c_5 => ?_) (fun c_5 => ?_)
    · refine j_bipush (x := (-5)) C dX1_takeFrom_20 (by decide) ?_
      have hs : S_X1_takeFrom_4 v f = ((-5), v, f) := by unfold S_X1_takeFrom_4; rw [if_neg c_1, if_neg c_5]
      exact j_iret C hQ rfl dX1_takeFrom_22 (dt_ivf hs)
    · refine j_bipush (x := (-4)) C dX1_takeFrom_15 (by decide) ?_
      refine j_goto (tgt := 22) C dX1_takeFrom_17 (by decide) ?_
      have hs : S_X1_takeFrom_4 v f = ((-4), v, f) := by unfold S_X1_takeFrom_4; rw [if_neg c_1, if_pos c_5]
      exact j_iret C hQ rfl dX1_takeFrom_22 (dt_ivf hs)
theorem tf_29_4 (v : Nat → Int32) (f : Nat → Nat → Int32) (h : (S_X1_takeFrom_4 v f).1 = 1) : 0 ≤ ((S_X1_takeFrom_4 v f).2.1 29).toInt := by
  have hg := ga_29_4 v f (v 1)
  revert h
  unfold S_X1_takeFrom_4 Q_X1_takeFrom_4_1
  generalize S_X0_gather_4 v f (v 1) = G at hg ⊢
  repeat' split
  all_goals intro h
  all_goals first | exact absurd (show (-5 : Int32) = 1 from h) (by decide) | exact absurd (show (-4 : Int32) = 1 from h) (by decide) | exact absurd (show (0 : Int32) = 1 from h) (by decide) | exact hg

def Q_X1_takeFrom_5_1 (v : Nat → Int32) (f : Nat → Nat → Int32) : Int32 := (S_X8_oneMore ((S_X0_gather_5 v f (v 1)).2.1) ((S_X0_gather_5 v f (v 1)).2.2) (((S_X0_gather_5 v f (v 1)).2.1) 17))
def S_X1_takeFrom_5 (v : Nat → Int32) (f : Nat → Nat → Int32)  : Int32 × (Nat → Int32) × (Nat → Nat → Int32) :=
  if (v 0) = 1 then if (S_X6_waiting_5 v f) = 0 then (0, v, f)
    else if (v 13) < (S_X6_waiting_5 v f) then ((-5), (upd v 0 2), f)
      else if ((S_X0_gather_5 v f (v 1)).1) = 0 then ((-5), (upd ((S_X0_gather_5 v f (v 1)).2.1) 0 2), ((S_X0_gather_5 v f (v 1)).2.2))
        else (1, (upd ((S_X0_gather_5 v f (v 1)).2.1) 17 (Q_X1_takeFrom_5_1 v f)), ((S_X0_gather_5 v f (v 1)).2.2))
  else if (v 0) = 0 then ((-4), v, f)
    else ((-5), v, f)
set_option maxHeartbeats 1000000 in
set_option maxRecDepth 100000 in
theorem c_X1_takeFrom_5 (ε : ET) (ad : Nat → Nat) (v : Nat → Int32) (f : Nat → Nat → Int32) (u : Nat → Int32) (g : Nat → Nat → Int32)   : CT ε yX1_takeFrom cX1_takeFrom 3 (some .int) 4 101 0 0 [.ref (ad 3), .ref (ad 5)] (WD ε ad v f u g) (DT (some (.int ((S_X1_takeFrom_5 v f).1))) (WD ε ad ((S_X1_takeFrom_5 v f).2.1) ((S_X1_takeFrom_5 v f).2.2) u g)) := by
  refine CT.of (own := RX1) (by decide) rfl (Nat.le_of_ble_eq_true rfl) (fun κ C hQ => ?_)
  refine j_aload_n (i := 0) C dX1_takeFrom_0 rfl 0 rfl ?_
  refine g_3_state (x := (v 0)) C dX1_takeFrom_1 lf_X1_47 rfl ?_
  refine j_iconst (x := 1) C dX1_takeFrom_4 (by decide) ?_
  refine j_icmp_eq (tgt := 23) C dX1_takeFrom_5 (by decide) (fun c_1 => ?_) (fun c_1 => ?_)
  · refine j_aload_n (i := 1) C dX1_takeFrom_23 rfl 1 rfl ?_
    refine c_V (As := []) (rest := []) (st1 := [.int (S_X6_waiting_5 v f)]) C (c_X6_waiting_5 ε ad v f u g   ) mv_X6_waiting lm_X1_108 dX1_takeFrom_24 5 wl_5 rfl rfl rfl (by decide) (Nat.le_of_ble_eq_true rfl) rfl ?_
    refine j_istore_n (i := 2) (lv' := [(2, .int (S_X6_waiting_5 v f)), (0, .ref (ad 3)), (1, .ref (ad 5))]) C dX1_takeFrom_27 rfl (by decide) rfl ?_
    refine j_iload_n (i := 2) C dX1_takeFrom_28 rfl 0 rfl ?_
    refine j_if_ne (tgt := 34) C dX1_takeFrom_29 (by decide) (fun c_2 => ?_) (fun c_2 => ?_)
    · refine j_iload_n (i := 2) C dX1_takeFrom_34 rfl 0 rfl ?_
      refine j_aload_n (i := 1) C dX1_takeFrom_35 rfl 2 rfl ?_
      refine g_5_size (x := (v 13)) C dX1_takeFrom_36 lf_X1_112 rfl ?_
      refine j_icmp_gt (tgt := 57) C dX1_takeFrom_39 (by decide) (fun c_3 => ?_) (fun c_3 => ?_)
      · refine j_aload_n (i := 0) C dX1_takeFrom_57 rfl 1 rfl ?_
        refine j_iconst (x := 2) C dX1_takeFrom_58 (by decide) ?_
        refine p_3_state C dX1_takeFrom_59 lf_X1_47 ?_
        refine j_bipush (x := (-5)) C dX1_takeFrom_62 (by decide) ?_
        have hs : S_X1_takeFrom_5 v f = ((-5), (upd v 0 2), f) := by unfold S_X1_takeFrom_5; rw [if_pos c_1, if_neg c_2, if_pos c_3]
        exact j_iret C hQ rfl dX1_takeFrom_64 (dt_ivf hs)
      · refine j_aload_n (i := 0) C dX1_takeFrom_42 rfl 1 rfl ?_
        refine g_3_chain C dX1_takeFrom_43 lf_X1_29 ?_
        refine j_aload_n (i := 1) C dX1_takeFrom_46 rfl 2 rfl ?_
        refine j_aload_n (i := 0) C dX1_takeFrom_47 rfl 1 rfl ?_
        refine g_3_tables (x := (v 1)) C dX1_takeFrom_48 lf_X1_51 rfl ?_
        refine c_V (As := [.ref (ad 5), .int (v 1)]) (rest := []) (st1 := [.int ((S_X0_gather_5 v f (v 1)).1)]) C (c_X0_gather_5 ε ad v f u g (v 1)  ) mv_X0_gather lm_X1_115 dX1_takeFrom_51 7 wl_7 rfl rfl rfl (by decide) (Nat.le_of_ble_eq_true rfl) rfl ?_
        refine j_if_ne (tgt := 65) C dX1_takeFrom_54 (by decide) (fun c_4 => ?_) (fun c_4 => ?_)
        · refine j_aload_n (i := 1) C dX1_takeFrom_65 rfl 2 rfl ?_
          refine j_aload_n (i := 1) C dX1_takeFrom_66 rfl 2 rfl ?_
          refine g_5_taken (x := (((S_X0_gather_5 v f (v 1)).2.1) 17)) C dX1_takeFrom_67 lf_X1_119 rfl ?_
          refine c_SN (As := [.int (((S_X0_gather_5 v f (v 1)).2.1) 17)]) (rest := [.ref (ad 5)]) (st1 := [.int (Q_X1_takeFrom_5_1 v f), .ref (ad 5)]) C (c_X8_oneMore ε ad ((S_X0_gather_5 v f (v 1)).2.1) ((S_X0_gather_5 v f (v 1)).2.2) u g (((S_X0_gather_5 v f (v 1)).2.1) 17)  ) mt_X8_oneMore nw_X1_122 dX1_takeFrom_70 rfl rfl (by decide) (Nat.le_of_ble_eq_true rfl) rfl ?_
          refine p_5_taken C dX1_takeFrom_73 lf_X1_119 ?_
          refine j_iconst (x := 1) C dX1_takeFrom_76 (by decide) ?_
          have hs : S_X1_takeFrom_5 v f = (1, (upd ((S_X0_gather_5 v f (v 1)).2.1) 17 (Q_X1_takeFrom_5_1 v f)), ((S_X0_gather_5 v f (v 1)).2.2)) := by unfold S_X1_takeFrom_5; rw [if_pos c_1, if_neg c_2, if_neg c_3, if_neg c_4]
          exact j_iret C hQ rfl dX1_takeFrom_77 (dt_ivf hs)
        · refine j_aload_n (i := 0) C dX1_takeFrom_57 rfl 1 rfl ?_
          refine j_iconst (x := 2) C dX1_takeFrom_58 (by decide) ?_
          refine p_3_state C dX1_takeFrom_59 lf_X1_47 ?_
          refine j_bipush (x := (-5)) C dX1_takeFrom_62 (by decide) ?_
          have hs : S_X1_takeFrom_5 v f = ((-5), (upd ((S_X0_gather_5 v f (v 1)).2.1) 0 2), ((S_X0_gather_5 v f (v 1)).2.2)) := by unfold S_X1_takeFrom_5; rw [if_pos c_1, if_neg c_2, if_neg c_3, if_pos c_4]
          exact j_iret C hQ rfl dX1_takeFrom_64 (dt_ivf hs)
    · refine j_iconst (x := 0) C dX1_takeFrom_32 (by decide) ?_
      have hs : S_X1_takeFrom_5 v f = (0, v, f) := by unfold S_X1_takeFrom_5; rw [if_pos c_1, if_pos c_2]
      exact j_iret C hQ rfl dX1_takeFrom_33 (dt_ivf hs)
  · refine j_aload_n (i := 0) C dX1_takeFrom_8 rfl 0 rfl ?_
    refine g_3_state (x := (v 0)) C dX1_takeFrom_9 lf_X1_47 rfl ?_
    refine j_if_ne (tgt := 20) C dX1_takeFrom_12 (by decide) (fun c_5 => ?_) (fun c_5 => ?_)
    · refine j_bipush (x := (-5)) C dX1_takeFrom_20 (by decide) ?_
      have hs : S_X1_takeFrom_5 v f = ((-5), v, f) := by unfold S_X1_takeFrom_5; rw [if_neg c_1, if_neg c_5]
      exact j_iret C hQ rfl dX1_takeFrom_22 (dt_ivf hs)
    · refine j_bipush (x := (-4)) C dX1_takeFrom_15 (by decide) ?_
      refine j_goto (tgt := 22) C dX1_takeFrom_17 (by decide) ?_
      have hs : S_X1_takeFrom_5 v f = ((-4), v, f) := by unfold S_X1_takeFrom_5; rw [if_neg c_1, if_pos c_5]
      exact j_iret C hQ rfl dX1_takeFrom_22 (dt_ivf hs)
theorem tf_29_5 (v : Nat → Int32) (f : Nat → Nat → Int32) (h : (S_X1_takeFrom_5 v f).1 = 1) : 0 ≤ ((S_X1_takeFrom_5 v f).2.1 29).toInt := by
  have hg := ga_29_5 v f (v 1)
  revert h
  unfold S_X1_takeFrom_5 Q_X1_takeFrom_5_1
  generalize S_X0_gather_5 v f (v 1) = G at hg ⊢
  repeat' split
  all_goals intro h
  all_goals first | exact absurd (show (-5 : Int32) = 1 from h) (by decide) | exact absurd (show (-4 : Int32) = 1 from h) (by decide) | exact absurd (show (0 : Int32) = 1 from h) (by decide) | exact hg

def Q_X1_takeFrom_6_1 (v : Nat → Int32) (f : Nat → Nat → Int32) : Int32 := (S_X8_oneMore ((S_X0_gather_6 v f (v 1)).2.1) ((S_X0_gather_6 v f (v 1)).2.2) (((S_X0_gather_6 v f (v 1)).2.1) 25))
def S_X1_takeFrom_6 (v : Nat → Int32) (f : Nat → Nat → Int32)  : Int32 × (Nat → Int32) × (Nat → Nat → Int32) :=
  if (v 0) = 1 then if (S_X6_waiting_6 v f) = 0 then (0, v, f)
    else if (v 21) < (S_X6_waiting_6 v f) then ((-5), (upd v 0 2), f)
      else if ((S_X0_gather_6 v f (v 1)).1) = 0 then ((-5), (upd ((S_X0_gather_6 v f (v 1)).2.1) 0 2), ((S_X0_gather_6 v f (v 1)).2.2))
        else (1, (upd ((S_X0_gather_6 v f (v 1)).2.1) 25 (Q_X1_takeFrom_6_1 v f)), ((S_X0_gather_6 v f (v 1)).2.2))
  else if (v 0) = 0 then ((-4), v, f)
    else ((-5), v, f)
set_option maxHeartbeats 1000000 in
set_option maxRecDepth 100000 in
theorem c_X1_takeFrom_6 (ε : ET) (ad : Nat → Nat) (v : Nat → Int32) (f : Nat → Nat → Int32) (u : Nat → Int32) (g : Nat → Nat → Int32)   : CT ε yX1_takeFrom cX1_takeFrom 3 (some .int) 4 101 0 0 [.ref (ad 3), .ref (ad 6)] (WD ε ad v f u g) (DT (some (.int ((S_X1_takeFrom_6 v f).1))) (WD ε ad ((S_X1_takeFrom_6 v f).2.1) ((S_X1_takeFrom_6 v f).2.2) u g)) := by
  refine CT.of (own := RX1) (by decide) rfl (Nat.le_of_ble_eq_true rfl) (fun κ C hQ => ?_)
  refine j_aload_n (i := 0) C dX1_takeFrom_0 rfl 0 rfl ?_
  refine g_3_state (x := (v 0)) C dX1_takeFrom_1 lf_X1_47 rfl ?_
  refine j_iconst (x := 1) C dX1_takeFrom_4 (by decide) ?_
  refine j_icmp_eq (tgt := 23) C dX1_takeFrom_5 (by decide) (fun c_1 => ?_) (fun c_1 => ?_)
  · refine j_aload_n (i := 1) C dX1_takeFrom_23 rfl 1 rfl ?_
    refine c_V (As := []) (rest := []) (st1 := [.int (S_X6_waiting_6 v f)]) C (c_X6_waiting_6 ε ad v f u g   ) mv_X6_waiting lm_X1_108 dX1_takeFrom_24 6 wl_6 rfl rfl rfl (by decide) (Nat.le_of_ble_eq_true rfl) rfl ?_
    refine j_istore_n (i := 2) (lv' := [(2, .int (S_X6_waiting_6 v f)), (0, .ref (ad 3)), (1, .ref (ad 6))]) C dX1_takeFrom_27 rfl (by decide) rfl ?_
    refine j_iload_n (i := 2) C dX1_takeFrom_28 rfl 0 rfl ?_
    refine j_if_ne (tgt := 34) C dX1_takeFrom_29 (by decide) (fun c_2 => ?_) (fun c_2 => ?_)
    · refine j_iload_n (i := 2) C dX1_takeFrom_34 rfl 0 rfl ?_
      refine j_aload_n (i := 1) C dX1_takeFrom_35 rfl 2 rfl ?_
      refine g_6_size (x := (v 21)) C dX1_takeFrom_36 lf_X1_112 rfl ?_
      refine j_icmp_gt (tgt := 57) C dX1_takeFrom_39 (by decide) (fun c_3 => ?_) (fun c_3 => ?_)
      · refine j_aload_n (i := 0) C dX1_takeFrom_57 rfl 1 rfl ?_
        refine j_iconst (x := 2) C dX1_takeFrom_58 (by decide) ?_
        refine p_3_state C dX1_takeFrom_59 lf_X1_47 ?_
        refine j_bipush (x := (-5)) C dX1_takeFrom_62 (by decide) ?_
        have hs : S_X1_takeFrom_6 v f = ((-5), (upd v 0 2), f) := by unfold S_X1_takeFrom_6; rw [if_pos c_1, if_neg c_2, if_pos c_3]
        exact j_iret C hQ rfl dX1_takeFrom_64 (dt_ivf hs)
      · refine j_aload_n (i := 0) C dX1_takeFrom_42 rfl 1 rfl ?_
        refine g_3_chain C dX1_takeFrom_43 lf_X1_29 ?_
        refine j_aload_n (i := 1) C dX1_takeFrom_46 rfl 2 rfl ?_
        refine j_aload_n (i := 0) C dX1_takeFrom_47 rfl 1 rfl ?_
        refine g_3_tables (x := (v 1)) C dX1_takeFrom_48 lf_X1_51 rfl ?_
        refine c_V (As := [.ref (ad 6), .int (v 1)]) (rest := []) (st1 := [.int ((S_X0_gather_6 v f (v 1)).1)]) C (c_X0_gather_6 ε ad v f u g (v 1)  ) mv_X0_gather lm_X1_115 dX1_takeFrom_51 7 wl_7 rfl rfl rfl (by decide) (Nat.le_of_ble_eq_true rfl) rfl ?_
        refine j_if_ne (tgt := 65) C dX1_takeFrom_54 (by decide) (fun c_4 => ?_) (fun c_4 => ?_)
        · refine j_aload_n (i := 1) C dX1_takeFrom_65 rfl 2 rfl ?_
          refine j_aload_n (i := 1) C dX1_takeFrom_66 rfl 2 rfl ?_
          refine g_6_taken (x := (((S_X0_gather_6 v f (v 1)).2.1) 25)) C dX1_takeFrom_67 lf_X1_119 rfl ?_
          refine c_SN (As := [.int (((S_X0_gather_6 v f (v 1)).2.1) 25)]) (rest := [.ref (ad 6)]) (st1 := [.int (Q_X1_takeFrom_6_1 v f), .ref (ad 6)]) C (c_X8_oneMore ε ad ((S_X0_gather_6 v f (v 1)).2.1) ((S_X0_gather_6 v f (v 1)).2.2) u g (((S_X0_gather_6 v f (v 1)).2.1) 25)  ) mt_X8_oneMore nw_X1_122 dX1_takeFrom_70 rfl rfl (by decide) (Nat.le_of_ble_eq_true rfl) rfl ?_
          refine p_6_taken C dX1_takeFrom_73 lf_X1_119 ?_
          refine j_iconst (x := 1) C dX1_takeFrom_76 (by decide) ?_
          have hs : S_X1_takeFrom_6 v f = (1, (upd ((S_X0_gather_6 v f (v 1)).2.1) 25 (Q_X1_takeFrom_6_1 v f)), ((S_X0_gather_6 v f (v 1)).2.2)) := by unfold S_X1_takeFrom_6; rw [if_pos c_1, if_neg c_2, if_neg c_3, if_neg c_4]
          exact j_iret C hQ rfl dX1_takeFrom_77 (dt_ivf hs)
        · refine j_aload_n (i := 0) C dX1_takeFrom_57 rfl 1 rfl ?_
          refine j_iconst (x := 2) C dX1_takeFrom_58 (by decide) ?_
          refine p_3_state C dX1_takeFrom_59 lf_X1_47 ?_
          refine j_bipush (x := (-5)) C dX1_takeFrom_62 (by decide) ?_
          have hs : S_X1_takeFrom_6 v f = ((-5), (upd ((S_X0_gather_6 v f (v 1)).2.1) 0 2), ((S_X0_gather_6 v f (v 1)).2.2)) := by unfold S_X1_takeFrom_6; rw [if_pos c_1, if_neg c_2, if_neg c_3, if_pos c_4]
          exact j_iret C hQ rfl dX1_takeFrom_64 (dt_ivf hs)
    · refine j_iconst (x := 0) C dX1_takeFrom_32 (by decide) ?_
      have hs : S_X1_takeFrom_6 v f = (0, v, f) := by unfold S_X1_takeFrom_6; rw [if_pos c_1, if_pos c_2]
      exact j_iret C hQ rfl dX1_takeFrom_33 (dt_ivf hs)
  · refine j_aload_n (i := 0) C dX1_takeFrom_8 rfl 0 rfl ?_
    refine g_3_state (x := (v 0)) C dX1_takeFrom_9 lf_X1_47 rfl ?_
    refine j_if_ne (tgt := 20) C dX1_takeFrom_12 (by decide) (fun c_5 => ?_) (fun c_5 => ?_)
    · refine j_bipush (x := (-5)) C dX1_takeFrom_20 (by decide) ?_
      have hs : S_X1_takeFrom_6 v f = ((-5), v, f) := by unfold S_X1_takeFrom_6; rw [if_neg c_1, if_neg c_5]
      exact j_iret C hQ rfl dX1_takeFrom_22 (dt_ivf hs)
    · refine j_bipush (x := (-4)) C dX1_takeFrom_15 (by decide) ?_
      refine j_goto (tgt := 22) C dX1_takeFrom_17 (by decide) ?_
      have hs : S_X1_takeFrom_6 v f = ((-4), v, f) := by unfold S_X1_takeFrom_6; rw [if_neg c_1, if_pos c_5]
      exact j_iret C hQ rfl dX1_takeFrom_22 (dt_ivf hs)
theorem tf_29_6 (v : Nat → Int32) (f : Nat → Nat → Int32) (h : (S_X1_takeFrom_6 v f).1 = 1) : 0 ≤ ((S_X1_takeFrom_6 v f).2.1 29).toInt := by
  have hg := ga_29_6 v f (v 1)
  revert h
  unfold S_X1_takeFrom_6 Q_X1_takeFrom_6_1
  generalize S_X0_gather_6 v f (v 1) = G at hg ⊢
  repeat' split
  all_goals intro h
  all_goals first | exact absurd (show (-5 : Int32) = 1 from h) (by decide) | exact absurd (show (-4 : Int32) = 1 from h) (by decide) | exact absurd (show (0 : Int32) = 1 from h) (by decide) | exact hg

