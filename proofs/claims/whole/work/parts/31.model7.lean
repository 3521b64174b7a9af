def Q_X9_step_1 (u : Nat → Int32) (g : Nat → Nat → Int32) (a : Int32) : Int32 := ((S_X9_take ((S_X9_hasSomething u g 0).2) g 0).1)
def Q_X9_step_2 (u : Nat → Int32) (g : Nat → Nat → Int32) (a : Int32) : (Nat → Int32) := ((S_X9_take ((S_X9_hasSomething u g 0).2) g 0).2.1)
def Q_X9_step_3 (u : Nat → Int32) (g : Nat → Nat → Int32) (a : Int32) : (Nat → Nat → Int32) := ((S_X9_take ((S_X9_hasSomething u g 0).2) g 0).2.2)
def Q_X9_step_4 (u : Nat → Int32) (g : Nat → Nat → Int32) (a : Int32) : Int32 := ((S_X9_doDisk (Q_X9_step_2 u g a) (Q_X9_step_3 u g a)).1)
def Q_X9_step_5 (u : Nat → Int32) (g : Nat → Nat → Int32) (a : Int32) : (Nat → Nat → Int32) := ((S_X9_doDisk (Q_X9_step_2 u g a) (Q_X9_step_3 u g a)).2)
def Q_X9_step_6 (u : Nat → Int32) (g : Nat → Nat → Int32) (a : Int32) : (Nat → Nat → Int32) := (S_X9_give (Q_X9_step_2 u g a) (Q_X9_step_5 u g a) (Q_X9_step_4 u g a) 0)
def Q_X9_step_7 (u : Nat → Int32) (g : Nat → Nat → Int32) (a : Int32) : Int32 := ((S_X9_take ((S_X9_hasSomething u g 2).2) g 2).1)
def Q_X9_step_8 (u : Nat → Int32) (g : Nat → Nat → Int32) (a : Int32) : (Nat → Int32) := ((S_X9_take ((S_X9_hasSomething u g 2).2) g 2).2.1)
def Q_X9_step_9 (u : Nat → Int32) (g : Nat → Nat → Int32) (a : Int32) : (Nat → Nat → Int32) := ((S_X9_take ((S_X9_hasSomething u g 2).2) g 2).2.2)
def Q_X9_step_10 (u : Nat → Int32) (g : Nat → Nat → Int32) (a : Int32) : (Nat → Int32) := ((S_X9_doWire (Q_X9_step_8 u g a) (Q_X9_step_9 u g a)).1)
def Q_X9_step_11 (u : Nat → Int32) (g : Nat → Nat → Int32) (a : Int32) : (Nat → Nat → Int32) := ((S_X9_doWire (Q_X9_step_8 u g a) (Q_X9_step_9 u g a)).2)
def Q_X9_step_12 (u : Nat → Int32) (g : Nat → Nat → Int32) (a : Int32) : (Nat → Nat → Int32) := (S_X9_give (Q_X9_step_10 u g a) (Q_X9_step_11 u g a) 0 2)
def S_X9_step (u : Nat → Int32) (g : Nat → Nat → Int32) (a : Int32) : Int32 × (Nat → Int32) × (Nat → Nat → Int32) :=
  if a = 0 then if (u 0) = 0 then ((-4), u, g)
    else if ((S_X9_hasSomething u g 0).1) = 0 then if (((S_X9_hasSomething u g 0).2) 0) = 2 then ((-5), ((S_X9_hasSomething u g 0).2), g)
        else (0, ((S_X9_hasSomething u g 0).2), g)
      else if (Q_X9_step_1 u g a) = 0 then ((-5), (Q_X9_step_2 u g a), (Q_X9_step_3 u g a))
        else (1, (Q_X9_step_2 u g a), (Q_X9_step_6 u g a))
  else if a = 2 then if (u 0) = 0 then ((-4), u, g)
      else if ((S_X9_hasSomething u g 2).1) = 0 then if (((S_X9_hasSomething u g 2).2) 0) = 2 then ((-5), ((S_X9_hasSomething u g 2).2), g)
          else (0, ((S_X9_hasSomething u g 2).2), g)
        else if (Q_X9_step_7 u g a) = 0 then ((-5), (Q_X9_step_8 u g a), (Q_X9_step_9 u g a))
          else (1, (Q_X9_step_10 u g a), (Q_X9_step_12 u g a))
    else ((-2), u, g)
set_option maxHeartbeats 1000000 in
set_option maxRecDepth 100000 in
theorem c_X9_step (ε : ET) (ad : Nat → Nat) (v : Nat → Int32) (f : Nat → Nat → Int32) (u : Nat → Int32) (g : Nat → Nat → Int32) (a : Int32) (hM : MInv u g) : CT ε yX9_step cX9_step 2 (some .int) 3 78 0 0 [.ref (ad 22), .int a] (WD ε ad v f u g) (DT (some (.int ((S_X9_step u g a).1))) (WD ε ad v f ((S_X9_step u g a).2.1) ((S_X9_step u g a).2.2))) := by
  refine CT.of (own := RX9) (by decide) rfl (Nat.le_of_ble_eq_true rfl) (fun κ C hQ => ?_)
  refine j_iload_n (i := 1) C dX9_step_0 rfl 1 rfl ?_
  refine j_if_eq (tgt := 12) C dX9_step_1 (by decide) (fun c_1 => ?_) (fun c_1 => ?_)
  · refine j_aload_n (i := 0) C dX9_step_12 rfl 0 rfl ?_
    refine g_22_state (x := (u 0)) C dX9_step_13 lf_X9_86 rfl ?_
    refine j_if_ne (tgt := 22) C dX9_step_16 (by decide) (fun c_2 => ?_) (fun c_2 => ?_)
    · refine j_aload_n (i := 0) C dX9_step_22 rfl 0 rfl ?_
      refine j_iload_n (i := 1) C dX9_step_23 rfl 1 rfl ?_
      refine j_to (lv2 := [(0, .ref (ad 22)), (1, .int 0)]) (st' := [.int 0, .ref (ad 22)]) rfl (by first | rfl | (rw [c_1]; rfl)) (by first | rfl | (rw [c_1]; rfl) | rw [c_1]) ?_
      refine c_V (As := [.int 0]) (rest := []) (st1 := [.int ((S_X9_hasSomething u g 0).1)]) C (c_X9_hasSomething ε ad v f u g 0  (by first | assumption | omega | decide) (fun h9 => hM.av (by decide) h9)) mv_X9_hasSomething lm_X9_131 dX9_step_24 22 wl_22 rfl rfl rfl (by decide) (Nat.le_of_ble_eq_true rfl) rfl ?_
      refine j_if_ne (tgt := 45) C dX9_step_27 (by decide) (fun c_3 => ?_) (fun c_3 => ?_)
      · refine j_aload_n (i := 0) C dX9_step_45 rfl 0 rfl ?_
        refine j_iload_n (i := 1) C dX9_step_46 rfl 1 rfl ?_
        refine c_V (As := [.int 0]) (rest := []) (st1 := [.int (Q_X9_step_1 u g a)]) (ω1 := (WD ε ad v f (Q_X9_step_2 u g a) (Q_X9_step_3 u g a))) C (c_X9_take ε ad v f ((S_X9_hasSomething u g 0).2) g 0  (by first | assumption | omega | decide) (hM.tq (by decide) (hs_ok c_3).1)) mv_X9_take lm_X9_135 dX9_step_47 22 wl_22 rfl rfl rfl (by decide) (Nat.le_of_ble_eq_true rfl) rfl ?_
        refine j_if_ne (tgt := 56) C dX9_step_50 (by decide) (fun c_4 => ?_) (fun c_4 => ?_)
        · refine j_iload_n (i := 1) C dX9_step_56 rfl 1 rfl ?_
          refine j_if_ne (tgt := 72) C dX9_step_57 (by decide) (fun c9 => absurd c9 (by decide)) (fun _ => ?_)
          refine j_aload_n (i := 0) C dX9_step_60 rfl 0 rfl ?_
          refine j_iconst (x := 0) C dX9_step_61 (by decide) ?_
          refine j_aload_n (i := 0) C dX9_step_62 rfl 0 rfl ?_
          refine c_V (As := []) (rest := [.int 0, .ref (ad 22)]) (st1 := [.int (Q_X9_step_4 u g a), .int 0, .ref (ad 22)]) (ω1 := (WD ε ad v f (Q_X9_step_2 u g a) (Q_X9_step_5 u g a))) C (c_X9_doDisk ε ad v f (Q_X9_step_2 u g a) (Q_X9_step_3 u g a)   (by unfold Q_X9_step_2 Q_X9_step_3; exact (st_ok hM (by decide) c_3 (by have h9 := c_4; unfold Q_X9_step_1 at h9; exact h9)).1.dp)) mv_X9_doDisk lm_X9_138 dX9_step_63 22 wl_22 rfl rfl rfl (by decide) (Nat.le_of_ble_eq_true rfl) rfl ?_
          refine c_V (As := [.int 0, .int (Q_X9_step_4 u g a)]) (rest := []) (st1 := []) (ω1 := (WD ε ad v f (Q_X9_step_2 u g a) (Q_X9_step_6 u g a))) C (c_X9_give ε ad v f (Q_X9_step_2 u g a) (Q_X9_step_5 u g a) (Q_X9_step_4 u g a) 0  (by first | assumption | omega | decide) (by unfold Q_X9_step_5 Q_X9_step_2 Q_X9_step_3; exact (st_ok hM (by decide) c_3 (by have h9 := c_4; unfold Q_X9_step_1 at h9; exact h9)).2.1.dk)) mv_X9_give lm_X9_142 dX9_step_66 22 wl_22 rfl rfl rfl (by decide) (Nat.le_of_ble_eq_true rfl) rfl ?_
          refine j_goto (tgt := 82) C dX9_step_69 (by decide) ?_
          refine j_iconst (x := 1) C dX9_step_82 (by decide) ?_
          have hs : S_X9_step u g a = (1, (Q_X9_step_2 u g a), (Q_X9_step_6 u g a)) := by unfold S_X9_step; rw [if_pos c_1, if_neg c_2, if_neg c_3, if_neg c_4]
          exact j_iret C hQ rfl dX9_step_83 (dt_ivfM hs)
        · refine j_bipush (x := (-5)) C dX9_step_53 (by decide) ?_
          have hs : S_X9_step u g a = ((-5), (Q_X9_step_2 u g a), (Q_X9_step_3 u g a)) := by unfold S_X9_step; rw [if_pos c_1, if_neg c_2, if_neg c_3, if_pos c_4]
          exact j_iret C hQ rfl dX9_step_55 (dt_ivfM hs)
      · refine j_aload_n (i := 0) C dX9_step_30 rfl 0 rfl ?_
        refine g_22_state (x := (((S_X9_hasSomething u g 0).2) 0)) C dX9_step_31 lf_X9_86 rfl ?_
        refine j_iconst (x := 2) C dX9_step_34 (by decide) ?_
        refine j_icmp_ne (tgt := 43) C dX9_step_35 (by decide) (fun c_5 => ?_) (fun c_5 => ?_)
        · refine j_iconst (x := 0) C dX9_step_43 (by decide) ?_
          have hs : S_X9_step u g a = (0, ((S_X9_hasSomething u g 0).2), g) := by unfold S_X9_step; rw [if_pos c_1, if_neg c_2, if_pos c_3, if_neg c_5]
          exact j_iret C hQ rfl dX9_step_44 (dt_ivfM hs)
        · refine j_bipush (x := (-5)) C dX9_step_38 (by decide) ?_
          refine j_goto (tgt := 44) C dX9_step_40 (by decide) ?_
          have hs : S_X9_step u g a = ((-5), ((S_X9_hasSomething u g 0).2), g) := by unfold S_X9_step; rw [if_pos c_1, if_neg c_2, if_pos c_3, if_pos c_5]
          exact j_iret C hQ rfl dX9_step_44 (dt_ivfM hs)
    · refine j_bipush (x := (-4)) C dX9_step_19 (by decide) ?_
      have hs : S_X9_step u g a = ((-4), u, g) := by unfold S_X9_step; rw [if_pos c_1, if_pos c_2]
      exact j_iret C hQ rfl dX9_step_21 (dt_ivfM hs)
  · refine j_iload_n (i := 1) C dX9_step_4 rfl 1 rfl ?_
    refine j_iconst (x := 2) C dX9_step_5 (by decide) ?_
    refine j_icmp_eq (tgt := 12) C dX9_step_6 (by decide) (fun c_6 => ?_) (fun c_6 => ?_)
    · refine j_aload_n (i := 0) C dX9_step_12 rfl 0 rfl ?_
      refine g_22_state (x := (u 0)) C dX9_step_13 lf_X9_86 rfl ?_
      refine j_if_ne (tgt := 22) C dX9_step_16 (by decide) (fun c_7 => ?_) (fun c_7 => ?_)
      · refine j_aload_n (i := 0) C dX9_step_22 rfl 0 rfl ?_
        refine j_iload_n (i := 1) C dX9_step_23 rfl 1 rfl ?_
        refine j_to (lv2 := [(0, .ref (ad 22)), (1, .int 2)]) (st' := [.int 2, .ref (ad 22)]) rfl (by first | rfl | (rw [c_6]; rfl)) (by first | rfl | (rw [c_6]; rfl) | rw [c_6]) ?_
        refine c_V (As := [.int 2]) (rest := []) (st1 := [.int ((S_X9_hasSomething u g 2).1)]) C (c_X9_hasSomething ε ad v f u g 2  (by first | assumption | omega | decide) (fun h9 => hM.av (by decide) h9)) mv_X9_hasSomething lm_X9_131 dX9_step_24 22 wl_22 rfl rfl rfl (by decide) (Nat.le_of_ble_eq_true rfl) rfl ?_
        refine j_if_ne (tgt := 45) C dX9_step_27 (by decide) (fun c_8 => ?_) (fun c_8 => ?_)
        · refine j_aload_n (i := 0) C dX9_step_45 rfl 0 rfl ?_
          refine j_iload_n (i := 1) C dX9_step_46 rfl 1 rfl ?_
          refine c_V (As := [.int 2]) (rest := []) (st1 := [.int (Q_X9_step_7 u g a)]) (ω1 := (WD ε ad v f (Q_X9_step_8 u g a) (Q_X9_step_9 u g a))) C (c_X9_take ε ad v f ((S_X9_hasSomething u g 2).2) g 2  (by first | assumption | omega | decide) (hM.tq (by decide) (hs_ok c_8).1)) mv_X9_take lm_X9_135 dX9_step_47 22 wl_22 rfl rfl rfl (by decide) (Nat.le_of_ble_eq_true rfl) rfl ?_
          refine j_if_ne (tgt := 56) C dX9_step_50 (by decide) (fun c_9 => ?_) (fun c_9 => ?_)
          · refine j_iload_n (i := 1) C dX9_step_56 rfl 1 rfl ?_
            refine j_if_ne (tgt := 72) C dX9_step_57 (by decide) (fun _ => ?_) (fun c9 => absurd c9 (by decide))
            refine j_aload_n (i := 0) C dX9_step_72 rfl 0 rfl ?_
            refine c_V (As := []) (rest := []) (st1 := []) (ω1 := (WD ε ad v f (Q_X9_step_10 u g a) (Q_X9_step_11 u g a))) C (c_X9_doWire ε ad v f (Q_X9_step_8 u g a) (Q_X9_step_9 u g a)   (by unfold Q_X9_step_8; exact (st_ok hM (by decide) c_8 (by have h9 := c_9; unfold Q_X9_step_7 at h9; exact h9)).2.2) (by unfold Q_X9_step_8 Q_X9_step_9; exact (st_ok hM (by decide) c_8 (by have h9 := c_9; unfold Q_X9_step_7 at h9; exact h9)).1.dp)) mv_X9_doWire lm_X9_146 dX9_step_73 22 wl_22 rfl rfl rfl (by decide) (Nat.le_of_ble_eq_true rfl) rfl ?_
            refine j_aload_n (i := 0) C dX9_step_76 rfl 0 rfl ?_
            refine j_iconst (x := 2) C dX9_step_77 (by decide) ?_
            refine j_iconst (x := 0) C dX9_step_78 (by decide) ?_
            refine c_V (As := [.int 2, .int 0]) (rest := []) (st1 := []) (ω1 := (WD ε ad v f (Q_X9_step_10 u g a) (Q_X9_step_12 u g a))) C (c_X9_give ε ad v f (Q_X9_step_10 u g a) (Q_X9_step_11 u g a) 0 2  (by first | assumption | omega | decide) (by unfold Q_X9_step_11 Q_X9_step_8 Q_X9_step_9; exact (st_ok hM (by decide) c_8 (by have h9 := c_9; unfold Q_X9_step_7 at h9; exact h9)).2.1.dw)) mv_X9_give lm_X9_142 dX9_step_79 22 wl_22 rfl rfl rfl (by decide) (Nat.le_of_ble_eq_true rfl) rfl ?_
            refine j_iconst (x := 1) C dX9_step_82 (by decide) ?_
            have hs : S_X9_step u g a = (1, (Q_X9_step_10 u g a), (Q_X9_step_12 u g a)) := by unfold S_X9_step; rw [if_neg c_1, if_pos c_6, if_neg c_7, if_neg c_8, if_neg c_9]
            exact j_iret C hQ rfl dX9_step_83 (dt_ivfM hs)
          · refine j_bipush (x := (-5)) C dX9_step_53 (by decide) ?_
            have hs : S_X9_step u g a = ((-5), (Q_X9_step_8 u g a), (Q_X9_step_9 u g a)) := by unfold S_X9_step; rw [if_neg c_1, if_pos c_6, if_neg c_7, if_neg c_8, if_pos c_9]
            exact j_iret C hQ rfl dX9_step_55 (dt_ivfM hs)
        · refine j_aload_n (i := 0) C dX9_step_30 rfl 0 rfl ?_
          refine g_22_state (x := (((S_X9_hasSomething u g 2).2) 0)) C dX9_step_31 lf_X9_86 rfl ?_
          refine j_iconst (x := 2) C dX9_step_34 (by decide) ?_
          refine j_icmp_ne (tgt := 43) C dX9_step_35 (by decide) (fun c_10 => ?_) (fun c_10 => ?_)
          · refine j_iconst (x := 0) C dX9_step_43 (by decide) ?_
            have hs : S_X9_step u g a = (0, ((S_X9_hasSomething u g 2).2), g) := by unfold S_X9_step; rw [if_neg c_1, if_pos c_6, if_neg c_7, if_pos c_8, if_neg c_10]
            exact j_iret C hQ rfl dX9_step_44 (dt_ivfM hs)
          · refine j_bipush (x := (-5)) C dX9_step_38 (by decide) ?_
            refine j_goto (tgt := 44) C dX9_step_40 (by decide) ?_
            have hs : S_X9_step u g a = ((-5), ((S_X9_hasSomething u g 2).2), g) := by unfold S_X9_step; rw [if_neg c_1, if_pos c_6, if_neg c_7, if_pos c_8, if_pos c_10]
            exact j_iret C hQ rfl dX9_step_44 (dt_ivfM hs)
      · refine j_bipush (x := (-4)) C dX9_step_19 (by decide) ?_
        have hs : S_X9_step u g a = ((-4), u, g) := by unfold S_X9_step; rw [if_neg c_1, if_pos c_6, if_pos c_7]
        exact j_iret C hQ rfl dX9_step_21 (dt_ivfM hs)
    · refine j_bipush (x := (-2)) C dX9_step_9 (by decide) ?_
      have hs : S_X9_step u g a = ((-2), u, g) := by unfold S_X9_step; rw [if_neg c_1, if_neg c_6]
      exact j_iret C hQ rfl dX9_step_11 (dt_ivfM hs)

def Q_X9_arrive_1 (u : Nat → Int32) (g : Nat → Nat → Int32) (a : Int32) (b : Int64) : Int32 := ((S_X9_take ((S_X9_hasSomething u g 1).2) g 1).1)
def Q_X9_arrive_2 (u : Nat → Int32) (g : Nat → Nat → Int32) (a : Int32) (b : Int64) : (Nat → Int32) := ((S_X9_take ((S_X9_hasSomething u g 1).2) g 1).2.1)
def Q_X9_arrive_3 (u : Nat → Int32) (g : Nat → Nat → Int32) (a : Int32) (b : Int64) : (Nat → Nat → Int32) := ((S_X9_take ((S_X9_hasSomething u g 1).2) g 1).2.2)
def Q_X9_arrive_4 (u : Nat → Int32) (g : Nat → Nat → Int32) (a : Int32) (b : Int64) : (Nat → Nat → Int32) := (S_X9_give (Q_X9_arrive_2 u g a b) (Q_X9_arrive_3 u g a b) 0 1)
def L_X9_arrive (u : Nat → Int32) (g : Nat → Nat → Int32) (a : Int32) (b : Int64) : Nat → (Nat → Nat → Int32)
  | 0 => (Q_X9_arrive_3 u g a b)
  | i1 + 1 =>
    if 12 ≤ (nI i1) then (S_X9_writeByte (Q_X9_arrive_2 u g a b) (L_X9_arrive u g a b i1) (nI i1) (S_X9_frameByte (Q_X9_arrive_2 u g a b) (L_X9_arrive u g a b i1) b ((nI i1) - 12)))
    else (S_X9_writeByte (Q_X9_arrive_2 u g a b) (L_X9_arrive u g a b i1) (nI i1) 0)
def Q_X9_arrive_5 (u : Nat → Int32) (g : Nat → Nat → Int32) (a : Int32) (b : Int64) : (Nat → Nat → Int32) := (S_X9_give (Q_X9_arrive_2 u g a b) (L_X9_arrive u g a b (12 + a).toNatClampNeg) (12 + a) 1)
def S_X9_arrive (u : Nat → Int32) (g : Nat → Nat → Int32) (a : Int32) (b : Int64) : Int32 × (Nat → Int32) × (Nat → Nat → Int32) :=
  if (S_X9_isIn u g a 1 80) = 0 then ((-2), u, g)
  else if (u 0) = 0 then ((-4), u, g)
    else if (((S_X9_hasSomething u g 1).2) 0) = 2 then ((-5), ((S_X9_hasSomething u g 1).2), g)
      else if ((S_X9_hasSomething u g 1).1) = 0 then (0, (upd ((S_X9_hasSomething u g 1).2) 11 ((((S_X9_hasSomething u g 1).2) 11) + 1)), g)
        else if (Q_X9_arrive_1 u g a b) = 0 then ((-5), (Q_X9_arrive_2 u g a b), (Q_X9_arrive_3 u g a b))
          else if 0 < ((Q_X9_arrive_2 u g a b) 5) then (0, (upd (Q_X9_arrive_2 u g a b) 11 (((Q_X9_arrive_2 u g a b) 11) + 1)), (Q_X9_arrive_4 u g a b))
            else if (12 + a) ≤ ((Q_X9_arrive_2 u g a b) 7) then (1, (upd (Q_X9_arrive_2 u g a b) 10 (((Q_X9_arrive_2 u g a b) 10) + 1)), (Q_X9_arrive_5 u g a b))
              else (0, (upd (Q_X9_arrive_2 u g a b) 11 (((Q_X9_arrive_2 u g a b) 11) + 1)), (Q_X9_arrive_4 u g a b))
theorem la_same (u : Nat → Int32) (g : Nat → Nat → Int32) (a : Int32) (b : Int64) (i j : Nat) (h : j ≠ 23) : (L_X9_arrive u g a b i) j = (Q_X9_arrive_3 u g a b) j := by
  induction i with
  | zero => rw [L_X9_arrive]
  | succ i ih =>
    rw [L_X9_arrive]
    split
    · rw [wb_same _ _ _ _ _ h]; exact ih
    · rw [wb_same _ _ _ _ _ h]; exact ih
set_option maxHeartbeats 1000000 in
set_option maxRecDepth 100000 in
theorem c_X9_arrive (ε : ET) (ad : Nat → Nat) (v : Nat → Int32) (f : Nat → Nat → Int32) (u : Nat → Int32) (g : Nat → Nat → Int32) (a : Int32) (b : Int64) (hM : MInv u g) : CT ε yX9_arrive cX9_arrive 6 (some .int) 2 65 0 0 [.ref (ad 22), .int a, .long b] (WD ε ad v f u g) (DT (some (.int ((S_X9_arrive u g a b).1))) (WD ε ad v f ((S_X9_arrive u g a b).2.1) ((S_X9_arrive u g a b).2.2))) := by
  refine CT.of (own := RX9) (by decide) rfl (Nat.le_of_ble_eq_true rfl) (fun κ C hQ => ?_)
  refine j_iload_n (i := 1) C dX9_arrive_0 rfl 1 rfl ?_
  refine j_iconst (x := 1) C dX9_arrive_1 (by decide) ?_
  refine j_bipush (x := 80) C dX9_arrive_2 (by decide) ?_
  refine c_S (As := [.int a, .int 1, .int 80]) (rest := []) (st1 := [.int (S_X9_isIn u g a 1 80)]) C (c_X9_isIn ε ad v f u g a 1 80  ) mt_X9_isIn lm_X9_7 dX9_arrive_4 rfl rfl (by decide) (Nat.le_of_ble_eq_true rfl) rfl ?_
  refine j_if_ne (tgt := 13) C dX9_arrive_7 (by decide) (fun c_1 => ?_) (fun c_1 => ?_)
  · refine j_aload_n (i := 0) C dX9_arrive_13 rfl 0 rfl ?_
    refine g_22_state (x := (u 0)) C dX9_arrive_14 lf_X9_86 rfl ?_
    refine j_if_ne (tgt := 23) C dX9_arrive_17 (by decide) (fun c_2 => ?_) (fun c_2 => ?_)
    · refine j_aload_n (i := 0) C dX9_arrive_23 rfl 0 rfl ?_
      refine j_iconst (x := 1) C dX9_arrive_24 (by decide) ?_
      refine c_V (As := [.int 1]) (rest := []) (st1 := [.int ((S_X9_hasSomething u g 1).1)]) C (c_X9_hasSomething ε ad v f u g 1  (by first | assumption | omega | decide) (fun h9 => hM.av (by decide) h9)) mv_X9_hasSomething lm_X9_131 dX9_arrive_25 22 wl_22 rfl rfl rfl (by decide) (Nat.le_of_ble_eq_true rfl) rfl ?_
      refine j_istore (i := 4) (lv' := [(4, .int ((S_X9_hasSomething u g 1).1)), (0, .ref (ad 22)), (1, .int a), (2, .long b)]) C dX9_arrive_28 (by decide) rfl ?_
      refine j_aload_n (i := 0) C dX9_arrive_30 rfl 1 rfl ?_
      refine g_22_state (x := (((S_X9_hasSomething u g 1).2) 0)) C dX9_arrive_31 lf_X9_86 rfl ?_
      refine j_iconst (x := 2) C dX9_arrive_34 (by decide) ?_
      refine j_icmp_ne (tgt := 41) C dX9_arrive_35 (by decide) (fun c_3 => ?_) (fun c_3 => ?_)
      · refine j_iload (i := 4) C dX9_arrive_41 0 rfl ?_
        refine j_if_ne (tgt := 58) C dX9_arrive_43 (by decide) (fun c_4 => ?_) (fun c_4 => ?_)
        · refine j_aload_n (i := 0) C dX9_arrive_58 rfl 1 rfl ?_
          refine j_iconst (x := 1) C dX9_arrive_59 (by decide) ?_
          refine c_V (As := [.int 1]) (rest := []) (st1 := [.int (Q_X9_arrive_1 u g a b)]) (ω1 := (WD ε ad v f (Q_X9_arrive_2 u g a b) (Q_X9_arrive_3 u g a b))) C (c_X9_take ε ad v f ((S_X9_hasSomething u g 1).2) g 1  (by first | assumption | omega | decide) (hM.tq (by decide) (hs_ok c_4).1)) mv_X9_take lm_X9_135 dX9_arrive_60 22 wl_22 rfl rfl rfl (by decide) (Nat.le_of_ble_eq_true rfl) rfl ?_
          refine j_if_ne (tgt := 69) C dX9_arrive_63 (by decide) (fun c_5 => ?_) (fun c_5 => ?_)
          · refine j_aload_n (i := 0) C dX9_arrive_69 rfl 1 rfl ?_
            refine g_22_readAll (x := ((Q_X9_arrive_2 u g a b) 5)) C dX9_arrive_70 lf_X9_98 rfl ?_
            refine j_if_gt (tgt := 87) C dX9_arrive_73 (by decide) (fun c_6 => ?_) (fun c_6 => ?_)
            · refine j_aload_n (i := 0) C dX9_arrive_87 rfl 1 rfl ?_
              refine j_iconst (x := 1) C dX9_arrive_88 (by decide) ?_
              refine j_iconst (x := 0) C dX9_arrive_89 (by decide) ?_
              refine c_V (As := [.int 1, .int 0]) (rest := []) (st1 := []) (ω1 := (WD ε ad v f (Q_X9_arrive_2 u g a b) (Q_X9_arrive_4 u g a b))) C (c_X9_give ε ad v f (Q_X9_arrive_2 u g a b) (Q_X9_arrive_3 u g a b) 0 1  (by first | assumption | omega | decide) (by unfold Q_X9_arrive_3; exact (st_ok hM (by decide) c_4 (by have h9 := c_5; unfold Q_X9_arrive_1 at h9; exact h9)).2.1)) mv_X9_give lm_X9_142 dX9_arrive_90 22 wl_22 rfl rfl rfl (by decide) (Nat.le_of_ble_eq_true rfl) rfl ?_
              refine j_aload_n (i := 0) C dX9_arrive_93 rfl 1 rfl ?_
              refine j_dup C dX9_arrive_94 rfl ?_
              refine g_22_dropped (x := ((Q_X9_arrive_2 u g a b) 11)) C dX9_arrive_95 lf_X9_170 rfl ?_
              refine j_iconst (x := 1) C dX9_arrive_98 (by decide) ?_
              refine j_iadd C dX9_arrive_99 ?_
              refine p_22_dropped C dX9_arrive_100 lf_X9_170 ?_
              refine j_iconst (x := 0) C dX9_arrive_103 (by decide) ?_
              have hs : S_X9_arrive u g a b = (0, (upd (Q_X9_arrive_2 u g a b) 11 (((Q_X9_arrive_2 u g a b) 11) + 1)), (Q_X9_arrive_4 u g a b)) := by unfold S_X9_arrive; rw [if_neg c_1, if_neg c_2, if_neg c_3, if_neg c_4, if_neg c_5, if_pos c_6]
              exact j_iret C hQ rfl dX9_arrive_104 (dt_ivfM hs)
            · refine j_aload_n (i := 0) C dX9_arrive_76 rfl 1 rfl ?_
              refine g_22_writeAll (x := ((Q_X9_arrive_2 u g a b) 7)) C dX9_arrive_77 lf_X9_104 rfl ?_
              refine j_bipush (x := 12) C dX9_arrive_80 (by decide) ?_
              refine j_iload_n (i := 1) C dX9_arrive_82 rfl 2 rfl ?_
              refine j_iadd C dX9_arrive_83 ?_
              refine j_icmp_ge (tgt := 105) C dX9_arrive_84 (by decide) (fun c_7 => ?_) (fun c_7 => ?_)
              · refine j_iconst (x := 0) C dX9_arrive_105 (by decide) ?_
                refine j_istore (i := 5) (lv' := [(5, .int 0), (4, .int ((S_X9_hasSomething u g 1).1)), (0, .ref (ad 22)), (1, .int a), (2, .long b)]) C dX9_arrive_106 (by decide) rfl ?_
                have hx1 : JW κ 0 0 (WD ε ad v f (Q_X9_arrive_2 u g a b) (L_X9_arrive u g a b (12 + a).toNatClampNeg)) 149 [(5, .int (nI (12 + a).toNatClampNeg)), (4, .int ((S_X9_hasSomething u g 1).1)), (0, .ref (ad 22)), (1, .int a), (2, .long b)] [] := by
                  refine j_aload_n (i := 0) C dX9_arrive_149 rfl 2 rfl ?_
                  refine j_iconst (x := 1) C dX9_arrive_150 (by decide) ?_
                  refine j_bipush (x := 12) C dX9_arrive_151 (by decide) ?_
                  refine j_iload_n (i := 1) C dX9_arrive_153 rfl 3 rfl ?_
                  refine j_iadd C dX9_arrive_154 ?_
                  refine c_V (As := [.int 1, .int (12 + a)]) (rest := []) (st1 := []) (ω1 := (WD ε ad v f (Q_X9_arrive_2 u g a b) (Q_X9_arrive_5 u g a b))) C (c_X9_give ε ad v f (Q_X9_arrive_2 u g a b) (L_X9_arrive u g a b (12 + a).toNatClampNeg) (12 + a) 1  (by first | assumption | omega | decide) (GV.of (g := Q_X9_arrive_3 u g a b) (by unfold Q_X9_arrive_3; exact (st_ok hM (by decide) c_4 (by have h9 := c_5; unfold Q_X9_arrive_1 at h9; exact h9)).2.1) (la_same _ _ _ _ _ 25 (by decide)) (la_same _ _ _ _ _ 27 (by decide)) (la_same _ _ _ _ _ 28 (by decide)) (la_same _ _ _ _ _ 30 (by decide)))) mv_X9_give lm_X9_142 dX9_arrive_155 22 wl_22 rfl rfl rfl (by decide) (Nat.le_of_ble_eq_true rfl) rfl ?_
                  refine j_aload_n (i := 0) C dX9_arrive_158 rfl 2 rfl ?_
                  refine j_dup C dX9_arrive_159 rfl ?_
                  refine g_22_came (x := ((Q_X9_arrive_2 u g a b) 10)) C dX9_arrive_160 lf_X9_177 rfl ?_
                  refine j_iconst (x := 1) C dX9_arrive_163 (by decide) ?_
                  refine j_iadd C dX9_arrive_164 ?_
                  refine p_22_came C dX9_arrive_165 lf_X9_177 ?_
                  refine j_iconst (x := 1) C dX9_arrive_168 (by decide) ?_
                  have hs : S_X9_arrive u g a b = (1, (upd (Q_X9_arrive_2 u g a b) 10 (((Q_X9_arrive_2 u g a b) 10) + 1)), (Q_X9_arrive_5 u g a b)) := by unfold S_X9_arrive; rw [if_neg c_1, if_neg c_2, if_neg c_3, if_neg c_4, if_neg c_5, if_neg c_6, if_pos c_7]
                  exact j_iret C hQ rfl dX9_arrive_169 (dt_ivfM hs)
                have lp1 : ∀ d1 i1 : Nat, i1 + d1 = (12 + a).toNatClampNeg → JW κ 0 0 (WD ε ad v f (Q_X9_arrive_2 u g a b) (L_X9_arrive u g a b i1)) 108 [(5, .int (nI i1)), (4, .int ((S_X9_hasSomething u g 1).1)), (0, .ref (ad 22)), (1, .int a), (2, .long b)] [] := by
                  intro d1
                  induction d1 with
                  | zero =>
                    intro i1 hi
                    have e9 : i1 = (12 + a).toNatClampNeg := by omega
                    rw [e9]
                    have lf1 : (12 + a) ≤ (nI (12 + a).toNatClampNeg) := lp_ge _
                    refine j_iload (i := 5) C dX9_arrive_108 0 rfl ?_
                    refine j_bipush (x := 12) C dX9_arrive_110 (by decide) ?_
                    refine j_iload_n (i := 1) C dX9_arrive_112 rfl 3 rfl ?_
                    refine j_iadd C dX9_arrive_113 ?_
                    refine j_icmp_ge (tgt := 149) C dX9_arrive_114 (by decide) (fun _ => ?_) (fun c9 => absurd lf1 c9)
                    exact hx1
                  | succ d1 ih1 =>
                    intro i1 hi
                    have hlt1 : i1 < (12 + a).toNatClampNeg := by omega
                    have lf1 : ¬ (12 + a) ≤ (nI i1) := lp_lt hlt1
                    refine j_iload (i := 5) C dX9_arrive_108 0 rfl ?_
                    refine j_bipush (x := 12) C dX9_arrive_110 (by decide) ?_
                    refine j_iload_n (i := 1) C dX9_arrive_112 rfl 3 rfl ?_
                    refine j_iadd C dX9_arrive_113 ?_
                    refine j_icmp_ge (tgt := 149) C dX9_arrive_114 (by decide) (fun c9 => absurd c9 lf1) (fun _ => ?_)
                    refine j_aload_n (i := 0) C dX9_arrive_117 rfl 2 rfl ?_
                    refine j_iload (i := 5) C dX9_arrive_118 0 rfl ?_
                    refine j_iload (i := 5) C dX9_arrive_120 0 rfl ?_
                    refine j_bipush (x := 12) C dX9_arrive_122 (by decide) ?_
                    refine j_icmp_ge (tgt := 131) C dX9_arrive_124 (by decide) (fun c_8 => ?_) (fun c_8 => ?_)
                    · refine j_lload_n (i := 2) C dX9_arrive_131 rfl 4 rfl ?_
                      refine j_iload (i := 5) C dX9_arrive_132 0 rfl ?_
                      refine j_bipush (x := 12) C dX9_arrive_134 (by decide) ?_
                      refine j_isub C dX9_arrive_136 ?_
                      refine c_S (As := [.long b, .int ((nI i1) - 12)]) (rest := [.int (nI i1), .ref (ad 22)]) (st1 := [.int (S_X9_frameByte (Q_X9_arrive_2 u g a b) (L_X9_arrive u g a b i1) b ((nI i1) - 12)), .int (nI i1), .ref (ad 22)]) C (c_X9_frameByte ε ad v f (Q_X9_arrive_2 u g a b) (L_X9_arrive u g a b i1) b ((nI i1) - 12)  ) mt_X9_frameByte lm_X9_173 dX9_arrive_137 rfl rfl (by decide) (Nat.le_of_ble_eq_true rfl) rfl ?_
                      refine c_V (As := [.int (nI i1), .int (S_X9_frameByte (Q_X9_arrive_2 u g a b) (L_X9_arrive u g a b i1) b ((nI i1) - 12))]) (rest := []) (st1 := []) C (c_X9_writeByte ε ad v f (Q_X9_arrive_2 u g a b) (L_X9_arrive u g a b i1) (nI i1) (S_X9_frameByte (Q_X9_arrive_2 u g a b) (L_X9_arrive u g a b i1) b ((nI i1) - 12))  (by rw [la_same _ _ _ _ _ 35 (by decide), la_same _ _ _ _ _ 34 (by decide)]; have h8 := c_7; unfold Q_X9_arrive_2 at h8; unfold Q_X9_arrive_3; exact (st_ok hM (by decide) c_4 (by have h9 := c_5; unfold Q_X9_arrive_1 at h9; exact h9)).1.dp.at h8 hlt1)) mv_X9_writeByte lm_X9_152 dX9_arrive_140 22 wl_22 rfl rfl rfl (by decide) (Nat.le_of_ble_eq_true rfl) rfl ?_
                      refine j_iinc (y := (nI (i1 + 1))) (lv' := [(5, .int (nI (i1 + 1))), (4, .int ((S_X9_hasSomething u g 1).1)), (0, .ref (ad 22)), (1, .int a), (2, .long b)]) C dX9_arrive_143 0 rfl (nI_1 _) (by decide) rfl ?_
                      refine j_goto (tgt := 108) C dX9_arrive_146 (by decide) ?_
                      refine j_lv (lv' := [(5, .int (nI (i1 + 1))), (4, .int ((S_X9_hasSomething u g 1).1)), (0, .ref (ad 22)), (1, .int a), (2, .long b)]) [0, 1, 2, 3, 4] rfl ?_
                      have e8 := ih1 (i1 + 1) (by omega)
                      rw [show L_X9_arrive u g a b (i1 + 1) = (S_X9_writeByte (Q_X9_arrive_2 u g a b) (L_X9_arrive u g a b i1) (nI i1) (S_X9_frameByte (Q_X9_arrive_2 u g a b) (L_X9_arrive u g a b i1) b ((nI i1) - 12))) from by rw [L_X9_arrive, if_pos c_8]] at e8
                      try dsimp only at e8
                      exact e8
                    · refine j_iconst (x := 0) C dX9_arrive_127 (by decide) ?_
                      refine j_goto (tgt := 140) C dX9_arrive_128 (by decide) ?_
                      refine c_V (As := [.int (nI i1), .int 0]) (rest := []) (st1 := []) C (c_X9_writeByte ε ad v f (Q_X9_arrive_2 u g a b) (L_X9_arrive u g a b i1) (nI i1) 0  (by rw [la_same _ _ _ _ _ 35 (by decide), la_same _ _ _ _ _ 34 (by decide)]; have h8 := c_7; unfold Q_X9_arrive_2 at h8; unfold Q_X9_arrive_3; exact (st_ok hM (by decide) c_4 (by have h9 := c_5; unfold Q_X9_arrive_1 at h9; exact h9)).1.dp.at h8 hlt1)) mv_X9_writeByte lm_X9_152 dX9_arrive_140 22 wl_22 rfl rfl rfl (by decide) (Nat.le_of_ble_eq_true rfl) rfl ?_
                      refine j_iinc (y := (nI (i1 + 1))) (lv' := [(5, .int (nI (i1 + 1))), (4, .int ((S_X9_hasSomething u g 1).1)), (0, .ref (ad 22)), (1, .int a), (2, .long b)]) C dX9_arrive_143 0 rfl (nI_1 _) (by decide) rfl ?_
                      refine j_goto (tgt := 108) C dX9_arrive_146 (by decide) ?_
                      refine j_lv (lv' := [(5, .int (nI (i1 + 1))), (4, .int ((S_X9_hasSomething u g 1).1)), (0, .ref (ad 22)), (1, .int a), (2, .long b)]) [0, 1, 2, 3, 4] rfl ?_
                      have e8 := ih1 (i1 + 1) (by omega)
                      rw [show L_X9_arrive u g a b (i1 + 1) = (S_X9_writeByte (Q_X9_arrive_2 u g a b) (L_X9_arrive u g a b i1) (nI i1) 0) from by rw [L_X9_arrive, if_neg c_8]] at e8
                      try dsimp only at e8
                      exact e8
                have e7 := lp1 ((12 + a).toNatClampNeg) 0 (by omega)
                rw [L_X9_arrive] at e7
                try dsimp only at e7
                exact e7
              · refine j_aload_n (i := 0) C dX9_arrive_87 rfl 1 rfl ?_
                refine j_iconst (x := 1) C dX9_arrive_88 (by decide) ?_
                refine j_iconst (x := 0) C dX9_arrive_89 (by decide) ?_
                refine c_V (As := [.int 1, .int 0]) (rest := []) (st1 := []) (ω1 := (WD ε ad v f (Q_X9_arrive_2 u g a b) (Q_X9_arrive_4 u g a b))) C (c_X9_give ε ad v f (Q_X9_arrive_2 u g a b) (Q_X9_arrive_3 u g a b) 0 1  (by first | assumption | omega | decide) (by unfold Q_X9_arrive_3; exact (st_ok hM (by decide) c_4 (by have h9 := c_5; unfold Q_X9_arrive_1 at h9; exact h9)).2.1)) mv_X9_give lm_X9_142 dX9_arrive_90 22 wl_22 rfl rfl rfl (by decide) (Nat.le_of_ble_eq_true rfl) rfl ?_
                refine j_aload_n (i := 0) C dX9_arrive_93 rfl 1 rfl ?_
                refine j_dup C dX9_arrive_94 rfl ?_
                refine g_22_dropped (x := ((Q_X9_arrive_2 u g a b) 11)) C dX9_arrive_95 lf_X9_170 rfl ?_
                refine j_iconst (x := 1) C dX9_arrive_98 (by decide) ?_
                refine j_iadd C dX9_arrive_99 ?_
                refine p_22_dropped C dX9_arrive_100 lf_X9_170 ?_
                refine j_iconst (x := 0) C dX9_arrive_103 (by decide) ?_
                have hs : S_X9_arrive u g a b = (0, (upd (Q_X9_arrive_2 u g a b) 11 (((Q_X9_arrive_2 u g a b) 11) + 1)), (Q_X9_arrive_4 u g a b)) := by unfold S_X9_arrive; rw [if_neg c_1, if_neg c_2, if_neg c_3, if_neg c_4, if_neg c_5, if_neg c_6, if_neg c_7]
                exact j_iret C hQ rfl dX9_arrive_104 (dt_ivfM hs)
          · refine j_bipush (x := (-5)) C dX9_arrive_66 (by decide) ?_
            have hs : S_X9_arrive u g a b = ((-5), (Q_X9_arrive_2 u g a b), (Q_X9_arrive_3 u g a b)) := by unfold S_X9_arrive; rw [if_neg c_1, if_neg c_2, if_neg c_3, if_neg c_4, if_pos c_5]
            exact j_iret C hQ rfl dX9_arrive_68 (dt_ivfM hs)
        · refine j_aload_n (i := 0) C dX9_arrive_46 rfl 1 rfl ?_
          refine j_dup C dX9_arrive_47 rfl ?_
          refine g_22_dropped (x := (((S_X9_hasSomething u g 1).2) 11)) C dX9_arrive_48 lf_X9_170 rfl ?_
          refine j_iconst (x := 1) C dX9_arrive_51 (by decide) ?_
          refine j_iadd C dX9_arrive_52 ?_
          refine p_22_dropped C dX9_arrive_53 lf_X9_170 ?_
          refine j_iconst (x := 0) C dX9_arrive_56 (by decide) ?_
          have hs : S_X9_arrive u g a b = (0, (upd ((S_X9_hasSomething u g 1).2) 11 ((((S_X9_hasSomething u g 1).2) 11) + 1)), g) := by unfold S_X9_arrive; rw [if_neg c_1, if_neg c_2, if_neg c_3, if_pos c_4]
          exact j_iret C hQ rfl dX9_arrive_57 (dt_ivfM hs)
      · refine j_bipush (x := (-5)) C dX9_arrive_38 (by decide) ?_
        have hs : S_X9_arrive u g a b = ((-5), ((S_X9_hasSomething u g 1).2), g) := by unfold S_X9_arrive; rw [if_neg c_1, if_neg c_2, if_pos c_3]
        exact j_iret C hQ rfl dX9_arrive_40 (dt_ivfM hs)
    · refine j_bipush (x := (-4)) C dX9_arrive_20 (by decide) ?_
      have hs : S_X9_arrive u g a b = ((-4), u, g) := by unfold S_X9_arrive; rw [if_neg c_1, if_pos c_2]
      exact j_iret C hQ rfl dX9_arrive_22 (dt_ivfM hs)
  · refine j_bipush (x := (-2)) C dX9_arrive_10 (by decide) ?_
    have hs : S_X9_arrive u g a b = ((-2), u, g) := by unfold S_X9_arrive; rw [if_pos c_1]
    exact j_iret C hQ rfl dX9_arrive_12 (dt_ivfM hs)

