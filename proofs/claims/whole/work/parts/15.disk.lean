theorem np_same (v : Nat → Int32) (f : Nat → Nat → Int32) (k : Nat) (h1 : k ≠ 30) (h2 : k ≠ 32) : (S_X0_nextPlace v f).2 k = v k := by
  have h : ∀ (d : Nat) (w : Nat → Int32), (L_X0_nextPlace v f d w).2 k = w k := by
    intro d
    induction d with
    | zero => intro w; rfl
    | succ d ih =>
      intro w
      rw [L_X0_nextPlace]
      repeat' split
      all_goals first | rfl | (rw [ih]; simp [upd, h1, h2]) | simp [upd, h1, h2]
  exact h 17 v
theorem nn_pos (v : Nat → Int32) (f : Nat → Nat → Int32) (N : Nat) (hp : 0 ≤ (v 30).toInt) : 0 ≤ ((S_X0_nextNumber v f N).2 30).toInt := ln_pos v f N hp N
theorem sk_pos (v : Nat → Int32) (f : Nat → Nat → Int32) (N : Nat) (hp : 0 ≤ (v 30).toInt) : 0 ≤ ((S_X0_skip v f N) 30).toInt := ls_pos v f N hp N
theorem nn_same (v : Nat → Int32) (f : Nat → Nat → Int32) (N k : Nat) (h1 : k ≠ 30) (h2 : k ≠ 32) : (S_X0_nextNumber v f N).2 k = v k := by
  have h : ∀ i : Nat, (L_X0_nextNumber v f N i).2 k = v k := by
    intro i
    induction i with
    | zero => rfl
    | succ i ih => exact (np_same _ _ k h1 h2).trans ih
  exact h N
theorem sk_same (v : Nat → Int32) (f : Nat → Nat → Int32) (N k : Nat) (h1 : k ≠ 30) (h2 : k ≠ 32) : (S_X0_skip v f N) k = v k := by
  have h : ∀ i : Nat, (L_X0_skip v f N i) k = v k := by
    intro i
    induction i with
    | zero => rfl
    | succ i ih => exact (np_same _ _ k h1 h2).trans ih
  exact h N
theorem clamp_lt (x : Int32) : x.toNatClampNeg < 2 ^ 31 := by
  have := x.toInt_lt
  show x.toInt.toNat < _
  omega
theorem lp_ge (b : Int32) : b ≤ nI b.toNatClampNeg := by
  rw [Int32.le_iff_toInt_le, nI_toInt (clamp_lt b)]
  show b.toInt ≤ (b.toInt.toNat : Int)
  omega
theorem lp_lt {b : Int32} {i : Nat} (h : i < b.toNatClampNeg) : ¬ b ≤ nI i := by
  have h2 := clamp_lt b
  rw [Int32.le_iff_toInt_le, nI_toInt (by omega)]
  have h3 : i < b.toInt.toNat := h
  omega
def S_X2_at (v : Nat → Int32) (f : Nat → Nat → Int32) (a : Int32) : Int32 :=
  if a < 0 then 0
  else if 2048 ≤ a then 0
    else (((f 11) (a).toNatClampNeg) &&& 255)
set_option maxHeartbeats 1000000 in
set_option maxRecDepth 100000 in
theorem c_X2_at (ε : ET) (ad : Nat → Nat) (v : Nat → Int32) (f : Nat → Nat → Int32) (u : Nat → Int32) (g : Nat → Nat → Int32) (a : Int32)  : CT ε yX2_at cX2_at 2 (some .int) 0 0 0 0 [.ref (ad 10), .int a] (WD ε ad v f u g) (DT (some (.int (S_X2_at v f a))) (WD ε ad v f u g)) := by
  refine CT.of (own := RX2) (by decide) rfl (Nat.le_of_ble_eq_true rfl) (fun κ C hQ => ?_)
  refine j_iload_n (i := 1) C dX2_at_0 rfl 1 rfl ?_
  refine j_if_lt (tgt := 26) C dX2_at_1 (by decide) (fun c_1 => ?_) (fun c_1 => ?_)
  · refine j_iconst (x := 0) C dX2_at_26 (by decide) ?_
    have hs : S_X2_at v f a = 0 := by unfold S_X2_at; rw [if_pos c_1]
    exact j_iret C hQ rfl dX2_at_27 (dt_i hs)
  · refine j_iload_n (i := 1) C dX2_at_4 rfl 1 rfl ?_
    refine j_aload_n (i := 0) C dX2_at_5 rfl 0 rfl ?_
    refine g_10_bytes C dX2_at_6 lf_X2_9 ?_
    refine an_11 C dX2_at_9 ?_
    refine j_icmp_ge (tgt := 26) C dX2_at_10 (by decide) (fun c_2 => ?_) (fun c_2 => ?_)
    · refine j_iconst (x := 0) C dX2_at_26 (by decide) ?_
      have hs : S_X2_at v f a = 0 := by unfold S_X2_at; rw [if_neg c_1, if_pos c_2]
      exact j_iret C hQ rfl dX2_at_27 (dt_i hs)
    · refine j_aload_n (i := 0) C dX2_at_13 rfl 0 rfl ?_
      refine g_10_bytes C dX2_at_14 lf_X2_9 ?_
      refine j_iload_n (i := 1) C dX2_at_17 rfl 1 rfl ?_
      refine al_11 (F := (f 11)) C dX2_at_18 (vp_i0 c_1 c_2 rfl) rfl ?_
      refine j_sipush (x := 255) C dX2_at_19 (by decide) ?_
      refine j_iand C dX2_at_22 ?_
      refine j_goto (tgt := 27) C dX2_at_23 (by decide) ?_
      have hs : S_X2_at v f a = (((f 11) (a).toNatClampNeg) &&& 255) := by unfold S_X2_at; rw [if_neg c_1, if_neg c_2]
      exact j_iret C hQ rfl dX2_at_27 (dt_i hs)

def S_X2_set (v : Nat → Int32) (f : Nat → Nat → Int32) (a : Int32) (b : Int32) : (Nat → Nat → Int32) :=
  if a < 0 then f
  else if 2048 ≤ a then f
    else (va_up f 11 (upd (f 11) (a).toNatClampNeg (vp_nar .byte ((b : Int32).toInt8.toInt32))))
set_option maxHeartbeats 1000000 in
set_option maxRecDepth 100000 in
theorem c_X2_set (ε : ET) (ad : Nat → Nat) (v : Nat → Int32) (f : Nat → Nat → Int32) (u : Nat → Int32) (g : Nat → Nat → Int32) (a : Int32) (b : Int32)  : CT ε yX2_set cX2_set 3 none 0 0 0 0 [.ref (ad 10), .int a, .int b] (WD ε ad v f u g) (DT none (WD ε ad v (S_X2_set v f a b) u g)) := by
  refine CT.of (own := RX2) (by decide) rfl (Nat.le_of_ble_eq_true rfl) (fun κ C hQ => ?_)
  refine j_iload_n (i := 1) C dX2_set_0 rfl 1 rfl ?_
  refine j_if_lt (tgt := 21) C dX2_set_1 (by decide) (fun c_1 => ?_) (fun c_1 => ?_)
  · have hs : S_X2_set v f a b = f := by unfold S_X2_set; rw [if_pos c_1]
    exact j_vret C hQ rfl dX2_set_21 (dt_nf hs)
  · refine j_iload_n (i := 1) C dX2_set_4 rfl 1 rfl ?_
    refine j_aload_n (i := 0) C dX2_set_5 rfl 0 rfl ?_
    refine g_10_bytes C dX2_set_6 lf_X2_9 ?_
    refine an_11 C dX2_set_9 ?_
    refine j_icmp_ge (tgt := 21) C dX2_set_10 (by decide) (fun c_2 => ?_) (fun c_2 => ?_)
    · have hs : S_X2_set v f a b = f := by unfold S_X2_set; rw [if_neg c_1, if_pos c_2]
      exact j_vret C hQ rfl dX2_set_21 (dt_nf hs)
    · refine j_aload_n (i := 0) C dX2_set_13 rfl 0 rfl ?_
      refine g_10_bytes C dX2_set_14 lf_X2_9 ?_
      refine j_iload_n (i := 1) C dX2_set_17 rfl 1 rfl ?_
      refine j_iload_n (i := 2) C dX2_set_18 rfl 2 rfl ?_
      refine j_i2b C dX2_set_19 ?_
      refine as_11 (F2 := (f 11)) (F := (upd (f 11) (a).toNatClampNeg (vp_nar .byte ((b : Int32).toInt8.toInt32)))) C dX2_set_20 (vp_i0 c_1 c_2 rfl) rfl rfl ?_
      have hs : S_X2_set v f a b = (va_up f 11 (upd (f 11) (a).toNatClampNeg (vp_nar .byte ((b : Int32).toInt8.toInt32)))) := by unfold S_X2_set; rw [if_neg c_1, if_neg c_2]
      exact j_vret C hQ rfl dX2_set_21 (dt_nf hs)

def S_X2_areThere (v : Nat → Int32) (f : Nat → Nat → Int32) (a : Int64) (b : Int32) : Int32 :=
  if b = 0 then 1
  else if (b - b / 64 * 64) = 0 then if (lg_cmp a 0) < 0 then 0
      else if 0 < (lg_cmp a (((32 - (b / 64)) : Int32).toInt64)) then 0
        else 1
    else 0
set_option maxHeartbeats 1000000 in
set_option maxRecDepth 100000 in
theorem c_X2_areThere (ε : ET) (ad : Nat → Nat) (v : Nat → Int32) (f : Nat → Nat → Int32) (u : Nat → Int32) (g : Nat → Nat → Int32) (a : Int64) (b : Int32)  : CT ε yX2_areThere cX2_areThere 4 (some .boolean) 0 0 0 0 [.ref (ad 10), .long a, .int b] (WD ε ad v f u g) (DT (some (.int (S_X2_areThere v f a b))) (WD ε ad v f u g)) := by
  refine CT.of (own := RX2) (by decide) rfl (Nat.le_of_ble_eq_true rfl) (fun κ C hQ => ?_)
  refine j_iload_n (i := 3) C dX2_areThere_0 rfl 2 rfl ?_
  refine j_if_ne (tgt := 6) C dX2_areThere_1 (by decide) (fun c_1 => ?_) (fun c_1 => ?_)
  · refine j_iload_n (i := 3) C dX2_areThere_6 rfl 2 rfl ?_
    refine j_bipush (x := 64) C dX2_areThere_7 (by decide) ?_
    refine j_irem C dX2_areThere_9 (by decide) ?_
    refine j_if_ne (tgt := 36) C dX2_areThere_10 (by decide) (fun c_2 => ?_) (fun c_2 => ?_)
    · refine j_iconst (x := 0) C dX2_areThere_36 (by decide) ?_
      have hs : S_X2_areThere v f a b = 0 := by unfold S_X2_areThere; rw [if_neg c_1, if_neg c_2]
      exact j_zret C hQ rfl rfl dX2_areThere_37 (dt_i hs)
    · refine j_lload_n (i := 1) C dX2_areThere_13 rfl 1 rfl ?_
      refine j_lconst (x := 0) C dX2_areThere_14 (by decide) ?_
      refine j_lcmp C dX2_areThere_15 ?_
      refine j_if_lt (tgt := 36) C dX2_areThere_16 (by decide) (fun c_3 => ?_) (fun c_3 => ?_)
      · refine j_iconst (x := 0) C dX2_areThere_36 (by decide) ?_
        have hs : S_X2_areThere v f a b = 0 := by unfold S_X2_areThere; rw [if_neg c_1, if_pos c_2, if_pos c_3]
        exact j_zret C hQ rfl rfl dX2_areThere_37 (dt_i hs)
      · refine j_lload_n (i := 1) C dX2_areThere_19 rfl 1 rfl ?_
        refine j_bipush (x := 32) C dX2_areThere_20 (by decide) ?_
        refine j_iload_n (i := 3) C dX2_areThere_22 rfl 2 rfl ?_
        refine j_bipush (x := 64) C dX2_areThere_23 (by decide) ?_
        refine j_idiv C dX2_areThere_25 (by decide) ?_
        refine j_isub C dX2_areThere_26 ?_
        refine j_i2l C dX2_areThere_27 ?_
        refine j_lcmp C dX2_areThere_28 ?_
        refine j_if_gt (tgt := 36) C dX2_areThere_29 (by decide) (fun c_4 => ?_) (fun c_4 => ?_)
        · refine j_iconst (x := 0) C dX2_areThere_36 (by decide) ?_
          have hs : S_X2_areThere v f a b = 0 := by unfold S_X2_areThere; rw [if_neg c_1, if_pos c_2, if_neg c_3, if_pos c_4]
          exact j_zret C hQ rfl rfl dX2_areThere_37 (dt_i hs)
        · refine j_iconst (x := 1) C dX2_areThere_32 (by decide) ?_
          refine j_goto (tgt := 37) C dX2_areThere_33 (by decide) ?_
          have hs : S_X2_areThere v f a b = 1 := by unfold S_X2_areThere; rw [if_neg c_1, if_pos c_2, if_neg c_3, if_neg c_4]
          exact j_zret C hQ rfl rfl dX2_areThere_37 (dt_i hs)
  · refine j_iconst (x := 1) C dX2_areThere_4 (by decide) ?_
    have hs : S_X2_areThere v f a b = 1 := by unfold S_X2_areThere; rw [if_pos c_1]
    exact j_zret C hQ rfl rfl dX2_areThere_5 (dt_i hs)

def S_X2_resultOf (v : Nat → Int32) (f : Nat → Nat → Int32) (a : Int32) (b : Int64) : Int32 :=
  if a = 0 then if (S_X2_areThere v f b ((v 36) - 1)) = 0 then 1
    else 0
  else if a = 1 then if (S_X2_areThere v f b ((v 35) - 16)) = 0 then 1
      else 0
    else if a = 2 then 2
      else if a = 3 then 2
        else if a = 4 then 0
          else if a = 5 then 2
            else if a = 6 then 2
              else if a = 7 then 2
                else if a = 8 then 0
                  else 2
set_option maxHeartbeats 1000000 in
set_option maxRecDepth 100000 in
theorem c_X2_resultOf (ε : ET) (ad : Nat → Nat) (v : Nat → Int32) (f : Nat → Nat → Int32) (u : Nat → Int32) (g : Nat → Nat → Int32) (a : Int32) (b : Int64)  : CT ε yX2_resultOf cX2_resultOf 5 (some .int) 1 23 0 0 [.ref (ad 10), .int a, .long b, .ref (ad 7)] (WD ε ad v f u g) (DT (some (.int (S_X2_resultOf v f a b))) (WD ε ad v f u g)) := by
  refine CT.of (own := RX2) (by decide) rfl (Nat.le_of_ble_eq_true rfl) (fun κ C hQ => ?_)
  refine j_iload_n (i := 1) C dX2_resultOf_0 rfl 1 rfl ?_
  by_cases c_1 : a = 0
  · refine j_tswIn (kv := 0) (off := 51) (tgt := 52) C dX2_resultOf_1 c_1 (by decide) (by decide) (by decide) (by decide) ?_
    refine j_aload_n (i := 0) C dX2_resultOf_52 rfl 0 rfl ?_
    refine j_lload_n (i := 2) C dX2_resultOf_53 rfl 2 rfl ?_
    refine j_aload (i := 4) C dX2_resultOf_54 3 rfl ?_
    refine g_7_writable (x := (v 36)) C dX2_resultOf_56 lf_X2_21 rfl ?_
    refine j_iconst (x := 1) C dX2_resultOf_59 (by decide) ?_
    refine j_isub C dX2_resultOf_60 ?_
    refine c_V (As := [.long b, .int ((v 36) - 1)]) (rest := []) (st1 := [.int (S_X2_areThere v f b ((v 36) - 1))]) C (c_X2_areThere ε ad v f u g b ((v 36) - 1)  ) mv_X2_areThere lm_X2_46 dX2_resultOf_61 10 wl_10 rfl rfl rfl (by decide) (Nat.le_of_ble_eq_true rfl) rfl ?_
    refine j_if_eq (tgt := 71) C dX2_resultOf_64 (by decide) (fun c_2 => ?_) (fun c_2 => ?_)
    · refine j_iconst (x := 1) C dX2_resultOf_71 (by decide) ?_
      have hs : S_X2_resultOf v f a b = 1 := by unfold S_X2_resultOf; rw [if_pos c_1, if_pos c_2]
      exact j_iret C hQ rfl dX2_resultOf_72 (dt_i hs)
    · refine j_iconst (x := 0) C dX2_resultOf_67 (by decide) ?_
      refine j_goto (tgt := 72) C dX2_resultOf_68 (by decide) ?_
      have hs : S_X2_resultOf v f a b = 0 := by unfold S_X2_resultOf; rw [if_pos c_1, if_neg c_2]
      exact j_iret C hQ rfl dX2_resultOf_72 (dt_i hs)
  · by_cases c_3 : a = 1
    · refine j_tswIn (kv := 1) (off := 72) (tgt := 73) C dX2_resultOf_1 c_3 (by decide) (by decide) (by decide) (by decide) ?_
      refine j_aload_n (i := 0) C dX2_resultOf_73 rfl 0 rfl ?_
      refine j_lload_n (i := 2) C dX2_resultOf_74 rfl 2 rfl ?_
      refine j_aload (i := 4) C dX2_resultOf_75 3 rfl ?_
      refine g_7_readable (x := (v 35)) C dX2_resultOf_77 lf_X2_15 rfl ?_
      refine j_bipush (x := 16) C dX2_resultOf_80 (by decide) ?_
      refine j_isub C dX2_resultOf_82 ?_
      refine c_V (As := [.long b, .int ((v 35) - 16)]) (rest := []) (st1 := [.int (S_X2_areThere v f b ((v 35) - 16))]) C (c_X2_areThere ε ad v f u g b ((v 35) - 16)  ) mv_X2_areThere lm_X2_46 dX2_resultOf_83 10 wl_10 rfl rfl rfl (by decide) (Nat.le_of_ble_eq_true rfl) rfl ?_
      refine j_if_eq (tgt := 93) C dX2_resultOf_86 (by decide) (fun c_4 => ?_) (fun c_4 => ?_)
      · refine j_iconst (x := 1) C dX2_resultOf_93 (by decide) ?_
        have hs : S_X2_resultOf v f a b = 1 := by unfold S_X2_resultOf; rw [if_neg c_1, if_pos c_3, if_pos c_4]
        exact j_iret C hQ rfl dX2_resultOf_94 (dt_i hs)
      · refine j_iconst (x := 0) C dX2_resultOf_89 (by decide) ?_
        refine j_goto (tgt := 94) C dX2_resultOf_90 (by decide) ?_
        have hs : S_X2_resultOf v f a b = 0 := by unfold S_X2_resultOf; rw [if_neg c_1, if_pos c_3, if_neg c_4]
        exact j_iret C hQ rfl dX2_resultOf_94 (dt_i hs)
    · by_cases c_5 : a = 2
      · refine j_tswIn (kv := 2) (off := 98) (tgt := 99) C dX2_resultOf_1 c_5 (by decide) (by decide) (by decide) (by decide) ?_
        refine j_iconst (x := 2) C dX2_resultOf_99 (by decide) ?_
        have hs : S_X2_resultOf v f a b = 2 := by unfold S_X2_resultOf; rw [if_neg c_1, if_neg c_3, if_pos c_5]
        exact j_iret C hQ rfl dX2_resultOf_100 (dt_i hs)
      · by_cases c_6 : a = 3
        · refine j_tswIn (kv := 3) (off := 98) (tgt := 99) C dX2_resultOf_1 c_6 (by decide) (by decide) (by decide) (by decide) ?_
          refine j_iconst (x := 2) C dX2_resultOf_99 (by decide) ?_
          have hs : S_X2_resultOf v f a b = 2 := by unfold S_X2_resultOf; rw [if_neg c_1, if_neg c_3, if_neg c_5, if_pos c_6]
          exact j_iret C hQ rfl dX2_resultOf_100 (dt_i hs)
        · by_cases c_7 : a = 4
          · refine j_tswIn (kv := 4) (off := 94) (tgt := 95) C dX2_resultOf_1 c_7 (by decide) (by decide) (by decide) (by decide) ?_
            refine j_iconst (x := 0) C dX2_resultOf_95 (by decide) ?_
            have hs : S_X2_resultOf v f a b = 0 := by unfold S_X2_resultOf; rw [if_neg c_1, if_neg c_3, if_neg c_5, if_neg c_6, if_pos c_7]
            exact j_iret C hQ rfl dX2_resultOf_96 (dt_i hs)
          · by_cases c_8 : a = 5
            · refine j_tswIn (kv := 5) (off := 98) (tgt := 99) C dX2_resultOf_1 c_8 (by decide) (by decide) (by decide) (by decide) ?_
              refine j_iconst (x := 2) C dX2_resultOf_99 (by decide) ?_
              have hs : S_X2_resultOf v f a b = 2 := by unfold S_X2_resultOf; rw [if_neg c_1, if_neg c_3, if_neg c_5, if_neg c_6, if_neg c_7, if_pos c_8]
              exact j_iret C hQ rfl dX2_resultOf_100 (dt_i hs)
            · by_cases c_9 : a = 6
              · refine j_tswIn (kv := 6) (off := 98) (tgt := 99) C dX2_resultOf_1 c_9 (by decide) (by decide) (by decide) (by decide) ?_
                refine j_iconst (x := 2) C dX2_resultOf_99 (by decide) ?_
                have hs : S_X2_resultOf v f a b = 2 := by unfold S_X2_resultOf; rw [if_neg c_1, if_neg c_3, if_neg c_5, if_neg c_6, if_neg c_7, if_neg c_8, if_pos c_9]
                exact j_iret C hQ rfl dX2_resultOf_100 (dt_i hs)
              · by_cases c_10 : a = 7
                · refine j_tswIn (kv := 7) (off := 98) (tgt := 99) C dX2_resultOf_1 c_10 (by decide) (by decide) (by decide) (by decide) ?_
                  refine j_iconst (x := 2) C dX2_resultOf_99 (by decide) ?_
                  have hs : S_X2_resultOf v f a b = 2 := by unfold S_X2_resultOf; rw [if_neg c_1, if_neg c_3, if_neg c_5, if_neg c_6, if_neg c_7, if_neg c_8, if_neg c_9, if_pos c_10]
                  exact j_iret C hQ rfl dX2_resultOf_100 (dt_i hs)
                · by_cases c_11 : a = 8
                  · refine j_tswIn (kv := 8) (off := 96) (tgt := 97) C dX2_resultOf_1 c_11 (by decide) (by decide) (by decide) (by decide) ?_
                    refine j_iconst (x := 0) C dX2_resultOf_97 (by decide) ?_
                    have hs : S_X2_resultOf v f a b = 0 := by unfold S_X2_resultOf; rw [if_neg c_1, if_neg c_3, if_neg c_5, if_neg c_6, if_neg c_7, if_neg c_8, if_neg c_9, if_neg c_10, if_pos c_11]
                    exact j_iret C hQ rfl dX2_resultOf_98 (dt_i hs)
                  · refine j_tswOut (tgt := 99) C dX2_resultOf_1 (tsw_out (hi := 8) (by decide) (fun j hj => by match j, hj with | 0, _ => exact c_1 | 1, _ => exact c_3 | 2, _ => exact c_5 | 3, _ => exact c_6 | 4, _ => exact c_7 | 5, _ => exact c_8 | 6, _ => exact c_9 | 7, _ => exact c_10 | 8, _ => exact c_11 | j + 9, hj => omega)) (by decide) ?_
                    refine j_iconst (x := 2) C dX2_resultOf_99 (by decide) ?_
                    have hs : S_X2_resultOf v f a b = 2 := by unfold S_X2_resultOf; rw [if_neg c_1, if_neg c_3, if_neg c_5, if_neg c_6, if_neg c_7, if_neg c_8, if_neg c_9, if_neg c_10, if_neg c_11]
                    exact j_iret C hQ rfl dX2_resultOf_100 (dt_i hs)

def L_X2_copyOut (v : Nat → Int32) (f : Nat → Nat → Int32) (a : Int32) : Nat → (Nat → Int32) × (Nat → Nat → Int32)
  | 0 => ((S_X0_toWrites v f), f)
  | i1 + 1 =>
    (((S_X0_putByte ((L_X2_copyOut v f a i1).1) ((L_X2_copyOut v f a i1).2) (S_X2_at ((L_X2_copyOut v f a i1).1) ((L_X2_copyOut v f a i1).2) (a + (nI i1)))).1), ((S_X0_putByte ((L_X2_copyOut v f a i1).1) ((L_X2_copyOut v f a i1).2) (S_X2_at ((L_X2_copyOut v f a i1).1) ((L_X2_copyOut v f a i1).2) (a + (nI i1)))).2))
def S_X2_copyOut (v : Nat → Int32) (f : Nat → Nat → Int32) (a : Int32) : Int32 × (Nat → Int32) × (Nat → Nat → Int32) :=
  (((v 36) - 1), ((L_X2_copyOut v f a ((v 36) - 1).toNatClampNeg).1), ((L_X2_copyOut v f a ((v 36) - 1).toNatClampNeg).2))
theorem co_pos (v : Nat → Int32) (f : Nat → Nat → Int32) (a : Int32) (hq : 0 ≤ (v 29).toInt) : ∀ i : Nat, 0 ≤ ((L_X2_copyOut v f a i).1 30).toInt
  | 0 => hq
  | i + 1 => np_pos _ _ (co_pos v f a hq i)
set_option maxHeartbeats 1000000 in
set_option maxRecDepth 100000 in
theorem c_X2_copyOut (ε : ET) (ad : Nat → Nat) (v : Nat → Int32) (f : Nat → Nat → Int32) (u : Nat → Int32) (g : Nat → Nat → Int32) (a : Int32) (hq : 0 ≤ (v 29).toInt) : CT ε yX2_copyOut cX2_copyOut 5 (some .int) 2 43 0 0 [.ref (ad 10), .int a, .ref (ad 7)] (WD ε ad v f u g) (DT (some (.int ((S_X2_copyOut v f a).1))) (WD ε ad ((S_X2_copyOut v f a).2.1) ((S_X2_copyOut v f a).2.2) u g)) := by
  refine CT.of (own := RX2) (by decide) rfl (Nat.le_of_ble_eq_true rfl) (fun κ C hQ => ?_)
  refine j_aload_n (i := 2) C dX2_copyOut_0 rfl 2 rfl ?_
  refine g_7_writable (x := (v 36)) C dX2_copyOut_1 lf_X2_21 rfl ?_
  refine j_iconst (x := 1) C dX2_copyOut_4 (by decide) ?_
  refine j_isub C dX2_copyOut_5 ?_
  refine j_istore_n (i := 3) (lv' := [(3, .int ((v 36) - 1)), (0, .ref (ad 10)), (1, .int a), (2, .ref (ad 7))]) C dX2_copyOut_6 rfl (by decide) rfl ?_
  refine j_aload_n (i := 2) C dX2_copyOut_7 rfl 3 rfl ?_
  refine c_V (As := []) (rest := []) (st1 := []) C (c_X0_toWrites ε ad v f u g   ) mv_X0_toWrites lm_X2_61 dX2_copyOut_8 7 wl_7 rfl rfl rfl (by decide) (Nat.le_of_ble_eq_true rfl) rfl ?_
  refine j_iconst (x := 0) C dX2_copyOut_11 (by decide) ?_
  refine j_istore (i := 4) (lv' := [(4, .int 0), (3, .int ((v 36) - 1)), (0, .ref (ad 10)), (1, .int a), (2, .ref (ad 7))]) C dX2_copyOut_12 (by decide) rfl ?_
  have hx1 : JW κ 0 0 (WD ε ad ((L_X2_copyOut v f a ((v 36) - 1).toNatClampNeg).1) ((L_X2_copyOut v f a ((v 36) - 1).toNatClampNeg).2) u g) 38 [(4, .int (nI ((v 36) - 1).toNatClampNeg)), (3, .int ((v 36) - 1)), (0, .ref (ad 10)), (1, .int a), (2, .ref (ad 7))] [] := by
    refine j_iload_n (i := 3) C dX2_copyOut_38 rfl 1 rfl ?_
    have hs : S_X2_copyOut v f a = (((v 36) - 1), ((L_X2_copyOut v f a ((v 36) - 1).toNatClampNeg).1), ((L_X2_copyOut v f a ((v 36) - 1).toNatClampNeg).2)) := by unfold S_X2_copyOut; rfl
    exact j_iret C hQ rfl dX2_copyOut_39 (dt_ivf hs)
  have lp1 : ∀ d1 i1 : Nat, i1 + d1 = ((v 36) - 1).toNatClampNeg → JW κ 0 0 (WD ε ad ((L_X2_copyOut v f a i1).1) ((L_X2_copyOut v f a i1).2) u g) 14 [(4, .int (nI i1)), (3, .int ((v 36) - 1)), (0, .ref (ad 10)), (1, .int a), (2, .ref (ad 7))] [] := by
    intro d1
    induction d1 with
    | zero =>
      intro i1 hi
      have e9 : i1 = ((v 36) - 1).toNatClampNeg := by omega
      rw [e9]
      have lf1 : ((v 36) - 1) ≤ (nI ((v 36) - 1).toNatClampNeg) := lp_ge _
      refine j_iload (i := 4) C dX2_copyOut_14 0 rfl ?_
      refine j_iload_n (i := 3) C dX2_copyOut_16 rfl 1 rfl ?_
      refine j_icmp_ge (tgt := 38) C dX2_copyOut_17 (by decide) (fun _ => ?_) (fun c9 => absurd lf1 c9)
      exact hx1
    | succ d1 ih1 =>
      intro i1 hi
      have hlt1 : i1 < ((v 36) - 1).toNatClampNeg := by omega
      have lf1 : ¬ ((v 36) - 1) ≤ (nI i1) := lp_lt hlt1
      refine j_iload (i := 4) C dX2_copyOut_14 0 rfl ?_
      refine j_iload_n (i := 3) C dX2_copyOut_16 rfl 1 rfl ?_
      refine j_icmp_ge (tgt := 38) C dX2_copyOut_17 (by decide) (fun c9 => absurd c9 lf1) (fun _ => ?_)
      refine j_aload_n (i := 2) C dX2_copyOut_20 rfl 4 rfl ?_
      refine j_aload_n (i := 0) C dX2_copyOut_21 rfl 2 rfl ?_
      refine j_iload_n (i := 1) C dX2_copyOut_22 rfl 3 rfl ?_
      refine j_iload (i := 4) C dX2_copyOut_23 0 rfl ?_
      refine j_iadd C dX2_copyOut_25 ?_
      refine c_V (As := [.int (a + (nI i1))]) (rest := [.ref (ad 7)]) (st1 := [.int (S_X2_at ((L_X2_copyOut v f a i1).1) ((L_X2_copyOut v f a i1).2) (a + (nI i1))), .ref (ad 7)]) C (c_X2_at ε ad ((L_X2_copyOut v f a i1).1) ((L_X2_copyOut v f a i1).2) u g (a + (nI i1))  ) mv_X2_at lm_X2_64 dX2_copyOut_26 10 wl_10 rfl rfl rfl (by decide) (Nat.le_of_ble_eq_true rfl) rfl ?_
      refine c_V (As := [.int (S_X2_at ((L_X2_copyOut v f a i1).1) ((L_X2_copyOut v f a i1).2) (a + (nI i1)))]) (rest := []) (st1 := []) C (c_X0_putByte ε ad ((L_X2_copyOut v f a i1).1) ((L_X2_copyOut v f a i1).2) u g (S_X2_at ((L_X2_copyOut v f a i1).1) ((L_X2_copyOut v f a i1).2) (a + (nI i1)))  (co_pos v f a hq i1)) mv_X0_putByte lm_X2_68 dX2_copyOut_29 7 wl_7 rfl rfl rfl (by decide) (Nat.le_of_ble_eq_true rfl) rfl ?_
      refine j_iinc (y := (nI (i1 + 1))) (lv' := [(4, .int (nI (i1 + 1))), (3, .int ((v 36) - 1)), (0, .ref (ad 10)), (1, .int a), (2, .ref (ad 7))]) C dX2_copyOut_32 0 rfl (nI_1 _) (by decide) rfl ?_
      refine j_goto (tgt := 14) C dX2_copyOut_35 (by decide) ?_
      refine j_lv (lv' := [(4, .int (nI (i1 + 1))), (3, .int ((v 36) - 1)), (0, .ref (ad 10)), (1, .int a), (2, .ref (ad 7))]) [0, 1, 2, 3, 4] rfl ?_
      have e8 := ih1 (i1 + 1) (by omega)
      rw [L_X2_copyOut] at e8
      try dsimp only at e8
      exact e8
  have e7 := lp1 (((v 36) - 1).toNatClampNeg) 0 (by omega)
  rw [L_X2_copyOut] at e7
  try dsimp only at e7
  exact e7

def L_X2_copyIn (v : Nat → Int32) (f : Nat → Nat → Int32) (a : Int32) : Nat → (Nat → Int32) × (Nat → Nat → Int32)
  | 0 => (v, f)
  | i1 + 1 =>
    (((S_X0_nextByte ((L_X2_copyIn v f a i1).1) ((L_X2_copyIn v f a i1).2)).2), (S_X2_set ((S_X0_nextByte ((L_X2_copyIn v f a i1).1) ((L_X2_copyIn v f a i1).2)).2) ((L_X2_copyIn v f a i1).2) (a + (nI i1)) ((S_X0_nextByte ((L_X2_copyIn v f a i1).1) ((L_X2_copyIn v f a i1).2)).1)))
def S_X2_copyIn (v : Nat → Int32) (f : Nat → Nat → Int32) (a : Int32) : Int32 × (Nat → Int32) × (Nat → Nat → Int32) :=
  (0, ((L_X2_copyIn v f a ((v 35) - 16).toNatClampNeg).1), ((L_X2_copyIn v f a ((v 35) - 16).toNatClampNeg).2))
theorem ci_pos (v : Nat → Int32) (f : Nat → Nat → Int32) (a : Int32) (hp : 0 ≤ (v 30).toInt) : ∀ i : Nat, 0 ≤ ((L_X2_copyIn v f a i).1 30).toInt
  | 0 => hp
  | i + 1 => np_pos _ _ (ci_pos v f a hp i)
set_option maxHeartbeats 1000000 in
set_option maxRecDepth 100000 in
theorem c_X2_copyIn (ε : ET) (ad : Nat → Nat) (v : Nat → Int32) (f : Nat → Nat → Int32) (u : Nat → Int32) (g : Nat → Nat → Int32) (a : Int32) (hp : 0 ≤ (v 30).toInt) : CT ε yX2_copyIn cX2_copyIn 5 (some .int) 2 41 0 0 [.ref (ad 10), .int a, .ref (ad 7)] (WD ε ad v f u g) (DT (some (.int ((S_X2_copyIn v f a).1))) (WD ε ad ((S_X2_copyIn v f a).2.1) ((S_X2_copyIn v f a).2.2) u g)) := by
  refine CT.of (own := RX2) (by decide) rfl (Nat.le_of_ble_eq_true rfl) (fun κ C hQ => ?_)
  refine j_aload_n (i := 2) C dX2_copyIn_0 rfl 2 rfl ?_
  refine g_7_readable (x := (v 35)) C dX2_copyIn_1 lf_X2_15 rfl ?_
  refine j_bipush (x := 16) C dX2_copyIn_4 (by decide) ?_
  refine j_isub C dX2_copyIn_6 ?_
  refine j_istore_n (i := 3) (lv' := [(3, .int ((v 35) - 16)), (0, .ref (ad 10)), (1, .int a), (2, .ref (ad 7))]) C dX2_copyIn_7 rfl (by decide) rfl ?_
  refine j_iconst (x := 0) C dX2_copyIn_8 (by decide) ?_
  refine j_istore (i := 4) (lv' := [(4, .int 0), (3, .int ((v 35) - 16)), (0, .ref (ad 10)), (1, .int a), (2, .ref (ad 7))]) C dX2_copyIn_9 (by decide) rfl ?_
  have hx1 : JW κ 0 0 (WD ε ad ((L_X2_copyIn v f a ((v 35) - 16).toNatClampNeg).1) ((L_X2_copyIn v f a ((v 35) - 16).toNatClampNeg).2) u g) 35 [(4, .int (nI ((v 35) - 16).toNatClampNeg)), (3, .int ((v 35) - 16)), (0, .ref (ad 10)), (1, .int a), (2, .ref (ad 7))] [] := by
    refine j_iconst (x := 0) C dX2_copyIn_35 (by decide) ?_
    have hs : S_X2_copyIn v f a = (0, ((L_X2_copyIn v f a ((v 35) - 16).toNatClampNeg).1), ((L_X2_copyIn v f a ((v 35) - 16).toNatClampNeg).2)) := by unfold S_X2_copyIn; rfl
    exact j_iret C hQ rfl dX2_copyIn_36 (dt_ivf hs)
  have lp1 : ∀ d1 i1 : Nat, i1 + d1 = ((v 35) - 16).toNatClampNeg → JW κ 0 0 (WD ε ad ((L_X2_copyIn v f a i1).1) ((L_X2_copyIn v f a i1).2) u g) 11 [(4, .int (nI i1)), (3, .int ((v 35) - 16)), (0, .ref (ad 10)), (1, .int a), (2, .ref (ad 7))] [] := by
    intro d1
    induction d1 with
    | zero =>
      intro i1 hi
      have e9 : i1 = ((v 35) - 16).toNatClampNeg := by omega
      rw [e9]
      have lf1 : ((v 35) - 16) ≤ (nI ((v 35) - 16).toNatClampNeg) := lp_ge _
      refine j_iload (i := 4) C dX2_copyIn_11 0 rfl ?_
      refine j_iload_n (i := 3) C dX2_copyIn_13 rfl 1 rfl ?_
      refine j_icmp_ge (tgt := 35) C dX2_copyIn_14 (by decide) (fun _ => ?_) (fun c9 => absurd lf1 c9)
      exact hx1
    | succ d1 ih1 =>
      intro i1 hi
      have hlt1 : i1 < ((v 35) - 16).toNatClampNeg := by omega
      have lf1 : ¬ ((v 35) - 16) ≤ (nI i1) := lp_lt hlt1
      refine j_iload (i := 4) C dX2_copyIn_11 0 rfl ?_
      refine j_iload_n (i := 3) C dX2_copyIn_13 rfl 1 rfl ?_
      refine j_icmp_ge (tgt := 35) C dX2_copyIn_14 (by decide) (fun c9 => absurd c9 lf1) (fun _ => ?_)
      refine j_aload_n (i := 0) C dX2_copyIn_17 rfl 2 rfl ?_
      refine j_iload_n (i := 1) C dX2_copyIn_18 rfl 3 rfl ?_
      refine j_iload (i := 4) C dX2_copyIn_19 0 rfl ?_
      refine j_iadd C dX2_copyIn_21 ?_
      refine j_aload_n (i := 2) C dX2_copyIn_22 rfl 4 rfl ?_
      refine c_V (As := []) (rest := [.int (a + (nI i1)), .ref (ad 10)]) (st1 := [.int ((S_X0_nextByte ((L_X2_copyIn v f a i1).1) ((L_X2_copyIn v f a i1).2)).1), .int (a + (nI i1)), .ref (ad 10)]) C (c_X0_nextByte ε ad ((L_X2_copyIn v f a i1).1) ((L_X2_copyIn v f a i1).2) u g   (ci_pos v f a hp i1)) mv_X0_nextByte lm_X2_71 dX2_copyIn_23 7 wl_7 rfl rfl rfl (by decide) (Nat.le_of_ble_eq_true rfl) rfl ?_
      refine c_V (As := [.int (a + (nI i1)), .int ((S_X0_nextByte ((L_X2_copyIn v f a i1).1) ((L_X2_copyIn v f a i1).2)).1)]) (rest := []) (st1 := []) C (c_X2_set ε ad ((S_X0_nextByte ((L_X2_copyIn v f a i1).1) ((L_X2_copyIn v f a i1).2)).2) ((L_X2_copyIn v f a i1).2) u g (a + (nI i1)) ((S_X0_nextByte ((L_X2_copyIn v f a i1).1) ((L_X2_copyIn v f a i1).2)).1)  ) mv_X2_set lm_X2_75 dX2_copyIn_26 10 wl_10 rfl rfl rfl (by decide) (Nat.le_of_ble_eq_true rfl) rfl ?_
      refine j_iinc (y := (nI (i1 + 1))) (lv' := [(4, .int (nI (i1 + 1))), (3, .int ((v 35) - 16)), (0, .ref (ad 10)), (1, .int a), (2, .ref (ad 7))]) C dX2_copyIn_29 0 rfl (nI_1 _) (by decide) rfl ?_
      refine j_goto (tgt := 11) C dX2_copyIn_32 (by decide) ?_
      refine j_lv (lv' := [(4, .int (nI (i1 + 1))), (3, .int ((v 35) - 16)), (0, .ref (ad 10)), (1, .int a), (2, .ref (ad 7))]) [0, 1, 2, 3, 4] rfl ?_
      have e8 := ih1 (i1 + 1) (by omega)
      rw [L_X2_copyIn] at e8
      try dsimp only at e8
      exact e8
  have e7 := lp1 (((v 35) - 16).toNatClampNeg) 0 (by omega)
  rw [L_X2_copyIn] at e7
  try dsimp only at e7
  exact e7

def L_X2_tellName (v : Nat → Int32) (f : Nat → Nat → Int32)  : Nat → (Nat → Int32) × (Nat → Nat → Int32)
  | 0 => ((S_X0_toWrites v f), f)
  | i1 + 1 =>
    if (S_J0_length_8abf5 ((L_X2_tellName v f i1).1) ((L_X2_tellName v f i1).2)) ≤ (nI i1) then (((S_X0_putByte ((L_X2_tellName v f i1).1) ((L_X2_tellName v f i1).2) 0).1), ((S_X0_putByte ((L_X2_tellName v f i1).1) ((L_X2_tellName v f i1).2) 0).2))
    else (((S_X0_putByte ((L_X2_tellName v f i1).1) ((L_X2_tellName v f i1).2) (S_J0_charAt_5068e ((L_X2_tellName v f i1).1) ((L_X2_tellName v f i1).2) (nI i1))).1), ((S_X0_putByte ((L_X2_tellName v f i1).1) ((L_X2_tellName v f i1).2) (S_J0_charAt_5068e ((L_X2_tellName v f i1).1) ((L_X2_tellName v f i1).2) (nI i1))).2))
def S_X2_tellName (v : Nat → Int32) (f : Nat → Nat → Int32)  : Int32 × (Nat → Int32) × (Nat → Nat → Int32) :=
  ((if ((v 36) - 1) < 20 then ((v 36) - 1) else 20), ((L_X2_tellName v f (if ((v 36) - 1) < 20 then ((v 36) - 1) else 20).toNatClampNeg).1), ((L_X2_tellName v f (if ((v 36) - 1) < 20 then ((v 36) - 1) else 20).toNatClampNeg).2))
theorem tn_pos (v : Nat → Int32) (f : Nat → Nat → Int32) (hq : 0 ≤ (v 29).toInt) : ∀ i : Nat, 0 ≤ ((L_X2_tellName v f i).1 30).toInt
  | 0 => hq
  | i + 1 => by
    rw [L_X2_tellName]
    split <;> exact np_pos _ _ (tn_pos v f hq i)
set_option maxHeartbeats 1000000 in
set_option maxRecDepth 100000 in
theorem c_X2_tellName (ε : ET) (ad : Nat → Nat) (v : Nat → Int32) (f : Nat → Nat → Int32) (u : Nat → Int32) (g : Nat → Nat → Int32)  (hq : 0 ≤ (v 29).toInt) : CT ε yX2_tellName cX2_tellName 4 (some .int) 4 85 0 0 [.ref (ad 10), .ref (ad 7)] (WD ε ad v f u g) (DT (some (.int ((S_X2_tellName v f).1))) (WD ε ad ((S_X2_tellName v f).2.1) ((S_X2_tellName v f).2.2) u g)) := by
  refine CT.of (own := RX2) (by decide) rfl (Nat.le_of_ble_eq_true rfl) (fun κ C hQ => ?_)
  refine j_bipush (x := 20) C dX2_tellName_0 (by decide) ?_
  refine j_aload_n (i := 1) C dX2_tellName_2 rfl 1 rfl ?_
  refine g_7_writable (x := (v 36)) C dX2_tellName_3 lf_X2_21 rfl ?_
  refine j_iconst (x := 1) C dX2_tellName_6 (by decide) ?_
  refine j_isub C dX2_tellName_7 ?_
  refine j_min C dX2_tellName_8 lm_X2_79 ⟨by decide, Nat.le_of_ble_eq_true rfl, by decide, by decide⟩ ?_
  refine j_istore_n (i := 2) (lv' := [(2, .int (if ((v 36) - 1) < 20 then ((v 36) - 1) else 20)), (0, .ref (ad 10)), (1, .ref (ad 7))]) C dX2_tellName_11 rfl (by decide) rfl ?_
  refine j_aload_n (i := 1) C dX2_tellName_12 rfl 2 rfl ?_
  refine c_V (As := []) (rest := []) (st1 := []) C (c_X0_toWrites ε ad v f u g   ) mv_X0_toWrites lm_X2_61 dX2_tellName_13 7 wl_7 rfl rfl rfl (by decide) (Nat.le_of_ble_eq_true rfl) rfl ?_
  refine j_iconst (x := 0) C dX2_tellName_16 (by decide) ?_
  refine j_istore_n (i := 3) (lv' := [(3, .int 0), (2, .int (if ((v 36) - 1) < 20 then ((v 36) - 1) else 20)), (0, .ref (ad 10)), (1, .ref (ad 7))]) C dX2_tellName_17 rfl (by decide) rfl ?_
  have hx1 : JW κ 0 0 (WD ε ad ((L_X2_tellName v f (if ((v 36) - 1) < 20 then ((v 36) - 1) else 20).toNatClampNeg).1) ((L_X2_tellName v f (if ((v 36) - 1) < 20 then ((v 36) - 1) else 20).toNatClampNeg).2) u g) 52 [(3, .int (nI (if ((v 36) - 1) < 20 then ((v 36) - 1) else 20).toNatClampNeg)), (2, .int (if ((v 36) - 1) < 20 then ((v 36) - 1) else 20)), (0, .ref (ad 10)), (1, .ref (ad 7))] [] := by
    refine j_iload_n (i := 2) C dX2_tellName_52 rfl 1 rfl ?_
    have hs : S_X2_tellName v f = ((if ((v 36) - 1) < 20 then ((v 36) - 1) else 20), ((L_X2_tellName v f (if ((v 36) - 1) < 20 then ((v 36) - 1) else 20).toNatClampNeg).1), ((L_X2_tellName v f (if ((v 36) - 1) < 20 then ((v 36) - 1) else 20).toNatClampNeg).2)) := by unfold S_X2_tellName; rfl
    exact j_iret C hQ rfl dX2_tellName_53 (dt_ivf hs)
  have lp1 : ∀ d1 i1 : Nat, i1 + d1 = (if ((v 36) - 1) < 20 then ((v 36) - 1) else 20).toNatClampNeg → JW κ 0 0 (WD ε ad ((L_X2_tellName v f i1).1) ((L_X2_tellName v f i1).2) u g) 18 [(3, .int (nI i1)), (2, .int (if ((v 36) - 1) < 20 then ((v 36) - 1) else 20)), (0, .ref (ad 10)), (1, .ref (ad 7))] [] := by
    intro d1
    induction d1 with
    | zero =>
      intro i1 hi
      have e9 : i1 = (if ((v 36) - 1) < 20 then ((v 36) - 1) else 20).toNatClampNeg := by omega
      rw [e9]
      have lf1 : (if ((v 36) - 1) < 20 then ((v 36) - 1) else 20) ≤ (nI (if ((v 36) - 1) < 20 then ((v 36) - 1) else 20).toNatClampNeg) := lp_ge _
      refine j_iload_n (i := 3) C dX2_tellName_18 rfl 0 rfl ?_
      refine j_iload_n (i := 2) C dX2_tellName_19 rfl 1 rfl ?_
      refine j_icmp_ge (tgt := 52) C dX2_tellName_20 (by decide) (fun _ => ?_) (fun c9 => absurd lf1 c9)
      exact hx1
    | succ d1 ih1 =>
      intro i1 hi
      have hlt1 : i1 < (if ((v 36) - 1) < 20 then ((v 36) - 1) else 20).toNatClampNeg := by omega
      have lf1 : ¬ (if ((v 36) - 1) < 20 then ((v 36) - 1) else 20) ≤ (nI i1) := lp_lt hlt1
      refine j_iload_n (i := 3) C dX2_tellName_18 rfl 0 rfl ?_
      refine j_iload_n (i := 2) C dX2_tellName_19 rfl 1 rfl ?_
      refine j_icmp_ge (tgt := 52) C dX2_tellName_20 (by decide) (fun c9 => absurd c9 lf1) (fun _ => ?_)
      refine j_aload_n (i := 1) C dX2_tellName_23 rfl 3 rfl ?_
      refine j_iload_n (i := 3) C dX2_tellName_24 rfl 0 rfl ?_
      refine j_ldcS C rfl rfl dX2_tellName_25 ?_
      refine c_Vs (As := []) (rest := [.int (nI i1), .ref (ad 7)]) (st1 := [.int (S_J0_length_8abf5 ((L_X2_tellName v f i1).1) ((L_X2_tellName v f i1).2)), .int (nI i1), .ref (ad 7)]) C (c_J0_length_8abf5 ε ad ((L_X2_tellName v f i1).1) ((L_X2_tellName v f i1).2) u g   ) mv_J0_length_8abf5 lm_X2_87 dX2_tellName_27 rfl rfl (by decide) (Nat.le_of_ble_eq_true rfl) rfl ?_
      refine j_icmp_ge (tgt := 42) C dX2_tellName_30 (by decide) (fun c_1 => ?_) (fun c_1 => ?_)
      · refine j_iconst (x := 0) C dX2_tellName_42 (by decide) ?_
        refine c_V (As := [.int 0]) (rest := []) (st1 := []) C (c_X0_putByte ε ad ((L_X2_tellName v f i1).1) ((L_X2_tellName v f i1).2) u g 0  (tn_pos v f hq i1)) mv_X0_putByte lm_X2_68 dX2_tellName_43 7 wl_7 rfl rfl rfl (by decide) (Nat.le_of_ble_eq_true rfl) rfl ?_
        refine j_iinc (y := (nI (i1 + 1))) (lv' := [(3, .int (nI (i1 + 1))), (2, .int (if ((v 36) - 1) < 20 then ((v 36) - 1) else 20)), (0, .ref (ad 10)), (1, .ref (ad 7))]) C dX2_tellName_46 0 rfl (nI_1 _) (by decide) rfl ?_
        refine j_goto (tgt := 18) C dX2_tellName_49 (by decide) ?_
        refine j_lv (lv' := [(3, .int (nI (i1 + 1))), (2, .int (if ((v 36) - 1) < 20 then ((v 36) - 1) else 20)), (0, .ref (ad 10)), (1, .ref (ad 7))]) [0, 1, 2, 3] rfl ?_
        have e8 := ih1 (i1 + 1) (by omega)
        rw [show L_X2_tellName v f (i1 + 1) = (((S_X0_putByte ((L_X2_tellName v f i1).1) ((L_X2_tellName v f i1).2) 0).1), ((S_X0_putByte ((L_X2_tellName v f i1).1) ((L_X2_tellName v f i1).2) 0).2)) from by rw [L_X2_tellName, if_pos c_1]] at e8
        try dsimp only at e8
        exact e8
      · refine j_ldcS C rfl rfl dX2_tellName_33 ?_
        refine j_iload_n (i := 3) C dX2_tellName_35 rfl 0 rfl ?_
        refine c_Vs (As := [.int (nI i1)]) (rest := [.ref (ad 7)]) (st1 := [.int (S_J0_charAt_5068e ((L_X2_tellName v f i1).1) ((L_X2_tellName v f i1).2) (nI i1)), .ref (ad 7)]) C (c_J0_charAt_5068e ε ad ((L_X2_tellName v f i1).1) ((L_X2_tellName v f i1).2) u g (nI i1)  (nI_pos (Nat.lt_trans hlt1 (clamp_lt _))) (by have h9 := c_1; rw [len5] at h9; exact Int32.not_le.mp h9)) mv_J0_charAt_5068e lm_X2_92 dX2_tellName_36 rfl rfl (by decide) (Nat.le_of_ble_eq_true rfl) rfl ?_
        refine j_goto (tgt := 43) C dX2_tellName_39 (by decide) ?_
        refine c_V (As := [.int (S_J0_charAt_5068e ((L_X2_tellName v f i1).1) ((L_X2_tellName v f i1).2) (nI i1))]) (rest := []) (st1 := []) C (c_X0_putByte ε ad ((L_X2_tellName v f i1).1) ((L_X2_tellName v f i1).2) u g (S_J0_charAt_5068e ((L_X2_tellName v f i1).1) ((L_X2_tellName v f i1).2) (nI i1))  (tn_pos v f hq i1)) mv_X0_putByte lm_X2_68 dX2_tellName_43 7 wl_7 rfl rfl rfl (by decide) (Nat.le_of_ble_eq_true rfl) rfl ?_
        refine j_iinc (y := (nI (i1 + 1))) (lv' := [(3, .int (nI (i1 + 1))), (2, .int (if ((v 36) - 1) < 20 then ((v 36) - 1) else 20)), (0, .ref (ad 10)), (1, .ref (ad 7))]) C dX2_tellName_46 0 rfl (nI_1 _) (by decide) rfl ?_
        refine j_goto (tgt := 18) C dX2_tellName_49 (by decide) ?_
        refine j_lv (lv' := [(3, .int (nI (i1 + 1))), (2, .int (if ((v 36) - 1) < 20 then ((v 36) - 1) else 20)), (0, .ref (ad 10)), (1, .ref (ad 7))]) [0, 1, 2, 3] rfl ?_
        have e8 := ih1 (i1 + 1) (by omega)
        rw [show L_X2_tellName v f (i1 + 1) = (((S_X0_putByte ((L_X2_tellName v f i1).1) ((L_X2_tellName v f i1).2) (S_J0_charAt_5068e ((L_X2_tellName v f i1).1) ((L_X2_tellName v f i1).2) (nI i1))).1), ((S_X0_putByte ((L_X2_tellName v f i1).1) ((L_X2_tellName v f i1).2) (S_J0_charAt_5068e ((L_X2_tellName v f i1).1) ((L_X2_tellName v f i1).2) (nI i1))).2)) from by rw [L_X2_tellName, if_neg c_1]] at e8
        try dsimp only at e8
        exact e8
  have e7 := lp1 ((if ((v 36) - 1) < 20 then ((v 36) - 1) else 20).toNatClampNeg) 0 (by omega)
  rw [L_X2_tellName] at e7
  try dsimp only at e7
  exact e7

def S_X2_carryOut (v : Nat → Int32) (f : Nat → Nat → Int32) (a : Int32) (b : Int32) : Int32 × (Nat → Int32) × (Nat → Nat → Int32) :=
  if a = 0 then (((S_X2_copyOut v f (64 * b)).1), ((S_X2_copyOut v f (64 * b)).2.1), ((S_X2_copyOut v f (64 * b)).2.2))
  else if a = 1 then (((S_X2_copyIn v f (64 * b)).1), ((S_X2_copyIn v f (64 * b)).2.1), ((S_X2_copyIn v f (64 * b)).2.2))
    else if a = 8 then (((S_X2_tellName v f).1), ((S_X2_tellName v f).2.1), ((S_X2_tellName v f).2.2))
      else (0, v, f)
set_option maxHeartbeats 1000000 in
set_option maxRecDepth 100000 in
theorem c_X2_carryOut (ε : ET) (ad : Nat → Nat) (v : Nat → Int32) (f : Nat → Nat → Int32) (u : Nat → Int32) (g : Nat → Nat → Int32) (a : Int32) (b : Int32) (hp : 0 ≤ (v 30).toInt) (hq : 0 ≤ (v 29).toInt) : CT ε yX2_carryOut cX2_carryOut 4 (some .int) 5 108 0 0 [.ref (ad 10), .int a, .int b, .ref (ad 7)] (WD ε ad v f u g) (DT (some (.int ((S_X2_carryOut v f a b).1))) (WD ε ad ((S_X2_carryOut v f a b).2.1) ((S_X2_carryOut v f a b).2.2) u g)) := by
  refine CT.of (own := RX2) (by decide) rfl (Nat.le_of_ble_eq_true rfl) (fun κ C hQ => ?_)
  refine j_iload_n (i := 1) C dX2_carryOut_0 rfl 1 rfl ?_
  by_cases c_1 : a = 0
  · refine j_lsw (off := 35) (tgt := 36) C dX2_carryOut_1 (by decide) (by rw [c_1]; decide) (by decide) ?_
    refine j_aload_n (i := 0) C dX2_carryOut_36 rfl 0 rfl ?_
    refine j_bipush (x := 64) C dX2_carryOut_37 (by decide) ?_
    refine j_iload_n (i := 2) C dX2_carryOut_39 rfl 2 rfl ?_
    refine j_imul C dX2_carryOut_40 ?_
    refine j_aload_n (i := 3) C dX2_carryOut_41 rfl 3 rfl ?_
    refine c_V (As := [.int (64 * b), .ref (ad 7)]) (rest := []) (st1 := [.int ((S_X2_copyOut v f (64 * b)).1)]) C (c_X2_copyOut ε ad v f u g (64 * b)  hq) mv_X2_copyOut lm_X2_50 dX2_carryOut_42 10 wl_10 rfl rfl rfl (by decide) (Nat.le_of_ble_eq_true rfl) rfl ?_
    have hs : S_X2_carryOut v f a b = (((S_X2_copyOut v f (64 * b)).1), ((S_X2_copyOut v f (64 * b)).2.1), ((S_X2_copyOut v f (64 * b)).2.2)) := by unfold S_X2_carryOut; rw [if_pos c_1]
    exact j_iret C hQ rfl dX2_carryOut_45 (dt_ivf hs)
  · by_cases c_2 : a = 1
    · refine j_lsw (off := 45) (tgt := 46) C dX2_carryOut_1 (by decide) (by rw [c_2]; decide) (by decide) ?_
      refine j_aload_n (i := 0) C dX2_carryOut_46 rfl 0 rfl ?_
      refine j_bipush (x := 64) C dX2_carryOut_47 (by decide) ?_
      refine j_iload_n (i := 2) C dX2_carryOut_49 rfl 2 rfl ?_
      refine j_imul C dX2_carryOut_50 ?_
      refine j_aload_n (i := 3) C dX2_carryOut_51 rfl 3 rfl ?_
      refine c_V (As := [.int (64 * b), .ref (ad 7)]) (rest := []) (st1 := [.int ((S_X2_copyIn v f (64 * b)).1)]) C (c_X2_copyIn ε ad v f u g (64 * b)  hp) mv_X2_copyIn lm_X2_54 dX2_carryOut_52 10 wl_10 rfl rfl rfl (by decide) (Nat.le_of_ble_eq_true rfl) rfl ?_
      have hs : S_X2_carryOut v f a b = (((S_X2_copyIn v f (64 * b)).1), ((S_X2_copyIn v f (64 * b)).2.1), ((S_X2_copyIn v f (64 * b)).2.2)) := by unfold S_X2_carryOut; rw [if_neg c_1, if_pos c_2]
      exact j_iret C hQ rfl dX2_carryOut_55 (dt_ivf hs)
    · by_cases c_3 : a = 8
      · refine j_lsw (off := 55) (tgt := 56) C dX2_carryOut_1 (by decide) (by rw [c_3]; decide) (by decide) ?_
        refine j_aload_n (i := 0) C dX2_carryOut_56 rfl 0 rfl ?_
        refine j_aload_n (i := 3) C dX2_carryOut_57 rfl 3 rfl ?_
        refine c_V (As := [.ref (ad 7)]) (rest := []) (st1 := [.int ((S_X2_tellName v f).1)]) C (c_X2_tellName ε ad v f u g   hq) mv_X2_tellName lm_X2_57 dX2_carryOut_58 10 wl_10 rfl rfl rfl (by decide) (Nat.le_of_ble_eq_true rfl) rfl ?_
        have hs : S_X2_carryOut v f a b = (((S_X2_tellName v f).1), ((S_X2_tellName v f).2.1), ((S_X2_tellName v f).2.2)) := by unfold S_X2_carryOut; rw [if_neg c_1, if_neg c_2, if_pos c_3]
        exact j_iret C hQ rfl dX2_carryOut_61 (dt_ivf hs)
      · refine j_lsw (off := 61) (tgt := 62) C dX2_carryOut_1 (by decide) (by show Op.lookupswitch.offset [(0, 35), (1, 45), (8, 55)] 61 _ = _; rw [lv_osw c_1 (by decide), lv_osw c_2 (by decide), lv_osw c_3 (by decide)]; rfl) (by decide) ?_
        refine j_iconst (x := 0) C dX2_carryOut_62 (by decide) ?_
        have hs : S_X2_carryOut v f a b = (0, v, f) := by unfold S_X2_carryOut; rw [if_neg c_1, if_neg c_2, if_neg c_3]
        exact j_iret C hQ rfl dX2_carryOut_63 (dt_ivf hs)

def Q_X2_answer_1 (v : Nat → Int32) (f : Nat → Nat → Int32) : Int64 := ((S_X0_nextNumber (S_X0_toReads v f) f 4).1)
def Q_X2_answer_2 (v : Nat → Int32) (f : Nat → Nat → Int32) : (Nat → Int32) := ((S_X0_nextNumber (S_X0_toReads v f) f 4).2)
def Q_X2_answer_3 (v : Nat → Int32) (f : Nat → Nat → Int32) : Int64 := ((S_X0_nextNumber (S_X0_skip (Q_X2_answer_2 v f) f 4) f 8).1)
def Q_X2_answer_4 (v : Nat → Int32) (f : Nat → Nat → Int32) : (Nat → Int32) := ((S_X0_nextNumber (S_X0_skip (Q_X2_answer_2 v f) f 4) f 8).2)
def Q_X2_answer_5 (v : Nat → Int32) (f : Nat → Nat → Int32) : Int32 := (S_X2_resultOf (Q_X2_answer_4 v f) f (((Q_X2_answer_1 v f) : Int64).toInt32) (Q_X2_answer_3 v f))
def Q_X2_answer_6 (v : Nat → Int32) (f : Nat → Nat → Int32) : (Nat → Nat → Int32) := (S_X0_putLast (Q_X2_answer_4 v f) f (Q_X2_answer_5 v f))
def Q_X2_answer_7 (v : Nat → Int32) (f : Nat → Nat → Int32) : Int32 := ((S_X2_carryOut (Q_X2_answer_4 v f) f (((Q_X2_answer_1 v f) : Int64).toInt32) (((Q_X2_answer_3 v f) : Int64).toInt32)).1)
def Q_X2_answer_8 (v : Nat → Int32) (f : Nat → Nat → Int32) : (Nat → Int32) := ((S_X2_carryOut (Q_X2_answer_4 v f) f (((Q_X2_answer_1 v f) : Int64).toInt32) (((Q_X2_answer_3 v f) : Int64).toInt32)).2.1)
def Q_X2_answer_9 (v : Nat → Int32) (f : Nat → Nat → Int32) : (Nat → Nat → Int32) := ((S_X2_carryOut (Q_X2_answer_4 v f) f (((Q_X2_answer_1 v f) : Int64).toInt32) (((Q_X2_answer_3 v f) : Int64).toInt32)).2.2)
def Q_X2_answer_10 (v : Nat → Int32) (f : Nat → Nat → Int32) : (Nat → Nat → Int32) := (S_X0_putLast (Q_X2_answer_8 v f) (Q_X2_answer_9 v f) (Q_X2_answer_5 v f))
def S_X2_answer (v : Nat → Int32) (f : Nat → Nat → Int32)  : Int32 × (Nat → Int32) × (Nat → Nat → Int32) :=
  if (v 35) < 16 then (0, v, f)
  else if 1 ≤ (v 36) then if (Q_X2_answer_5 v f) = 0 then (((Q_X2_answer_7 v f) + 1), (Q_X2_answer_8 v f), (Q_X2_answer_10 v f))
      else ((0 + 1), (Q_X2_answer_4 v f), (Q_X2_answer_6 v f))
    else (0, v, f)
set_option maxHeartbeats 1000000 in
set_option maxRecDepth 100000 in
theorem c_X2_answer (ε : ET) (ad : Nat → Nat) (v : Nat → Int32) (f : Nat → Nat → Int32) (u : Nat → Int32) (g : Nat → Nat → Int32)  (hq : 0 ≤ (v 29).toInt) : CT ε yX2_answer cX2_answer 7 (some .int) 6 131 0 0 [.ref (ad 10), .ref (ad 7)] (WD ε ad v f u g) (DT (some (.int ((S_X2_answer v f).1))) (WD ε ad ((S_X2_answer v f).2.1) ((S_X2_answer v f).2.2) u g)) := by
  refine CT.of (own := RX2) (by decide) rfl (Nat.le_of_ble_eq_true rfl) (fun κ C hQ => ?_)
  refine j_aload_n (i := 1) C dX2_answer_0 rfl 1 rfl ?_
  refine g_7_readable (x := (v 35)) C dX2_answer_1 lf_X2_15 rfl ?_
  refine j_bipush (x := 16) C dX2_answer_4 (by decide) ?_
  refine j_icmp_lt (tgt := 17) C dX2_answer_6 (by decide) (fun c_1 => ?_) (fun c_1 => ?_)
  · refine j_iconst (x := 0) C dX2_answer_17 (by decide) ?_
    have hs : S_X2_answer v f = (0, v, f) := by unfold S_X2_answer; rw [if_pos c_1]
    exact j_iret C hQ rfl dX2_answer_18 (dt_ivf hs)
  · refine j_aload_n (i := 1) C dX2_answer_9 rfl 1 rfl ?_
    refine g_7_writable (x := (v 36)) C dX2_answer_10 lf_X2_21 rfl ?_
    refine j_iconst (x := 1) C dX2_answer_13 (by decide) ?_
    refine j_icmp_ge (tgt := 19) C dX2_answer_14 (by decide) (fun c_2 => ?_) (fun c_2 => ?_)
    · refine j_aload_n (i := 1) C dX2_answer_19 rfl 1 rfl ?_
      refine c_V (As := []) (rest := []) (st1 := []) C (c_X0_toReads ε ad v f u g   ) mv_X0_toReads lm_X2_24 dX2_answer_20 7 wl_7 rfl rfl rfl (by decide) (Nat.le_of_ble_eq_true rfl) rfl ?_
      refine j_aload_n (i := 1) C dX2_answer_23 rfl 1 rfl ?_
      refine j_iconst (x := 4) C dX2_answer_24 (by decide) ?_
      refine c_V (As := [.int 4]) (rest := []) (st1 := [.long (Q_X2_answer_1 v f)]) (ω1 := (WD ε ad (Q_X2_answer_2 v f) f u g)) C (c_X0_nextNumber ε ad (S_X0_toReads v f) f u g 4  (by first | assumption | omega | decide) (Int.le_refl 0)) mv_X0_nextNumber lm_X2_27 dX2_answer_25 7 wl_7 rfl rfl rfl (by decide) (Nat.le_of_ble_eq_true rfl) rfl ?_
      refine j_l2i C dX2_answer_28 ?_
      refine j_istore_n (i := 2) (lv' := [(2, .int (((Q_X2_answer_1 v f) : Int64).toInt32)), (0, .ref (ad 10)), (1, .ref (ad 7))]) C dX2_answer_29 rfl (by decide) rfl ?_
      refine j_aload_n (i := 1) C dX2_answer_30 rfl 2 rfl ?_
      refine j_iconst (x := 4) C dX2_answer_31 (by decide) ?_
      refine c_V (As := [.int 4]) (rest := []) (st1 := []) C (c_X0_skip ε ad (Q_X2_answer_2 v f) f u g 4  (by first | assumption | omega | decide) (nn_pos _ _ _ (Int.le_refl 0))) mv_X0_skip lm_X2_31 dX2_answer_32 7 wl_7 rfl rfl rfl (by decide) (Nat.le_of_ble_eq_true rfl) rfl ?_
      refine j_aload_n (i := 1) C dX2_answer_35 rfl 2 rfl ?_
      refine j_bipush (x := 8) C dX2_answer_36 (by decide) ?_
      refine c_V (As := [.int 8]) (rest := []) (st1 := [.long (Q_X2_answer_3 v f)]) (ω1 := (WD ε ad (Q_X2_answer_4 v f) f u g)) C (c_X0_nextNumber ε ad (S_X0_skip (Q_X2_answer_2 v f) f 4) f u g 8  (by first | assumption | omega | decide) (sk_pos _ _ _ (nn_pos _ _ _ (Int.le_refl 0)))) mv_X0_nextNumber lm_X2_27 dX2_answer_38 7 wl_7 rfl rfl rfl (by decide) (Nat.le_of_ble_eq_true rfl) rfl ?_
      refine j_lstore_n (i := 3) (lv' := [(3, .long (Q_X2_answer_3 v f)), (2, .int (((Q_X2_answer_1 v f) : Int64).toInt32)), (0, .ref (ad 10)), (1, .ref (ad 7))]) C dX2_answer_41 rfl (by decide) rfl ?_
      refine j_aload_n (i := 0) C dX2_answer_42 rfl 2 rfl ?_
      refine j_iload_n (i := 2) C dX2_answer_43 rfl 1 rfl ?_
      refine j_lload_n (i := 3) C dX2_answer_44 rfl 0 rfl ?_
      refine j_aload_n (i := 1) C dX2_answer_45 rfl 3 rfl ?_
      refine c_V (As := [.int (((Q_X2_answer_1 v f) : Int64).toInt32), .long (Q_X2_answer_3 v f), .ref (ad 7)]) (rest := []) (st1 := [.int (Q_X2_answer_5 v f)]) C (c_X2_resultOf ε ad (Q_X2_answer_4 v f) f u g (((Q_X2_answer_1 v f) : Int64).toInt32) (Q_X2_answer_3 v f)  ) mv_X2_resultOf lm_X2_35 dX2_answer_46 10 wl_10 rfl rfl rfl (by decide) (Nat.le_of_ble_eq_true rfl) rfl ?_
      refine j_istore (i := 5) (lv' := [(5, .int (Q_X2_answer_5 v f)), (3, .long (Q_X2_answer_3 v f)), (2, .int (((Q_X2_answer_1 v f) : Int64).toInt32)), (0, .ref (ad 10)), (1, .ref (ad 7))]) C dX2_answer_49 (by decide) rfl ?_
      refine j_iload (i := 5) C dX2_answer_51 0 rfl ?_
      refine j_if_ne (tgt := 67) C dX2_answer_53 (by decide) (fun c_3 => ?_) (fun c_3 => ?_)
      · refine j_iconst (x := 0) C dX2_answer_67 (by decide) ?_
        refine j_istore (i := 6) (lv' := [(6, .int 0), (5, .int (Q_X2_answer_5 v f)), (3, .long (Q_X2_answer_3 v f)), (2, .int (((Q_X2_answer_1 v f) : Int64).toInt32)), (0, .ref (ad 10)), (1, .ref (ad 7))]) C dX2_answer_68 (by decide) rfl ?_
        refine j_aload_n (i := 1) C dX2_answer_70 rfl 5 rfl ?_
        refine j_iload (i := 5) C dX2_answer_71 1 rfl ?_
        refine c_V (As := [.int (Q_X2_answer_5 v f)]) (rest := []) (st1 := []) (ω1 := (WD ε ad (Q_X2_answer_4 v f) (Q_X2_answer_6 v f) u g)) C (c_X0_putLast ε ad (Q_X2_answer_4 v f) f u g (Q_X2_answer_5 v f)  ) mv_X0_putLast lm_X2_43 dX2_answer_73 7 wl_7 rfl rfl rfl (by decide) (Nat.le_of_ble_eq_true rfl) rfl ?_
        refine j_iload (i := 6) C dX2_answer_76 0 rfl ?_
        refine j_iconst (x := 1) C dX2_answer_78 (by decide) ?_
        refine j_iadd C dX2_answer_79 ?_
        have hs : S_X2_answer v f = ((0 + 1), (Q_X2_answer_4 v f), (Q_X2_answer_6 v f)) := by unfold S_X2_answer; rw [if_neg c_1, if_pos c_2, if_neg c_3]
        exact j_iret C hQ rfl dX2_answer_80 (dt_ivf hs)
      · refine j_aload_n (i := 0) C dX2_answer_56 rfl 3 rfl ?_
        refine j_iload_n (i := 2) C dX2_answer_57 rfl 2 rfl ?_
        refine j_lload_n (i := 3) C dX2_answer_58 rfl 1 rfl ?_
        refine j_l2i C dX2_answer_59 ?_
        refine j_aload_n (i := 1) C dX2_answer_60 rfl 4 rfl ?_
        refine c_V (As := [.int (((Q_X2_answer_1 v f) : Int64).toInt32), .int (((Q_X2_answer_3 v f) : Int64).toInt32), .ref (ad 7)]) (rest := []) (st1 := [.int (Q_X2_answer_7 v f)]) (ω1 := (WD ε ad (Q_X2_answer_8 v f) (Q_X2_answer_9 v f) u g)) C (c_X2_carryOut ε ad (Q_X2_answer_4 v f) f u g (((Q_X2_answer_1 v f) : Int64).toInt32) (((Q_X2_answer_3 v f) : Int64).toInt32)  (nn_pos _ _ _ (sk_pos _ _ _ (nn_pos _ _ _ (Int.le_refl 0)))) (by simp only [Q_X2_answer_2, Q_X2_answer_4]; rw [nn_same _ _ _ 29 (by decide) (by decide), sk_same _ _ _ 29 (by decide) (by decide), nn_same _ _ _ 29 (by decide) (by decide)]; exact hq)) mv_X2_carryOut lm_X2_39 dX2_answer_61 10 wl_10 rfl rfl rfl (by decide) (Nat.le_of_ble_eq_true rfl) rfl ?_
        refine j_goto (tgt := 68) C dX2_answer_64 (by decide) ?_
        refine j_istore (i := 6) (lv' := [(6, .int (Q_X2_answer_7 v f)), (5, .int (Q_X2_answer_5 v f)), (3, .long (Q_X2_answer_3 v f)), (2, .int (((Q_X2_answer_1 v f) : Int64).toInt32)), (0, .ref (ad 10)), (1, .ref (ad 7))]) C dX2_answer_68 (by decide) rfl ?_
        refine j_aload_n (i := 1) C dX2_answer_70 rfl 5 rfl ?_
        refine j_iload (i := 5) C dX2_answer_71 1 rfl ?_
        refine c_V (As := [.int (Q_X2_answer_5 v f)]) (rest := []) (st1 := []) (ω1 := (WD ε ad (Q_X2_answer_8 v f) (Q_X2_answer_10 v f) u g)) C (c_X0_putLast ε ad (Q_X2_answer_8 v f) (Q_X2_answer_9 v f) u g (Q_X2_answer_5 v f)  ) mv_X0_putLast lm_X2_43 dX2_answer_73 7 wl_7 rfl rfl rfl (by decide) (Nat.le_of_ble_eq_true rfl) rfl ?_
        refine j_iload (i := 6) C dX2_answer_76 0 rfl ?_
        refine j_iconst (x := 1) C dX2_answer_78 (by decide) ?_
        refine j_iadd C dX2_answer_79 ?_
        have hs : S_X2_answer v f = (((Q_X2_answer_7 v f) + 1), (Q_X2_answer_8 v f), (Q_X2_answer_10 v f)) := by unfold S_X2_answer; rw [if_neg c_1, if_pos c_2, if_pos c_3]
        exact j_iret C hQ rfl dX2_answer_80 (dt_ivf hs)
    · refine j_iconst (x := 0) C dX2_answer_17 (by decide) ?_
      have hs : S_X2_answer v f = (0, v, f) := by unfold S_X2_answer; rw [if_neg c_1, if_neg c_2]
      exact j_iret C hQ rfl dX2_answer_18 (dt_ivf hs)

