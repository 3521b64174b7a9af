theorem lg_in {x : Int64} {N : Nat} {y : Int64} (h0 : ¬ lg_cmp x 0 < 0) (h1 : ¬ 0 ≤ lg_cmp x y) (hy : y.toInt = N) (hN : N < 2 ^ 31) : vp_in x.toInt32 N := by
  rw [lg_cmp_lt, Int64.lt_iff_toInt_lt] at h0
  rw [lg_cmp_ge, Int64.le_iff_toInt_le] at h1
  have h00 : (0 : Int64).toInt = 0 := rfl
  have hk : x = lN x.toInt.toNat := Int64.toInt_inj.mp (by rw [lN_toInt (by omega)]; omega)
  rw [hk, lN_i]
  exact vp_in_nI (by omega) hN
def S_X4_forget_16 (v : Nat → Int32) (f : Nat → Nat → Int32)  : (Nat → Int32) × (Nat → Nat → Int32) :=
  ((upd (upd (upd (upd v 41 0) 42 0) 43 0) 44 (-1)), (S_J7_fillI17 v f 0))
set_option maxHeartbeats 1000000 in
set_option maxRecDepth 100000 in
theorem c_X4_forget_16 (ε : ET) (ad : Nat → Nat) (v : Nat → Int32) (f : Nat → Nat → Int32) (u : Nat → Int32) (g : Nat → Nat → Int32)   : CT ε yX4_forget cX4_forget 1 none 1 23 0 0 [.ref (ad 16)] (WD ε ad v f u g) (DT none (WD ε ad ((S_X4_forget_16 v f).1) ((S_X4_forget_16 v f).2) u g)) := by
  refine CT.of (own := RX4) (by decide) rfl (Nat.le_of_ble_eq_true rfl) (fun κ C hQ => ?_)
  refine j_aload_n (i := 0) C dX4_forget_0 rfl 0 rfl ?_
  refine g_16_chains C dX4_forget_1 lf_X4_9 ?_
  refine j_iconst (x := 0) C dX4_forget_4 (by decide) ?_
  refine c_S (As := [.ref (ad 17), .int 0]) (rest := []) (st1 := []) C (c_J7_fillI17 ε ad v f u g 0  ) mt_J7_fill_53178 lm_X4_25 dX4_forget_5 rfl rfl (by decide) (Nat.le_of_ble_eq_true rfl) rfl ?_
  refine j_aload_n (i := 0) C dX4_forget_8 rfl 0 rfl ?_
  refine j_iconst (x := 0) C dX4_forget_9 (by decide) ?_
  refine p_16_free C dX4_forget_10 lf_X4_22 ?_
  refine j_aload_n (i := 0) C dX4_forget_13 rfl 0 rfl ?_
  refine j_iconst (x := 0) C dX4_forget_14 (by decide) ?_
  refine p_16_asked C dX4_forget_15 lf_X4_31 ?_
  refine j_aload_n (i := 0) C dX4_forget_18 rfl 0 rfl ?_
  refine j_iconst (x := 0) C dX4_forget_19 (by decide) ?_
  refine p_16_saw C dX4_forget_20 lf_X4_34 ?_
  refine j_aload_n (i := 0) C dX4_forget_23 rfl 0 rfl ?_
  refine j_iconst (x := (-1)) C dX4_forget_24 (by decide) ?_
  refine p_16_latestWritten C dX4_forget_25 lf_X4_15 ?_
  have hs : S_X4_forget_16 v f = ((upd (upd (upd (upd v 41 0) 42 0) 43 0) 44 (-1)), (S_J7_fillI17 v f 0)) := by unfold S_X4_forget_16; rfl
  exact j_vret C hQ rfl dX4_forget_28 (dt_nvf hs)

def S_X4_forget_18 (v : Nat → Int32) (f : Nat → Nat → Int32)  : (Nat → Int32) × (Nat → Nat → Int32) :=
  ((upd (upd (upd (upd v 45 0) 46 0) 47 0) 48 (-1)), (S_J7_fillI19 v f 0))
set_option maxHeartbeats 1000000 in
set_option maxRecDepth 100000 in
theorem c_X4_forget_18 (ε : ET) (ad : Nat → Nat) (v : Nat → Int32) (f : Nat → Nat → Int32) (u : Nat → Int32) (g : Nat → Nat → Int32)   : CT ε yX4_forget cX4_forget 1 none 1 23 0 0 [.ref (ad 18)] (WD ε ad v f u g) (DT none (WD ε ad ((S_X4_forget_18 v f).1) ((S_X4_forget_18 v f).2) u g)) := by
  refine CT.of (own := RX4) (by decide) rfl (Nat.le_of_ble_eq_true rfl) (fun κ C hQ => ?_)
  refine j_aload_n (i := 0) C dX4_forget_0 rfl 0 rfl ?_
  refine g_18_chains C dX4_forget_1 lf_X4_9 ?_
  refine j_iconst (x := 0) C dX4_forget_4 (by decide) ?_
  refine c_S (As := [.ref (ad 19), .int 0]) (rest := []) (st1 := []) C (c_J7_fillI19 ε ad v f u g 0  ) mt_J7_fill_53178 lm_X4_25 dX4_forget_5 rfl rfl (by decide) (Nat.le_of_ble_eq_true rfl) rfl ?_
  refine j_aload_n (i := 0) C dX4_forget_8 rfl 0 rfl ?_
  refine j_iconst (x := 0) C dX4_forget_9 (by decide) ?_
  refine p_18_free C dX4_forget_10 lf_X4_22 ?_
  refine j_aload_n (i := 0) C dX4_forget_13 rfl 0 rfl ?_
  refine j_iconst (x := 0) C dX4_forget_14 (by decide) ?_
  refine p_18_asked C dX4_forget_15 lf_X4_31 ?_
  refine j_aload_n (i := 0) C dX4_forget_18 rfl 0 rfl ?_
  refine j_iconst (x := 0) C dX4_forget_19 (by decide) ?_
  refine p_18_saw C dX4_forget_20 lf_X4_34 ?_
  refine j_aload_n (i := 0) C dX4_forget_23 rfl 0 rfl ?_
  refine j_iconst (x := (-1)) C dX4_forget_24 (by decide) ?_
  refine p_18_latestWritten C dX4_forget_25 lf_X4_15 ?_
  have hs : S_X4_forget_18 v f = ((upd (upd (upd (upd v 45 0) 46 0) 47 0) 48 (-1)), (S_J7_fillI19 v f 0)) := by unfold S_X4_forget_18; rfl
  exact j_vret C hQ rfl dX4_forget_28 (dt_nvf hs)

def S_X4_forget_20 (v : Nat → Int32) (f : Nat → Nat → Int32)  : (Nat → Int32) × (Nat → Nat → Int32) :=
  ((upd (upd (upd (upd v 49 0) 50 0) 51 0) 52 (-1)), (S_J7_fillI21 v f 0))
set_option maxHeartbeats 1000000 in
set_option maxRecDepth 100000 in
theorem c_X4_forget_20 (ε : ET) (ad : Nat → Nat) (v : Nat → Int32) (f : Nat → Nat → Int32) (u : Nat → Int32) (g : Nat → Nat → Int32)   : CT ε yX4_forget cX4_forget 1 none 1 23 0 0 [.ref (ad 20)] (WD ε ad v f u g) (DT none (WD ε ad ((S_X4_forget_20 v f).1) ((S_X4_forget_20 v f).2) u g)) := by
  refine CT.of (own := RX4) (by decide) rfl (Nat.le_of_ble_eq_true rfl) (fun κ C hQ => ?_)
  refine j_aload_n (i := 0) C dX4_forget_0 rfl 0 rfl ?_
  refine g_20_chains C dX4_forget_1 lf_X4_9 ?_
  refine j_iconst (x := 0) C dX4_forget_4 (by decide) ?_
  refine c_S (As := [.ref (ad 21), .int 0]) (rest := []) (st1 := []) C (c_J7_fillI21 ε ad v f u g 0  ) mt_J7_fill_53178 lm_X4_25 dX4_forget_5 rfl rfl (by decide) (Nat.le_of_ble_eq_true rfl) rfl ?_
  refine j_aload_n (i := 0) C dX4_forget_8 rfl 0 rfl ?_
  refine j_iconst (x := 0) C dX4_forget_9 (by decide) ?_
  refine p_20_free C dX4_forget_10 lf_X4_22 ?_
  refine j_aload_n (i := 0) C dX4_forget_13 rfl 0 rfl ?_
  refine j_iconst (x := 0) C dX4_forget_14 (by decide) ?_
  refine p_20_asked C dX4_forget_15 lf_X4_31 ?_
  refine j_aload_n (i := 0) C dX4_forget_18 rfl 0 rfl ?_
  refine j_iconst (x := 0) C dX4_forget_19 (by decide) ?_
  refine p_20_saw C dX4_forget_20 lf_X4_34 ?_
  refine j_aload_n (i := 0) C dX4_forget_23 rfl 0 rfl ?_
  refine j_iconst (x := (-1)) C dX4_forget_24 (by decide) ?_
  refine p_20_latestWritten C dX4_forget_25 lf_X4_15 ?_
  have hs : S_X4_forget_20 v f = ((upd (upd (upd (upd v 49 0) 50 0) 51 0) 52 (-1)), (S_J7_fillI21 v f 0)) := by unfold S_X4_forget_20; rfl
  exact j_vret C hQ rfl dX4_forget_28 (dt_nvf hs)

def S_X4_begin_16 (v : Nat → Int32) (f : Nat → Nat → Int32)  : (Nat → Int32) × (Nat → Nat → Int32) :=
  ((upd ((S_X4_forget_16 v f).1) 41 255), ((S_X4_forget_16 v f).2))
set_option maxHeartbeats 1000000 in
set_option maxRecDepth 100000 in
theorem c_X4_begin_16 (ε : ET) (ad : Nat → Nat) (v : Nat → Int32) (f : Nat → Nat → Int32) (u : Nat → Int32) (g : Nat → Nat → Int32)   : CT ε yX4_begin cX4_begin 1 none 2 43 0 0 [.ref (ad 16)] (WD ε ad v f u g) (DT none (WD ε ad ((S_X4_begin_16 v f).1) ((S_X4_begin_16 v f).2) u g)) := by
  refine CT.of (own := RX4) (by decide) rfl (Nat.le_of_ble_eq_true rfl) (fun κ C hQ => ?_)
  refine j_aload_n (i := 0) C dX4_begin_0 rfl 0 rfl ?_
  refine c_V (As := []) (rest := []) (st1 := []) C (c_X4_forget_16 ε ad v f u g   ) mv_X4_forget lm_X4_19 dX4_begin_1 16 wl_16 rfl rfl rfl (by decide) (Nat.le_of_ble_eq_true rfl) rfl ?_
  refine j_aload_n (i := 0) C dX4_begin_4 rfl 0 rfl ?_
  refine j_sipush (x := 255) C dX4_begin_5 (by decide) ?_
  refine p_16_free C dX4_begin_8 lf_X4_22 ?_
  have hs : S_X4_begin_16 v f = ((upd ((S_X4_forget_16 v f).1) 41 255), ((S_X4_forget_16 v f).2)) := by unfold S_X4_begin_16; rfl
  exact j_vret C hQ rfl dX4_begin_11 (dt_nvf hs)

def S_X4_begin_18 (v : Nat → Int32) (f : Nat → Nat → Int32)  : (Nat → Int32) × (Nat → Nat → Int32) :=
  ((upd ((S_X4_forget_18 v f).1) 45 255), ((S_X4_forget_18 v f).2))
set_option maxHeartbeats 1000000 in
set_option maxRecDepth 100000 in
theorem c_X4_begin_18 (ε : ET) (ad : Nat → Nat) (v : Nat → Int32) (f : Nat → Nat → Int32) (u : Nat → Int32) (g : Nat → Nat → Int32)   : CT ε yX4_begin cX4_begin 1 none 2 43 0 0 [.ref (ad 18)] (WD ε ad v f u g) (DT none (WD ε ad ((S_X4_begin_18 v f).1) ((S_X4_begin_18 v f).2) u g)) := by
  refine CT.of (own := RX4) (by decide) rfl (Nat.le_of_ble_eq_true rfl) (fun κ C hQ => ?_)
  refine j_aload_n (i := 0) C dX4_begin_0 rfl 0 rfl ?_
  refine c_V (As := []) (rest := []) (st1 := []) C (c_X4_forget_18 ε ad v f u g   ) mv_X4_forget lm_X4_19 dX4_begin_1 18 wl_18 rfl rfl rfl (by decide) (Nat.le_of_ble_eq_true rfl) rfl ?_
  refine j_aload_n (i := 0) C dX4_begin_4 rfl 0 rfl ?_
  refine j_sipush (x := 255) C dX4_begin_5 (by decide) ?_
  refine p_18_free C dX4_begin_8 lf_X4_22 ?_
  have hs : S_X4_begin_18 v f = ((upd ((S_X4_forget_18 v f).1) 45 255), ((S_X4_forget_18 v f).2)) := by unfold S_X4_begin_18; rfl
  exact j_vret C hQ rfl dX4_begin_11 (dt_nvf hs)

def S_X4_begin_20 (v : Nat → Int32) (f : Nat → Nat → Int32)  : (Nat → Int32) × (Nat → Nat → Int32) :=
  ((upd ((S_X4_forget_20 v f).1) 49 255), ((S_X4_forget_20 v f).2))
set_option maxHeartbeats 1000000 in
set_option maxRecDepth 100000 in
theorem c_X4_begin_20 (ε : ET) (ad : Nat → Nat) (v : Nat → Int32) (f : Nat → Nat → Int32) (u : Nat → Int32) (g : Nat → Nat → Int32)   : CT ε yX4_begin cX4_begin 1 none 2 43 0 0 [.ref (ad 20)] (WD ε ad v f u g) (DT none (WD ε ad ((S_X4_begin_20 v f).1) ((S_X4_begin_20 v f).2) u g)) := by
  refine CT.of (own := RX4) (by decide) rfl (Nat.le_of_ble_eq_true rfl) (fun κ C hQ => ?_)
  refine j_aload_n (i := 0) C dX4_begin_0 rfl 0 rfl ?_
  refine c_V (As := []) (rest := []) (st1 := []) C (c_X4_forget_20 ε ad v f u g   ) mv_X4_forget lm_X4_19 dX4_begin_1 20 wl_20 rfl rfl rfl (by decide) (Nat.le_of_ble_eq_true rfl) rfl ?_
  refine j_aload_n (i := 0) C dX4_begin_4 rfl 0 rfl ?_
  refine j_sipush (x := 255) C dX4_begin_5 (by decide) ?_
  refine p_20_free C dX4_begin_8 lf_X4_22 ?_
  have hs : S_X4_begin_20 v f = ((upd ((S_X4_forget_20 v f).1) 49 255), ((S_X4_forget_20 v f).2)) := by unfold S_X4_begin_20; rfl
  exact j_vret C hQ rfl dX4_begin_11 (dt_nvf hs)

def S_X4_freeOnes_16 (v : Nat → Int32) (f : Nat → Nat → Int32)  : Int32 :=
  (S_J6_bitCount_0f7a4 v f (v 41))
set_option maxHeartbeats 1000000 in
set_option maxRecDepth 100000 in
theorem c_X4_freeOnes_16 (ε : ET) (ad : Nat → Nat) (v : Nat → Int32) (f : Nat → Nat → Int32) (u : Nat → Int32) (g : Nat → Nat → Int32)   : CT ε yX4_freeOnes cX4_freeOnes 1 (some .int) 1 20 0 0 [.ref (ad 16)] (WD ε ad v f u g) (DT (some (.int (S_X4_freeOnes_16 v f))) (WD ε ad v f u g)) := by
  refine CT.of (own := RX4) (by decide) rfl (Nat.le_of_ble_eq_true rfl) (fun κ C hQ => ?_)
  refine j_aload_n (i := 0) C dX4_freeOnes_0 rfl 0 rfl ?_
  refine g_16_free (x := (v 41)) C dX4_freeOnes_1 lf_X4_22 rfl ?_
  refine c_S (As := [.int (v 41)]) (rest := []) (st1 := [.int (S_J6_bitCount_0f7a4 v f (v 41))]) C (c_J6_bitCount_0f7a4 ε ad v f u g (v 41)  ) mt_J6_bitCount_0f7a4 lm_X4_37 dX4_freeOnes_4 rfl rfl (by decide) (Nat.le_of_ble_eq_true rfl) rfl ?_
  have hs : S_X4_freeOnes_16 v f = (S_J6_bitCount_0f7a4 v f (v 41)) := by unfold S_X4_freeOnes_16; rfl
  exact j_iret C hQ rfl dX4_freeOnes_7 (dt_i hs)

def S_X4_freeOnes_18 (v : Nat → Int32) (f : Nat → Nat → Int32)  : Int32 :=
  (S_J6_bitCount_0f7a4 v f (v 45))
set_option maxHeartbeats 1000000 in
set_option maxRecDepth 100000 in
theorem c_X4_freeOnes_18 (ε : ET) (ad : Nat → Nat) (v : Nat → Int32) (f : Nat → Nat → Int32) (u : Nat → Int32) (g : Nat → Nat → Int32)   : CT ε yX4_freeOnes cX4_freeOnes 1 (some .int) 1 20 0 0 [.ref (ad 18)] (WD ε ad v f u g) (DT (some (.int (S_X4_freeOnes_18 v f))) (WD ε ad v f u g)) := by
  refine CT.of (own := RX4) (by decide) rfl (Nat.le_of_ble_eq_true rfl) (fun κ C hQ => ?_)
  refine j_aload_n (i := 0) C dX4_freeOnes_0 rfl 0 rfl ?_
  refine g_18_free (x := (v 45)) C dX4_freeOnes_1 lf_X4_22 rfl ?_
  refine c_S (As := [.int (v 45)]) (rest := []) (st1 := [.int (S_J6_bitCount_0f7a4 v f (v 45))]) C (c_J6_bitCount_0f7a4 ε ad v f u g (v 45)  ) mt_J6_bitCount_0f7a4 lm_X4_37 dX4_freeOnes_4 rfl rfl (by decide) (Nat.le_of_ble_eq_true rfl) rfl ?_
  have hs : S_X4_freeOnes_18 v f = (S_J6_bitCount_0f7a4 v f (v 45)) := by unfold S_X4_freeOnes_18; rfl
  exact j_iret C hQ rfl dX4_freeOnes_7 (dt_i hs)

def S_X4_freeOnes_20 (v : Nat → Int32) (f : Nat → Nat → Int32)  : Int32 :=
  (S_J6_bitCount_0f7a4 v f (v 49))
set_option maxHeartbeats 1000000 in
set_option maxRecDepth 100000 in
theorem c_X4_freeOnes_20 (ε : ET) (ad : Nat → Nat) (v : Nat → Int32) (f : Nat → Nat → Int32) (u : Nat → Int32) (g : Nat → Nat → Int32)   : CT ε yX4_freeOnes cX4_freeOnes 1 (some .int) 1 20 0 0 [.ref (ad 20)] (WD ε ad v f u g) (DT (some (.int (S_X4_freeOnes_20 v f))) (WD ε ad v f u g)) := by
  refine CT.of (own := RX4) (by decide) rfl (Nat.le_of_ble_eq_true rfl) (fun κ C hQ => ?_)
  refine j_aload_n (i := 0) C dX4_freeOnes_0 rfl 0 rfl ?_
  refine g_20_free (x := (v 49)) C dX4_freeOnes_1 lf_X4_22 rfl ?_
  refine c_S (As := [.int (v 49)]) (rest := []) (st1 := [.int (S_J6_bitCount_0f7a4 v f (v 49))]) C (c_J6_bitCount_0f7a4 ε ad v f u g (v 49)  ) mt_J6_bitCount_0f7a4 lm_X4_37 dX4_freeOnes_4 rfl rfl (by decide) (Nat.le_of_ble_eq_true rfl) rfl ?_
  have hs : S_X4_freeOnes_20 v f = (S_J6_bitCount_0f7a4 v f (v 49)) := by unfold S_X4_freeOnes_20; rfl
  exact j_iret C hQ rfl dX4_freeOnes_7 (dt_i hs)

def L_X4_leastFree_16 (v : Nat → Int32) (f : Nat → Nat → Int32)  : Nat → Nat → Int32
  | 0, i => 0
  | d1 + 1, i =>
    if 8 ≤ (nI i) then (-1)
    else if ((v 41) &&& (1 <<< ((nI i) &&& 31))) = 0 then (L_X4_leastFree_16 v f d1 (i + 1))
      else (nI i)
def S_X4_leastFree_16 (v : Nat → Int32) (f : Nat → Nat → Int32)  : Int32 :=
  (L_X4_leastFree_16 v f 9 0)
set_option maxHeartbeats 1000000 in
set_option maxRecDepth 100000 in
theorem c_X4_leastFree_16 (ε : ET) (ad : Nat → Nat) (v : Nat → Int32) (f : Nat → Nat → Int32) (u : Nat → Int32) (g : Nat → Nat → Int32)   : CT ε yX4_leastFree cX4_leastFree 2 (some .int) 0 0 0 0 [.ref (ad 16)] (WD ε ad v f u g) (DT (some (.int (S_X4_leastFree_16 v f))) (WD ε ad v f u g)) := by
  refine CT.of (own := RX4) (by decide) rfl (Nat.le_of_ble_eq_true rfl) (fun κ C hQ => ?_)
  refine j_iconst (x := 0) C dX4_leastFree_0 (by decide) ?_
  refine j_istore_n (i := 1) (lv' := [(1, .int 0), (0, .ref (ad 16))]) C dX4_leastFree_1 rfl (by decide) rfl ?_
  have hw1 : ∀ (d1 : Nat) (i : Nat), (i ≤ 8) → 8 - i < d1 → L_X4_leastFree_16 v f d1 i = S_X4_leastFree_16 v f → JW κ 0 0 (WD ε ad v f u g) 2 [(1, .int (nI i)), (0, .ref (ad 16))] [] := by
    intro d1
    induction d1 with
    | zero => intro i hi hm9 _; exact absurd hm9 (Nat.not_lt_zero _)
    | succ d1 ih1 =>
      intro i hi hm1 hS1
      have lt8 : ¬ (8 : Int32) ≤ (nI i) → i < 8 := fun h => by rcases Nat.lt_or_ge i 8 with q | q; exact q; exact absurd (nI_le (a := 8) (b := i) q (by omega)) h
      refine j_iload_n (i := 1) C dX4_leastFree_2 rfl 0 rfl ?_
      refine j_bipush (x := 8) C dX4_leastFree_3 (by decide) ?_
      refine j_icmp_ge (tgt := 27) C dX4_leastFree_5 (by decide) (fun c_1 => ?_) (fun c_1 => ?_)
      · refine j_iconst (x := (-1)) C dX4_leastFree_27 (by decide) ?_
        have hs : S_X4_leastFree_16 v f = (-1) := by rw [← hS1, L_X4_leastFree_16]; rw [if_pos c_1]
        exact j_iret C hQ rfl dX4_leastFree_28 (dt_i hs)
      · refine j_aload_n (i := 0) C dX4_leastFree_8 rfl 1 rfl ?_
        refine g_16_free (x := (v 41)) C dX4_leastFree_9 lf_X4_22 rfl ?_
        refine j_iconst (x := 1) C dX4_leastFree_12 (by decide) ?_
        refine j_iload_n (i := 1) C dX4_leastFree_13 rfl 0 rfl ?_
        refine j_ishl C dX4_leastFree_14 ?_
        refine j_iand C dX4_leastFree_15 ?_
        refine j_if_eq (tgt := 21) C dX4_leastFree_16 (by decide) (fun c_2 => ?_) (fun c_2 => ?_)
        · refine j_iinc (y := (nI (i + 1))) (lv' := [(1, .int (nI (i + 1))), (0, .ref (ad 16))]) C dX4_leastFree_21 0 rfl (nI_1 _) (by decide) rfl ?_
          refine j_goto (tgt := 2) C dX4_leastFree_24 (by decide) ?_
          refine j_lv (lv' := [(1, .int (nI (i + 1))), (0, .ref (ad 16))]) [0, 1] rfl ?_
          exact ih1 (i + 1) (by have := lt8 c_1; omega) (by have := lt8 c_1; omega) (by rw [← hS1, L_X4_leastFree_16]; rw [if_neg c_1, if_pos c_2])
        · refine j_iload_n (i := 1) C dX4_leastFree_19 rfl 0 rfl ?_
          have hs : S_X4_leastFree_16 v f = (nI i) := by rw [← hS1, L_X4_leastFree_16]; rw [if_neg c_1, if_neg c_2]
          exact j_iret C hQ rfl dX4_leastFree_20 (dt_i hs)
  exact hw1 9 0 (by omega) (by omega) rfl

def L_X4_leastFree_18 (v : Nat → Int32) (f : Nat → Nat → Int32)  : Nat → Nat → Int32
  | 0, i => 0
  | d1 + 1, i =>
    if 8 ≤ (nI i) then (-1)
    else if ((v 45) &&& (1 <<< ((nI i) &&& 31))) = 0 then (L_X4_leastFree_18 v f d1 (i + 1))
      else (nI i)
def S_X4_leastFree_18 (v : Nat → Int32) (f : Nat → Nat → Int32)  : Int32 :=
  (L_X4_leastFree_18 v f 9 0)
set_option maxHeartbeats 1000000 in
set_option maxRecDepth 100000 in
theorem c_X4_leastFree_18 (ε : ET) (ad : Nat → Nat) (v : Nat → Int32) (f : Nat → Nat → Int32) (u : Nat → Int32) (g : Nat → Nat → Int32)   : CT ε yX4_leastFree cX4_leastFree 2 (some .int) 0 0 0 0 [.ref (ad 18)] (WD ε ad v f u g) (DT (some (.int (S_X4_leastFree_18 v f))) (WD ε ad v f u g)) := by
  refine CT.of (own := RX4) (by decide) rfl (Nat.le_of_ble_eq_true rfl) (fun κ C hQ => ?_)
  refine j_iconst (x := 0) C dX4_leastFree_0 (by decide) ?_
  refine j_istore_n (i := 1) (lv' := [(1, .int 0), (0, .ref (ad 18))]) C dX4_leastFree_1 rfl (by decide) rfl ?_
  have hw1 : ∀ (d1 : Nat) (i : Nat), (i ≤ 8) → 8 - i < d1 → L_X4_leastFree_18 v f d1 i = S_X4_leastFree_18 v f → JW κ 0 0 (WD ε ad v f u g) 2 [(1, .int (nI i)), (0, .ref (ad 18))] [] := by
    intro d1
    induction d1 with
    | zero => intro i hi hm9 _; exact absurd hm9 (Nat.not_lt_zero _)
    | succ d1 ih1 =>
      intro i hi hm1 hS1
      have lt8 : ¬ (8 : Int32) ≤ (nI i) → i < 8 := fun h => by rcases Nat.lt_or_ge i 8 with q | q; exact q; exact absurd (nI_le (a := 8) (b := i) q (by omega)) h
      refine j_iload_n (i := 1) C dX4_leastFree_2 rfl 0 rfl ?_
      refine j_bipush (x := 8) C dX4_leastFree_3 (by decide) ?_
      refine j_icmp_ge (tgt := 27) C dX4_leastFree_5 (by decide) (fun c_1 => ?_) (fun c_1 => ?_)
      · refine j_iconst (x := (-1)) C dX4_leastFree_27 (by decide) ?_
        have hs : S_X4_leastFree_18 v f = (-1) := by rw [← hS1, L_X4_leastFree_18]; rw [if_pos c_1]
        exact j_iret C hQ rfl dX4_leastFree_28 (dt_i hs)
      · refine j_aload_n (i := 0) C dX4_leastFree_8 rfl 1 rfl ?_
        refine g_18_free (x := (v 45)) C dX4_leastFree_9 lf_X4_22 rfl ?_
        refine j_iconst (x := 1) C dX4_leastFree_12 (by decide) ?_
        refine j_iload_n (i := 1) C dX4_leastFree_13 rfl 0 rfl ?_
        refine j_ishl C dX4_leastFree_14 ?_
        refine j_iand C dX4_leastFree_15 ?_
        refine j_if_eq (tgt := 21) C dX4_leastFree_16 (by decide) (fun c_2 => ?_) (fun c_2 => ?_)
        · refine j_iinc (y := (nI (i + 1))) (lv' := [(1, .int (nI (i + 1))), (0, .ref (ad 18))]) C dX4_leastFree_21 0 rfl (nI_1 _) (by decide) rfl ?_
          refine j_goto (tgt := 2) C dX4_leastFree_24 (by decide) ?_
          refine j_lv (lv' := [(1, .int (nI (i + 1))), (0, .ref (ad 18))]) [0, 1] rfl ?_
          exact ih1 (i + 1) (by have := lt8 c_1; omega) (by have := lt8 c_1; omega) (by rw [← hS1, L_X4_leastFree_18]; rw [if_neg c_1, if_pos c_2])
        · refine j_iload_n (i := 1) C dX4_leastFree_19 rfl 0 rfl ?_
          have hs : S_X4_leastFree_18 v f = (nI i) := by rw [← hS1, L_X4_leastFree_18]; rw [if_neg c_1, if_neg c_2]
          exact j_iret C hQ rfl dX4_leastFree_20 (dt_i hs)
  exact hw1 9 0 (by omega) (by omega) rfl

def L_X4_leastFree_20 (v : Nat → Int32) (f : Nat → Nat → Int32)  : Nat → Nat → Int32
  | 0, i => 0
  | d1 + 1, i =>
    if 8 ≤ (nI i) then (-1)
    else if ((v 49) &&& (1 <<< ((nI i) &&& 31))) = 0 then (L_X4_leastFree_20 v f d1 (i + 1))
      else (nI i)
def S_X4_leastFree_20 (v : Nat → Int32) (f : Nat → Nat → Int32)  : Int32 :=
  (L_X4_leastFree_20 v f 9 0)
set_option maxHeartbeats 1000000 in
set_option maxRecDepth 100000 in
theorem c_X4_leastFree_20 (ε : ET) (ad : Nat → Nat) (v : Nat → Int32) (f : Nat → Nat → Int32) (u : Nat → Int32) (g : Nat → Nat → Int32)   : CT ε yX4_leastFree cX4_leastFree 2 (some .int) 0 0 0 0 [.ref (ad 20)] (WD ε ad v f u g) (DT (some (.int (S_X4_leastFree_20 v f))) (WD ε ad v f u g)) := by
  refine CT.of (own := RX4) (by decide) rfl (Nat.le_of_ble_eq_true rfl) (fun κ C hQ => ?_)
  refine j_iconst (x := 0) C dX4_leastFree_0 (by decide) ?_
  refine j_istore_n (i := 1) (lv' := [(1, .int 0), (0, .ref (ad 20))]) C dX4_leastFree_1 rfl (by decide) rfl ?_
  have hw1 : ∀ (d1 : Nat) (i : Nat), (i ≤ 8) → 8 - i < d1 → L_X4_leastFree_20 v f d1 i = S_X4_leastFree_20 v f → JW κ 0 0 (WD ε ad v f u g) 2 [(1, .int (nI i)), (0, .ref (ad 20))] [] := by
    intro d1
    induction d1 with
    | zero => intro i hi hm9 _; exact absurd hm9 (Nat.not_lt_zero _)
    | succ d1 ih1 =>
      intro i hi hm1 hS1
      have lt8 : ¬ (8 : Int32) ≤ (nI i) → i < 8 := fun h => by rcases Nat.lt_or_ge i 8 with q | q; exact q; exact absurd (nI_le (a := 8) (b := i) q (by omega)) h
      refine j_iload_n (i := 1) C dX4_leastFree_2 rfl 0 rfl ?_
      refine j_bipush (x := 8) C dX4_leastFree_3 (by decide) ?_
      refine j_icmp_ge (tgt := 27) C dX4_leastFree_5 (by decide) (fun c_1 => ?_) (fun c_1 => ?_)
      · refine j_iconst (x := (-1)) C dX4_leastFree_27 (by decide) ?_
        have hs : S_X4_leastFree_20 v f = (-1) := by rw [← hS1, L_X4_leastFree_20]; rw [if_pos c_1]
        exact j_iret C hQ rfl dX4_leastFree_28 (dt_i hs)
      · refine j_aload_n (i := 0) C dX4_leastFree_8 rfl 1 rfl ?_
        refine g_20_free (x := (v 49)) C dX4_leastFree_9 lf_X4_22 rfl ?_
        refine j_iconst (x := 1) C dX4_leastFree_12 (by decide) ?_
        refine j_iload_n (i := 1) C dX4_leastFree_13 rfl 0 rfl ?_
        refine j_ishl C dX4_leastFree_14 ?_
        refine j_iand C dX4_leastFree_15 ?_
        refine j_if_eq (tgt := 21) C dX4_leastFree_16 (by decide) (fun c_2 => ?_) (fun c_2 => ?_)
        · refine j_iinc (y := (nI (i + 1))) (lv' := [(1, .int (nI (i + 1))), (0, .ref (ad 20))]) C dX4_leastFree_21 0 rfl (nI_1 _) (by decide) rfl ?_
          refine j_goto (tgt := 2) C dX4_leastFree_24 (by decide) ?_
          refine j_lv (lv' := [(1, .int (nI (i + 1))), (0, .ref (ad 20))]) [0, 1] rfl ?_
          exact ih1 (i + 1) (by have := lt8 c_1; omega) (by have := lt8 c_1; omega) (by rw [← hS1, L_X4_leastFree_20]; rw [if_neg c_1, if_pos c_2])
        · refine j_iload_n (i := 1) C dX4_leastFree_19 rfl 0 rfl ?_
          have hs : S_X4_leastFree_20 v f = (nI i) := by rw [← hS1, L_X4_leastFree_20]; rw [if_neg c_1, if_neg c_2]
          exact j_iret C hQ rfl dX4_leastFree_20 (dt_i hs)
  exact hw1 9 0 (by omega) (by omega) rfl

def S_X4_lend_16 (v : Nat → Int32) (f : Nat → Nat → Int32) (a : Int32) (b : Int32) : (Nat → Int32) × (Nat → Nat → Int32) :=
  if a < 0 then (v, f)
  else if 8 ≤ a then (v, f)
    else if b < 0 then (v, f)
      else ((upd v 41 ((v 41) &&& ((1 <<< (b &&& 31)) ^^^ (-1)))), (va_up f 17 (upd (f 17) (a).toNatClampNeg (((f 17) (a).toNatClampNeg) ||| (1 <<< (b &&& 31))))))
set_option maxHeartbeats 1000000 in
set_option maxRecDepth 100000 in
theorem c_X4_lend_16 (ε : ET) (ad : Nat → Nat) (v : Nat → Int32) (f : Nat → Nat → Int32) (u : Nat → Int32) (g : Nat → Nat → Int32) (a : Int32) (b : Int32)  : CT ε yX4_lend cX4_lend 3 none 0 0 0 0 [.ref (ad 16), .int a, .int b] (WD ε ad v f u g) (DT none (WD ε ad ((S_X4_lend_16 v f a b).1) ((S_X4_lend_16 v f a b).2) u g)) := by
  refine CT.of (own := RX4) (by decide) rfl (Nat.le_of_ble_eq_true rfl) (fun κ C hQ => ?_)
  refine j_iload_n (i := 1) C dX4_lend_0 rfl 1 rfl ?_
  refine j_if_lt (tgt := 43) C dX4_lend_1 (by decide) (fun c_1 => ?_) (fun c_1 => ?_)
  · have hs : S_X4_lend_16 v f a b = (v, f) := by unfold S_X4_lend_16; rw [if_pos c_1]
    exact j_vret C hQ rfl dX4_lend_43 (dt_nvf hs)
  · refine j_iload_n (i := 1) C dX4_lend_4 rfl 1 rfl ?_
    refine j_aload_n (i := 0) C dX4_lend_5 rfl 0 rfl ?_
    refine g_16_chains C dX4_lend_6 lf_X4_9 ?_
    refine an_17 C dX4_lend_9 ?_
    refine j_icmp_ge (tgt := 43) C dX4_lend_10 (by decide) (fun c_2 => ?_) (fun c_2 => ?_)
    · have hs : S_X4_lend_16 v f a b = (v, f) := by unfold S_X4_lend_16; rw [if_neg c_1, if_pos c_2]
      exact j_vret C hQ rfl dX4_lend_43 (dt_nvf hs)
    · refine j_iload_n (i := 2) C dX4_lend_13 rfl 2 rfl ?_
      refine j_if_lt (tgt := 43) C dX4_lend_14 (by decide) (fun c_3 => ?_) (fun c_3 => ?_)
      · have hs : S_X4_lend_16 v f a b = (v, f) := by unfold S_X4_lend_16; rw [if_neg c_1, if_neg c_2, if_pos c_3]
        exact j_vret C hQ rfl dX4_lend_43 (dt_nvf hs)
      · refine j_aload_n (i := 0) C dX4_lend_17 rfl 0 rfl ?_
        refine g_16_chains C dX4_lend_18 lf_X4_9 ?_
        refine j_iload_n (i := 1) C dX4_lend_21 rfl 1 rfl ?_
        refine j_dup2 C dX4_lend_22 rfl rfl ?_
        refine al_17 (F := (f 17)) C dX4_lend_23 (vp_i0 c_1 c_2 rfl) rfl ?_
        refine j_iconst (x := 1) C dX4_lend_24 (by decide) ?_
        refine j_iload_n (i := 2) C dX4_lend_25 rfl 2 rfl ?_
        refine j_ishl C dX4_lend_26 ?_
        refine j_ior C dX4_lend_27 ?_
        refine as_17 (F2 := (f 17)) (F := (upd (f 17) (a).toNatClampNeg (((f 17) (a).toNatClampNeg) ||| (1 <<< (b &&& 31))))) C dX4_lend_28 (vp_i0 c_1 c_2 rfl) rfl rfl ?_
        refine j_aload_n (i := 0) C dX4_lend_29 rfl 0 rfl ?_
        refine j_dup C dX4_lend_30 rfl ?_
        refine g_16_free (x := (v 41)) C dX4_lend_31 lf_X4_22 rfl ?_
        refine j_iconst (x := 1) C dX4_lend_34 (by decide) ?_
        refine j_iload_n (i := 2) C dX4_lend_35 rfl 2 rfl ?_
        refine j_ishl C dX4_lend_36 ?_
        refine j_iconst (x := (-1)) C dX4_lend_37 (by decide) ?_
        refine j_ixor C dX4_lend_38 ?_
        refine j_iand C dX4_lend_39 ?_
        refine p_16_free C dX4_lend_40 lf_X4_22 ?_
        have hs : S_X4_lend_16 v f a b = ((upd v 41 ((v 41) &&& ((1 <<< (b &&& 31)) ^^^ (-1)))), (va_up f 17 (upd (f 17) (a).toNatClampNeg (((f 17) (a).toNatClampNeg) ||| (1 <<< (b &&& 31)))))) := by unfold S_X4_lend_16; rw [if_neg c_1, if_neg c_2, if_neg c_3]
        exact j_vret C hQ rfl dX4_lend_43 (dt_nvf hs)

def S_X4_lend_18 (v : Nat → Int32) (f : Nat → Nat → Int32) (a : Int32) (b : Int32) : (Nat → Int32) × (Nat → Nat → Int32) :=
  if a < 0 then (v, f)
  else if 8 ≤ a then (v, f)
    else if b < 0 then (v, f)
      else ((upd v 45 ((v 45) &&& ((1 <<< (b &&& 31)) ^^^ (-1)))), (va_up f 19 (upd (f 19) (a).toNatClampNeg (((f 19) (a).toNatClampNeg) ||| (1 <<< (b &&& 31))))))
set_option maxHeartbeats 1000000 in
set_option maxRecDepth 100000 in
theorem c_X4_lend_18 (ε : ET) (ad : Nat → Nat) (v : Nat → Int32) (f : Nat → Nat → Int32) (u : Nat → Int32) (g : Nat → Nat → Int32) (a : Int32) (b : Int32)  : CT ε yX4_lend cX4_lend 3 none 0 0 0 0 [.ref (ad 18), .int a, .int b] (WD ε ad v f u g) (DT none (WD ε ad ((S_X4_lend_18 v f a b).1) ((S_X4_lend_18 v f a b).2) u g)) := by
  refine CT.of (own := RX4) (by decide) rfl (Nat.le_of_ble_eq_true rfl) (fun κ C hQ => ?_)
  refine j_iload_n (i := 1) C dX4_lend_0 rfl 1 rfl ?_
  refine j_if_lt (tgt := 43) C dX4_lend_1 (by decide) (fun c_1 => ?_) (fun c_1 => ?_)
  · have hs : S_X4_lend_18 v f a b = (v, f) := by unfold S_X4_lend_18; rw [if_pos c_1]
    exact j_vret C hQ rfl dX4_lend_43 (dt_nvf hs)
  · refine j_iload_n (i := 1) C dX4_lend_4 rfl 1 rfl ?_
    refine j_aload_n (i := 0) C dX4_lend_5 rfl 0 rfl ?_
    refine g_18_chains C dX4_lend_6 lf_X4_9 ?_
    refine an_19 C dX4_lend_9 ?_
    refine j_icmp_ge (tgt := 43) C dX4_lend_10 (by decide) (fun c_2 => ?_) (fun c_2 => ?_)
    · have hs : S_X4_lend_18 v f a b = (v, f) := by unfold S_X4_lend_18; rw [if_neg c_1, if_pos c_2]
      exact j_vret C hQ rfl dX4_lend_43 (dt_nvf hs)
    · refine j_iload_n (i := 2) C dX4_lend_13 rfl 2 rfl ?_
      refine j_if_lt (tgt := 43) C dX4_lend_14 (by decide) (fun c_3 => ?_) (fun c_3 => ?_)
      · have hs : S_X4_lend_18 v f a b = (v, f) := by unfold S_X4_lend_18; rw [if_neg c_1, if_neg c_2, if_pos c_3]
        exact j_vret C hQ rfl dX4_lend_43 (dt_nvf hs)
      · refine j_aload_n (i := 0) C dX4_lend_17 rfl 0 rfl ?_
        refine g_18_chains C dX4_lend_18 lf_X4_9 ?_
        refine j_iload_n (i := 1) C dX4_lend_21 rfl 1 rfl ?_
        refine j_dup2 C dX4_lend_22 rfl rfl ?_
        refine al_19 (F := (f 19)) C dX4_lend_23 (vp_i0 c_1 c_2 rfl) rfl ?_
        refine j_iconst (x := 1) C dX4_lend_24 (by decide) ?_
        refine j_iload_n (i := 2) C dX4_lend_25 rfl 2 rfl ?_
        refine j_ishl C dX4_lend_26 ?_
        refine j_ior C dX4_lend_27 ?_
        refine as_19 (F2 := (f 19)) (F := (upd (f 19) (a).toNatClampNeg (((f 19) (a).toNatClampNeg) ||| (1 <<< (b &&& 31))))) C dX4_lend_28 (vp_i0 c_1 c_2 rfl) rfl rfl ?_
        refine j_aload_n (i := 0) C dX4_lend_29 rfl 0 rfl ?_
        refine j_dup C dX4_lend_30 rfl ?_
        refine g_18_free (x := (v 45)) C dX4_lend_31 lf_X4_22 rfl ?_
        refine j_iconst (x := 1) C dX4_lend_34 (by decide) ?_
        refine j_iload_n (i := 2) C dX4_lend_35 rfl 2 rfl ?_
        refine j_ishl C dX4_lend_36 ?_
        refine j_iconst (x := (-1)) C dX4_lend_37 (by decide) ?_
        refine j_ixor C dX4_lend_38 ?_
        refine j_iand C dX4_lend_39 ?_
        refine p_18_free C dX4_lend_40 lf_X4_22 ?_
        have hs : S_X4_lend_18 v f a b = ((upd v 45 ((v 45) &&& ((1 <<< (b &&& 31)) ^^^ (-1)))), (va_up f 19 (upd (f 19) (a).toNatClampNeg (((f 19) (a).toNatClampNeg) ||| (1 <<< (b &&& 31)))))) := by unfold S_X4_lend_18; rw [if_neg c_1, if_neg c_2, if_neg c_3]
        exact j_vret C hQ rfl dX4_lend_43 (dt_nvf hs)

def S_X4_lend_20 (v : Nat → Int32) (f : Nat → Nat → Int32) (a : Int32) (b : Int32) : (Nat → Int32) × (Nat → Nat → Int32) :=
  if a < 0 then (v, f)
  else if 8 ≤ a then (v, f)
    else if b < 0 then (v, f)
      else ((upd v 49 ((v 49) &&& ((1 <<< (b &&& 31)) ^^^ (-1)))), (va_up f 21 (upd (f 21) (a).toNatClampNeg (((f 21) (a).toNatClampNeg) ||| (1 <<< (b &&& 31))))))
set_option maxHeartbeats 1000000 in
set_option maxRecDepth 100000 in
theorem c_X4_lend_20 (ε : ET) (ad : Nat → Nat) (v : Nat → Int32) (f : Nat → Nat → Int32) (u : Nat → Int32) (g : Nat → Nat → Int32) (a : Int32) (b : Int32)  : CT ε yX4_lend cX4_lend 3 none 0 0 0 0 [.ref (ad 20), .int a, .int b] (WD ε ad v f u g) (DT none (WD ε ad ((S_X4_lend_20 v f a b).1) ((S_X4_lend_20 v f a b).2) u g)) := by
  refine CT.of (own := RX4) (by decide) rfl (Nat.le_of_ble_eq_true rfl) (fun κ C hQ => ?_)
  refine j_iload_n (i := 1) C dX4_lend_0 rfl 1 rfl ?_
  refine j_if_lt (tgt := 43) C dX4_lend_1 (by decide) (fun c_1 => ?_) (fun c_1 => ?_)
  · have hs : S_X4_lend_20 v f a b = (v, f) := by unfold S_X4_lend_20; rw [if_pos c_1]
    exact j_vret C hQ rfl dX4_lend_43 (dt_nvf hs)
  · refine j_iload_n (i := 1) C dX4_lend_4 rfl 1 rfl ?_
    refine j_aload_n (i := 0) C dX4_lend_5 rfl 0 rfl ?_
    refine g_20_chains C dX4_lend_6 lf_X4_9 ?_
    refine an_21 C dX4_lend_9 ?_
    refine j_icmp_ge (tgt := 43) C dX4_lend_10 (by decide) (fun c_2 => ?_) (fun c_2 => ?_)
    · have hs : S_X4_lend_20 v f a b = (v, f) := by unfold S_X4_lend_20; rw [if_neg c_1, if_pos c_2]
      exact j_vret C hQ rfl dX4_lend_43 (dt_nvf hs)
    · refine j_iload_n (i := 2) C dX4_lend_13 rfl 2 rfl ?_
      refine j_if_lt (tgt := 43) C dX4_lend_14 (by decide) (fun c_3 => ?_) (fun c_3 => ?_)
      · have hs : S_X4_lend_20 v f a b = (v, f) := by unfold S_X4_lend_20; rw [if_neg c_1, if_neg c_2, if_pos c_3]
        exact j_vret C hQ rfl dX4_lend_43 (dt_nvf hs)
      · refine j_aload_n (i := 0) C dX4_lend_17 rfl 0 rfl ?_
        refine g_20_chains C dX4_lend_18 lf_X4_9 ?_
        refine j_iload_n (i := 1) C dX4_lend_21 rfl 1 rfl ?_
        refine j_dup2 C dX4_lend_22 rfl rfl ?_
        refine al_21 (F := (f 21)) C dX4_lend_23 (vp_i0 c_1 c_2 rfl) rfl ?_
        refine j_iconst (x := 1) C dX4_lend_24 (by decide) ?_
        refine j_iload_n (i := 2) C dX4_lend_25 rfl 2 rfl ?_
        refine j_ishl C dX4_lend_26 ?_
        refine j_ior C dX4_lend_27 ?_
        refine as_21 (F2 := (f 21)) (F := (upd (f 21) (a).toNatClampNeg (((f 21) (a).toNatClampNeg) ||| (1 <<< (b &&& 31))))) C dX4_lend_28 (vp_i0 c_1 c_2 rfl) rfl rfl ?_
        refine j_aload_n (i := 0) C dX4_lend_29 rfl 0 rfl ?_
        refine j_dup C dX4_lend_30 rfl ?_
        refine g_20_free (x := (v 49)) C dX4_lend_31 lf_X4_22 rfl ?_
        refine j_iconst (x := 1) C dX4_lend_34 (by decide) ?_
        refine j_iload_n (i := 2) C dX4_lend_35 rfl 2 rfl ?_
        refine j_ishl C dX4_lend_36 ?_
        refine j_iconst (x := (-1)) C dX4_lend_37 (by decide) ?_
        refine j_ixor C dX4_lend_38 ?_
        refine j_iand C dX4_lend_39 ?_
        refine p_20_free C dX4_lend_40 lf_X4_22 ?_
        have hs : S_X4_lend_20 v f a b = ((upd v 49 ((v 49) &&& ((1 <<< (b &&& 31)) ^^^ (-1)))), (va_up f 21 (upd (f 21) (a).toNatClampNeg (((f 21) (a).toNatClampNeg) ||| (1 <<< (b &&& 31)))))) := by unfold S_X4_lend_20; rw [if_neg c_1, if_neg c_2, if_neg c_3]
        exact j_vret C hQ rfl dX4_lend_43 (dt_nvf hs)

def Q_X4_lendFirst_16_1 (v : Nat → Int32) (f : Nat → Nat → Int32) : (Nat → Int32) := ((S_X4_lend_16 v f (S_X4_leastFree_16 v f) (S_X4_leastFree_16 v f)).1)
def Q_X4_lendFirst_16_2 (v : Nat → Int32) (f : Nat → Nat → Int32) : (Nat → Nat → Int32) := ((S_X4_lend_16 v f (S_X4_leastFree_16 v f) (S_X4_leastFree_16 v f)).2)
def S_X4_lendFirst_16 (v : Nat → Int32) (f : Nat → Nat → Int32)  : Int32 × (Nat → Int32) × (Nat → Nat → Int32) :=
  ((S_X4_leastFree_16 v f), (Q_X4_lendFirst_16_1 v f), (Q_X4_lendFirst_16_2 v f))
set_option maxHeartbeats 1000000 in
set_option maxRecDepth 100000 in
theorem c_X4_lendFirst_16 (ε : ET) (ad : Nat → Nat) (v : Nat → Int32) (f : Nat → Nat → Int32) (u : Nat → Int32) (g : Nat → Nat → Int32)   : CT ε yX4_lendFirst cX4_lendFirst 2 (some .int) 1 22 0 0 [.ref (ad 16)] (WD ε ad v f u g) (DT (some (.int ((S_X4_lendFirst_16 v f).1))) (WD ε ad ((S_X4_lendFirst_16 v f).2.1) ((S_X4_lendFirst_16 v f).2.2) u g)) := by
  refine CT.of (own := RX4) (by decide) rfl (Nat.le_of_ble_eq_true rfl) (fun κ C hQ => ?_)
  refine j_aload_n (i := 0) C dX4_lendFirst_0 rfl 0 rfl ?_
  refine c_V (As := []) (rest := []) (st1 := [.int (S_X4_leastFree_16 v f)]) C (c_X4_leastFree_16 ε ad v f u g   ) mv_X4_leastFree lm_X4_43 dX4_lendFirst_1 16 wl_16 rfl rfl rfl (by decide) (Nat.le_of_ble_eq_true rfl) rfl ?_
  refine j_istore_n (i := 1) (lv' := [(1, .int (S_X4_leastFree_16 v f)), (0, .ref (ad 16))]) C dX4_lendFirst_4 rfl (by decide) rfl ?_
  refine j_aload_n (i := 0) C dX4_lendFirst_5 rfl 1 rfl ?_
  refine j_iload_n (i := 1) C dX4_lendFirst_6 rfl 0 rfl ?_
  refine j_iload_n (i := 1) C dX4_lendFirst_7 rfl 0 rfl ?_
  refine c_V (As := [.int (S_X4_leastFree_16 v f), .int (S_X4_leastFree_16 v f)]) (rest := []) (st1 := []) (ω1 := (WD ε ad (Q_X4_lendFirst_16_1 v f) (Q_X4_lendFirst_16_2 v f) u g)) C (c_X4_lend_16 ε ad v f u g (S_X4_leastFree_16 v f) (S_X4_leastFree_16 v f)  ) mv_X4_lend lm_X4_47 dX4_lendFirst_8 16 wl_16 rfl rfl rfl (by decide) (Nat.le_of_ble_eq_true rfl) rfl ?_
  refine j_iload_n (i := 1) C dX4_lendFirst_11 rfl 0 rfl ?_
  have hs : S_X4_lendFirst_16 v f = ((S_X4_leastFree_16 v f), (Q_X4_lendFirst_16_1 v f), (Q_X4_lendFirst_16_2 v f)) := by unfold S_X4_lendFirst_16; rfl
  exact j_iret C hQ rfl dX4_lendFirst_12 (dt_ivf hs)

def Q_X4_lendFirst_18_1 (v : Nat → Int32) (f : Nat → Nat → Int32) : (Nat → Int32) := ((S_X4_lend_18 v f (S_X4_leastFree_18 v f) (S_X4_leastFree_18 v f)).1)
def Q_X4_lendFirst_18_2 (v : Nat → Int32) (f : Nat → Nat → Int32) : (Nat → Nat → Int32) := ((S_X4_lend_18 v f (S_X4_leastFree_18 v f) (S_X4_leastFree_18 v f)).2)
def S_X4_lendFirst_18 (v : Nat → Int32) (f : Nat → Nat → Int32)  : Int32 × (Nat → Int32) × (Nat → Nat → Int32) :=
  ((S_X4_leastFree_18 v f), (Q_X4_lendFirst_18_1 v f), (Q_X4_lendFirst_18_2 v f))
set_option maxHeartbeats 1000000 in
set_option maxRecDepth 100000 in
theorem c_X4_lendFirst_18 (ε : ET) (ad : Nat → Nat) (v : Nat → Int32) (f : Nat → Nat → Int32) (u : Nat → Int32) (g : Nat → Nat → Int32)   : CT ε yX4_lendFirst cX4_lendFirst 2 (some .int) 1 22 0 0 [.ref (ad 18)] (WD ε ad v f u g) (DT (some (.int ((S_X4_lendFirst_18 v f).1))) (WD ε ad ((S_X4_lendFirst_18 v f).2.1) ((S_X4_lendFirst_18 v f).2.2) u g)) := by
  refine CT.of (own := RX4) (by decide) rfl (Nat.le_of_ble_eq_true rfl) (fun κ C hQ => ?_)
  refine j_aload_n (i := 0) C dX4_lendFirst_0 rfl 0 rfl ?_
  refine c_V (As := []) (rest := []) (st1 := [.int (S_X4_leastFree_18 v f)]) C (c_X4_leastFree_18 ε ad v f u g   ) mv_X4_leastFree lm_X4_43 dX4_lendFirst_1 18 wl_18 rfl rfl rfl (by decide) (Nat.le_of_ble_eq_true rfl) rfl ?_
  refine j_istore_n (i := 1) (lv' := [(1, .int (S_X4_leastFree_18 v f)), (0, .ref (ad 18))]) C dX4_lendFirst_4 rfl (by decide) rfl ?_
  refine j_aload_n (i := 0) C dX4_lendFirst_5 rfl 1 rfl ?_
  refine j_iload_n (i := 1) C dX4_lendFirst_6 rfl 0 rfl ?_
  refine j_iload_n (i := 1) C dX4_lendFirst_7 rfl 0 rfl ?_
  refine c_V (As := [.int (S_X4_leastFree_18 v f), .int (S_X4_leastFree_18 v f)]) (rest := []) (st1 := []) (ω1 := (WD ε ad (Q_X4_lendFirst_18_1 v f) (Q_X4_lendFirst_18_2 v f) u g)) C (c_X4_lend_18 ε ad v f u g (S_X4_leastFree_18 v f) (S_X4_leastFree_18 v f)  ) mv_X4_lend lm_X4_47 dX4_lendFirst_8 18 wl_18 rfl rfl rfl (by decide) (Nat.le_of_ble_eq_true rfl) rfl ?_
  refine j_iload_n (i := 1) C dX4_lendFirst_11 rfl 0 rfl ?_
  have hs : S_X4_lendFirst_18 v f = ((S_X4_leastFree_18 v f), (Q_X4_lendFirst_18_1 v f), (Q_X4_lendFirst_18_2 v f)) := by unfold S_X4_lendFirst_18; rfl
  exact j_iret C hQ rfl dX4_lendFirst_12 (dt_ivf hs)

def Q_X4_lendFirst_20_1 (v : Nat → Int32) (f : Nat → Nat → Int32) : (Nat → Int32) := ((S_X4_lend_20 v f (S_X4_leastFree_20 v f) (S_X4_leastFree_20 v f)).1)
def Q_X4_lendFirst_20_2 (v : Nat → Int32) (f : Nat → Nat → Int32) : (Nat → Nat → Int32) := ((S_X4_lend_20 v f (S_X4_leastFree_20 v f) (S_X4_leastFree_20 v f)).2)
def S_X4_lendFirst_20 (v : Nat → Int32) (f : Nat → Nat → Int32)  : Int32 × (Nat → Int32) × (Nat → Nat → Int32) :=
  ((S_X4_leastFree_20 v f), (Q_X4_lendFirst_20_1 v f), (Q_X4_lendFirst_20_2 v f))
set_option maxHeartbeats 1000000 in
set_option maxRecDepth 100000 in
theorem c_X4_lendFirst_20 (ε : ET) (ad : Nat → Nat) (v : Nat → Int32) (f : Nat → Nat → Int32) (u : Nat → Int32) (g : Nat → Nat → Int32)   : CT ε yX4_lendFirst cX4_lendFirst 2 (some .int) 1 22 0 0 [.ref (ad 20)] (WD ε ad v f u g) (DT (some (.int ((S_X4_lendFirst_20 v f).1))) (WD ε ad ((S_X4_lendFirst_20 v f).2.1) ((S_X4_lendFirst_20 v f).2.2) u g)) := by
  refine CT.of (own := RX4) (by decide) rfl (Nat.le_of_ble_eq_true rfl) (fun κ C hQ => ?_)
  refine j_aload_n (i := 0) C dX4_lendFirst_0 rfl 0 rfl ?_
  refine c_V (As := []) (rest := []) (st1 := [.int (S_X4_leastFree_20 v f)]) C (c_X4_leastFree_20 ε ad v f u g   ) mv_X4_leastFree lm_X4_43 dX4_lendFirst_1 20 wl_20 rfl rfl rfl (by decide) (Nat.le_of_ble_eq_true rfl) rfl ?_
  refine j_istore_n (i := 1) (lv' := [(1, .int (S_X4_leastFree_20 v f)), (0, .ref (ad 20))]) C dX4_lendFirst_4 rfl (by decide) rfl ?_
  refine j_aload_n (i := 0) C dX4_lendFirst_5 rfl 1 rfl ?_
  refine j_iload_n (i := 1) C dX4_lendFirst_6 rfl 0 rfl ?_
  refine j_iload_n (i := 1) C dX4_lendFirst_7 rfl 0 rfl ?_
  refine c_V (As := [.int (S_X4_leastFree_20 v f), .int (S_X4_leastFree_20 v f)]) (rest := []) (st1 := []) (ω1 := (WD ε ad (Q_X4_lendFirst_20_1 v f) (Q_X4_lendFirst_20_2 v f) u g)) C (c_X4_lend_20 ε ad v f u g (S_X4_leastFree_20 v f) (S_X4_leastFree_20 v f)  ) mv_X4_lend lm_X4_47 dX4_lendFirst_8 20 wl_20 rfl rfl rfl (by decide) (Nat.le_of_ble_eq_true rfl) rfl ?_
  refine j_iload_n (i := 1) C dX4_lendFirst_11 rfl 0 rfl ?_
  have hs : S_X4_lendFirst_20 v f = ((S_X4_leastFree_20 v f), (Q_X4_lendFirst_20_1 v f), (Q_X4_lendFirst_20_2 v f)) := by unfold S_X4_lendFirst_20; rfl
  exact j_iret C hQ rfl dX4_lendFirst_12 (dt_ivf hs)

def Q_X4_lendNext_16_1 (v : Nat → Int32) (f : Nat → Nat → Int32) (a : Int32) : (Nat → Int32) := ((S_X4_lend_16 v f a (S_X4_leastFree_16 v f)).1)
def Q_X4_lendNext_16_2 (v : Nat → Int32) (f : Nat → Nat → Int32) (a : Int32) : (Nat → Nat → Int32) := ((S_X4_lend_16 v f a (S_X4_leastFree_16 v f)).2)
def S_X4_lendNext_16 (v : Nat → Int32) (f : Nat → Nat → Int32) (a : Int32) : Int32 × (Nat → Int32) × (Nat → Nat → Int32) :=
  ((S_X4_leastFree_16 v f), (Q_X4_lendNext_16_1 v f a), (Q_X4_lendNext_16_2 v f a))
set_option maxHeartbeats 1000000 in
set_option maxRecDepth 100000 in
theorem c_X4_lendNext_16 (ε : ET) (ad : Nat → Nat) (v : Nat → Int32) (f : Nat → Nat → Int32) (u : Nat → Int32) (g : Nat → Nat → Int32) (a : Int32)  : CT ε yX4_lendNext cX4_lendNext 3 (some .int) 1 22 0 0 [.ref (ad 16), .int a] (WD ε ad v f u g) (DT (some (.int ((S_X4_lendNext_16 v f a).1))) (WD ε ad ((S_X4_lendNext_16 v f a).2.1) ((S_X4_lendNext_16 v f a).2.2) u g)) := by
  refine CT.of (own := RX4) (by decide) rfl (Nat.le_of_ble_eq_true rfl) (fun κ C hQ => ?_)
  refine j_aload_n (i := 0) C dX4_lendNext_0 rfl 0 rfl ?_
  refine c_V (As := []) (rest := []) (st1 := [.int (S_X4_leastFree_16 v f)]) C (c_X4_leastFree_16 ε ad v f u g   ) mv_X4_leastFree lm_X4_43 dX4_lendNext_1 16 wl_16 rfl rfl rfl (by decide) (Nat.le_of_ble_eq_true rfl) rfl ?_
  refine j_istore_n (i := 2) (lv' := [(2, .int (S_X4_leastFree_16 v f)), (0, .ref (ad 16)), (1, .int a)]) C dX4_lendNext_4 rfl (by decide) rfl ?_
  refine j_aload_n (i := 0) C dX4_lendNext_5 rfl 1 rfl ?_
  refine j_iload_n (i := 1) C dX4_lendNext_6 rfl 2 rfl ?_
  refine j_iload_n (i := 2) C dX4_lendNext_7 rfl 0 rfl ?_
  refine c_V (As := [.int a, .int (S_X4_leastFree_16 v f)]) (rest := []) (st1 := []) (ω1 := (WD ε ad (Q_X4_lendNext_16_1 v f a) (Q_X4_lendNext_16_2 v f a) u g)) C (c_X4_lend_16 ε ad v f u g a (S_X4_leastFree_16 v f)  ) mv_X4_lend lm_X4_47 dX4_lendNext_8 16 wl_16 rfl rfl rfl (by decide) (Nat.le_of_ble_eq_true rfl) rfl ?_
  refine j_iload_n (i := 2) C dX4_lendNext_11 rfl 0 rfl ?_
  have hs : S_X4_lendNext_16 v f a = ((S_X4_leastFree_16 v f), (Q_X4_lendNext_16_1 v f a), (Q_X4_lendNext_16_2 v f a)) := by unfold S_X4_lendNext_16; rfl
  exact j_iret C hQ rfl dX4_lendNext_12 (dt_ivf hs)

def Q_X4_lendNext_18_1 (v : Nat → Int32) (f : Nat → Nat → Int32) (a : Int32) : (Nat → Int32) := ((S_X4_lend_18 v f a (S_X4_leastFree_18 v f)).1)
def Q_X4_lendNext_18_2 (v : Nat → Int32) (f : Nat → Nat → Int32) (a : Int32) : (Nat → Nat → Int32) := ((S_X4_lend_18 v f a (S_X4_leastFree_18 v f)).2)
def S_X4_lendNext_18 (v : Nat → Int32) (f : Nat → Nat → Int32) (a : Int32) : Int32 × (Nat → Int32) × (Nat → Nat → Int32) :=
  ((S_X4_leastFree_18 v f), (Q_X4_lendNext_18_1 v f a), (Q_X4_lendNext_18_2 v f a))
set_option maxHeartbeats 1000000 in
set_option maxRecDepth 100000 in
theorem c_X4_lendNext_18 (ε : ET) (ad : Nat → Nat) (v : Nat → Int32) (f : Nat → Nat → Int32) (u : Nat → Int32) (g : Nat → Nat → Int32) (a : Int32)  : CT ε yX4_lendNext cX4_lendNext 3 (some .int) 1 22 0 0 [.ref (ad 18), .int a] (WD ε ad v f u g) (DT (some (.int ((S_X4_lendNext_18 v f a).1))) (WD ε ad ((S_X4_lendNext_18 v f a).2.1) ((S_X4_lendNext_18 v f a).2.2) u g)) := by
  refine CT.of (own := RX4) (by decide) rfl (Nat.le_of_ble_eq_true rfl) (fun κ C hQ => ?_)
  refine j_aload_n (i := 0) C dX4_lendNext_0 rfl 0 rfl ?_
  refine c_V (As := []) (rest := []) (st1 := [.int (S_X4_leastFree_18 v f)]) C (c_X4_leastFree_18 ε ad v f u g   ) mv_X4_leastFree lm_X4_43 dX4_lendNext_1 18 wl_18 rfl rfl rfl (by decide) (Nat.le_of_ble_eq_true rfl) rfl ?_
  refine j_istore_n (i := 2) (lv' := [(2, .int (S_X4_leastFree_18 v f)), (0, .ref (ad 18)), (1, .int a)]) C dX4_lendNext_4 rfl (by decide) rfl ?_
  refine j_aload_n (i := 0) C dX4_lendNext_5 rfl 1 rfl ?_
  refine j_iload_n (i := 1) C dX4_lendNext_6 rfl 2 rfl ?_
  refine j_iload_n (i := 2) C dX4_lendNext_7 rfl 0 rfl ?_
  refine c_V (As := [.int a, .int (S_X4_leastFree_18 v f)]) (rest := []) (st1 := []) (ω1 := (WD ε ad (Q_X4_lendNext_18_1 v f a) (Q_X4_lendNext_18_2 v f a) u g)) C (c_X4_lend_18 ε ad v f u g a (S_X4_leastFree_18 v f)  ) mv_X4_lend lm_X4_47 dX4_lendNext_8 18 wl_18 rfl rfl rfl (by decide) (Nat.le_of_ble_eq_true rfl) rfl ?_
  refine j_iload_n (i := 2) C dX4_lendNext_11 rfl 0 rfl ?_
  have hs : S_X4_lendNext_18 v f a = ((S_X4_leastFree_18 v f), (Q_X4_lendNext_18_1 v f a), (Q_X4_lendNext_18_2 v f a)) := by unfold S_X4_lendNext_18; rfl
  exact j_iret C hQ rfl dX4_lendNext_12 (dt_ivf hs)

def Q_X4_lendNext_20_1 (v : Nat → Int32) (f : Nat → Nat → Int32) (a : Int32) : (Nat → Int32) := ((S_X4_lend_20 v f a (S_X4_leastFree_20 v f)).1)
def Q_X4_lendNext_20_2 (v : Nat → Int32) (f : Nat → Nat → Int32) (a : Int32) : (Nat → Nat → Int32) := ((S_X4_lend_20 v f a (S_X4_leastFree_20 v f)).2)
def S_X4_lendNext_20 (v : Nat → Int32) (f : Nat → Nat → Int32) (a : Int32) : Int32 × (Nat → Int32) × (Nat → Nat → Int32) :=
  ((S_X4_leastFree_20 v f), (Q_X4_lendNext_20_1 v f a), (Q_X4_lendNext_20_2 v f a))
set_option maxHeartbeats 1000000 in
set_option maxRecDepth 100000 in
theorem c_X4_lendNext_20 (ε : ET) (ad : Nat → Nat) (v : Nat → Int32) (f : Nat → Nat → Int32) (u : Nat → Int32) (g : Nat → Nat → Int32) (a : Int32)  : CT ε yX4_lendNext cX4_lendNext 3 (some .int) 1 22 0 0 [.ref (ad 20), .int a] (WD ε ad v f u g) (DT (some (.int ((S_X4_lendNext_20 v f a).1))) (WD ε ad ((S_X4_lendNext_20 v f a).2.1) ((S_X4_lendNext_20 v f a).2.2) u g)) := by
  refine CT.of (own := RX4) (by decide) rfl (Nat.le_of_ble_eq_true rfl) (fun κ C hQ => ?_)
  refine j_aload_n (i := 0) C dX4_lendNext_0 rfl 0 rfl ?_
  refine c_V (As := []) (rest := []) (st1 := [.int (S_X4_leastFree_20 v f)]) C (c_X4_leastFree_20 ε ad v f u g   ) mv_X4_leastFree lm_X4_43 dX4_lendNext_1 20 wl_20 rfl rfl rfl (by decide) (Nat.le_of_ble_eq_true rfl) rfl ?_
  refine j_istore_n (i := 2) (lv' := [(2, .int (S_X4_leastFree_20 v f)), (0, .ref (ad 20)), (1, .int a)]) C dX4_lendNext_4 rfl (by decide) rfl ?_
  refine j_aload_n (i := 0) C dX4_lendNext_5 rfl 1 rfl ?_
  refine j_iload_n (i := 1) C dX4_lendNext_6 rfl 2 rfl ?_
  refine j_iload_n (i := 2) C dX4_lendNext_7 rfl 0 rfl ?_
  refine c_V (As := [.int a, .int (S_X4_leastFree_20 v f)]) (rest := []) (st1 := []) (ω1 := (WD ε ad (Q_X4_lendNext_20_1 v f a) (Q_X4_lendNext_20_2 v f a) u g)) C (c_X4_lend_20 ε ad v f u g a (S_X4_leastFree_20 v f)  ) mv_X4_lend lm_X4_47 dX4_lendNext_8 20 wl_20 rfl rfl rfl (by decide) (Nat.le_of_ble_eq_true rfl) rfl ?_
  refine j_iload_n (i := 2) C dX4_lendNext_11 rfl 0 rfl ?_
  have hs : S_X4_lendNext_20 v f a = ((S_X4_leastFree_20 v f), (Q_X4_lendNext_20_1 v f a), (Q_X4_lendNext_20_2 v f a)) := by unfold S_X4_lendNext_20; rfl
  exact j_iret C hQ rfl dX4_lendNext_12 (dt_ivf hs)

def S_X4_takeBack_16 (v : Nat → Int32) (f : Nat → Nat → Int32) (a : Int64) : Int32 × (Nat → Int32) × (Nat → Nat → Int32) :=
  if (lg_cmp a 0) < 0 then (0, v, f)
  else if 0 ≤ (lg_cmp a ((8 : Int32).toInt64)) then (0, v, f)
    else if ((f 17) (((a : Int64).toInt32)).toNatClampNeg) = 0 then (0, v, f)
      else (1, (upd v 41 ((v 41) ||| ((f 17) (((a : Int64).toInt32)).toNatClampNeg))), (va_up f 17 (upd (f 17) (((a : Int64).toInt32)).toNatClampNeg 0)))
set_option maxHeartbeats 1000000 in
set_option maxRecDepth 100000 in
theorem c_X4_takeBack_16 (ε : ET) (ad : Nat → Nat) (v : Nat → Int32) (f : Nat → Nat → Int32) (u : Nat → Int32) (g : Nat → Nat → Int32) (a : Int64)  : CT ε yX4_takeBack cX4_takeBack 3 (some .boolean) 0 0 0 0 [.ref (ad 16), .long a] (WD ε ad v f u g) (DT (some (.int ((S_X4_takeBack_16 v f a).1))) (WD ε ad ((S_X4_takeBack_16 v f a).2.1) ((S_X4_takeBack_16 v f a).2.2) u g)) := by
  refine CT.of (own := RX4) (by decide) rfl (Nat.le_of_ble_eq_true rfl) (fun κ C hQ => ?_)
  refine j_lload_n (i := 1) C dX4_takeBack_0 rfl 1 rfl ?_
  refine j_lconst (x := 0) C dX4_takeBack_1 (by decide) ?_
  refine j_lcmp C dX4_takeBack_2 ?_
  refine j_if_lt (tgt := 27) C dX4_takeBack_3 (by decide) (fun c_1 => ?_) (fun c_1 => ?_)
  · refine j_iconst (x := 0) C dX4_takeBack_27 (by decide) ?_
    have hs : S_X4_takeBack_16 v f a = (0, v, f) := by unfold S_X4_takeBack_16; rw [if_pos c_1]
    exact j_zret C hQ rfl rfl dX4_takeBack_28 (dt_ivf hs)
  · refine j_lload_n (i := 1) C dX4_takeBack_6 rfl 1 rfl ?_
    refine j_aload_n (i := 0) C dX4_takeBack_7 rfl 0 rfl ?_
    refine g_16_chains C dX4_takeBack_8 lf_X4_9 ?_
    refine an_17 C dX4_takeBack_11 ?_
    refine j_i2l C dX4_takeBack_12 ?_
    refine j_lcmp C dX4_takeBack_13 ?_
    refine j_if_ge (tgt := 27) C dX4_takeBack_14 (by decide) (fun c_2 => ?_) (fun c_2 => ?_)
    · refine j_iconst (x := 0) C dX4_takeBack_27 (by decide) ?_
      have hs : S_X4_takeBack_16 v f a = (0, v, f) := by unfold S_X4_takeBack_16; rw [if_neg c_1, if_pos c_2]
      exact j_zret C hQ rfl rfl dX4_takeBack_28 (dt_ivf hs)
    · refine j_aload_n (i := 0) C dX4_takeBack_17 rfl 0 rfl ?_
      refine g_16_chains C dX4_takeBack_18 lf_X4_9 ?_
      refine j_lload_n (i := 1) C dX4_takeBack_21 rfl 1 rfl ?_
      refine j_l2i C dX4_takeBack_22 ?_
      refine al_17 (F := (f 17)) C dX4_takeBack_23 (lg_in c_1 c_2 rfl (by decide)) rfl ?_
      refine j_if_ne (tgt := 29) C dX4_takeBack_24 (by decide) (fun c_3 => ?_) (fun c_3 => ?_)
      · refine j_aload_n (i := 0) C dX4_takeBack_29 rfl 0 rfl ?_
        refine j_dup C dX4_takeBack_30 rfl ?_
        refine g_16_free (x := (v 41)) C dX4_takeBack_31 lf_X4_22 rfl ?_
        refine j_aload_n (i := 0) C dX4_takeBack_34 rfl 0 rfl ?_
        refine g_16_chains C dX4_takeBack_35 lf_X4_9 ?_
        refine j_lload_n (i := 1) C dX4_takeBack_38 rfl 1 rfl ?_
        refine j_l2i C dX4_takeBack_39 ?_
        refine al_17 (F := (f 17)) C dX4_takeBack_40 (lg_in c_1 c_2 rfl (by decide)) rfl ?_
        refine j_ior C dX4_takeBack_41 ?_
        refine p_16_free C dX4_takeBack_42 lf_X4_22 ?_
        refine j_aload_n (i := 0) C dX4_takeBack_45 rfl 0 rfl ?_
        refine g_16_chains C dX4_takeBack_46 lf_X4_9 ?_
        refine j_lload_n (i := 1) C dX4_takeBack_49 rfl 1 rfl ?_
        refine j_l2i C dX4_takeBack_50 ?_
        refine j_iconst (x := 0) C dX4_takeBack_51 (by decide) ?_
        refine as_17 (F2 := (f 17)) (F := (upd (f 17) (((a : Int64).toInt32)).toNatClampNeg 0)) C dX4_takeBack_52 (lg_in c_1 c_2 rfl (by decide)) rfl rfl ?_
        refine j_iconst (x := 1) C dX4_takeBack_53 (by decide) ?_
        have hs : S_X4_takeBack_16 v f a = (1, (upd v 41 ((v 41) ||| ((f 17) (((a : Int64).toInt32)).toNatClampNeg))), (va_up f 17 (upd (f 17) (((a : Int64).toInt32)).toNatClampNeg 0))) := by unfold S_X4_takeBack_16; rw [if_neg c_1, if_neg c_2, if_neg c_3]
        exact j_zret C hQ rfl rfl dX4_takeBack_54 (dt_ivf hs)
      · refine j_iconst (x := 0) C dX4_takeBack_27 (by decide) ?_
        have hs : S_X4_takeBack_16 v f a = (0, v, f) := by unfold S_X4_takeBack_16; rw [if_neg c_1, if_neg c_2, if_pos c_3]
        exact j_zret C hQ rfl rfl dX4_takeBack_28 (dt_ivf hs)

def S_X4_takeBack_18 (v : Nat → Int32) (f : Nat → Nat → Int32) (a : Int64) : Int32 × (Nat → Int32) × (Nat → Nat → Int32) :=
  if (lg_cmp a 0) < 0 then (0, v, f)
  else if 0 ≤ (lg_cmp a ((8 : Int32).toInt64)) then (0, v, f)
    else if ((f 19) (((a : Int64).toInt32)).toNatClampNeg) = 0 then (0, v, f)
      else (1, (upd v 45 ((v 45) ||| ((f 19) (((a : Int64).toInt32)).toNatClampNeg))), (va_up f 19 (upd (f 19) (((a : Int64).toInt32)).toNatClampNeg 0)))
set_option maxHeartbeats 1000000 in
set_option maxRecDepth 100000 in
theorem c_X4_takeBack_18 (ε : ET) (ad : Nat → Nat) (v : Nat → Int32) (f : Nat → Nat → Int32) (u : Nat → Int32) (g : Nat → Nat → Int32) (a : Int64)  : CT ε yX4_takeBack cX4_takeBack 3 (some .boolean) 0 0 0 0 [.ref (ad 18), .long a] (WD ε ad v f u g) (DT (some (.int ((S_X4_takeBack_18 v f a).1))) (WD ε ad ((S_X4_takeBack_18 v f a).2.1) ((S_X4_takeBack_18 v f a).2.2) u g)) := by
  refine CT.of (own := RX4) (by decide) rfl (Nat.le_of_ble_eq_true rfl) (fun κ C hQ => ?_)
  refine j_lload_n (i := 1) C dX4_takeBack_0 rfl 1 rfl ?_
  refine j_lconst (x := 0) C dX4_takeBack_1 (by decide) ?_
  refine j_lcmp C dX4_takeBack_2 ?_
  refine j_if_lt (tgt := 27) C dX4_takeBack_3 (by decide) (fun c_1 => ?_) (fun c_1 => ?_)
  · refine j_iconst (x := 0) C dX4_takeBack_27 (by decide) ?_
    have hs : S_X4_takeBack_18 v f a = (0, v, f) := by unfold S_X4_takeBack_18; rw [if_pos c_1]
    exact j_zret C hQ rfl rfl dX4_takeBack_28 (dt_ivf hs)
  · refine j_lload_n (i := 1) C dX4_takeBack_6 rfl 1 rfl ?_
    refine j_aload_n (i := 0) C dX4_takeBack_7 rfl 0 rfl ?_
    refine g_18_chains C dX4_takeBack_8 lf_X4_9 ?_
    refine an_19 C dX4_takeBack_11 ?_
    refine j_i2l C dX4_takeBack_12 ?_
    refine j_lcmp C dX4_takeBack_13 ?_
    refine j_if_ge (tgt := 27) C dX4_takeBack_14 (by decide) (fun c_2 => ?_) (fun c_2 => ?_)
    · refine j_iconst (x := 0) C dX4_takeBack_27 (by decide) ?_
      have hs : S_X4_takeBack_18 v f a = (0, v, f) := by unfold S_X4_takeBack_18; rw [if_neg c_1, if_pos c_2]
      exact j_zret C hQ rfl rfl dX4_takeBack_28 (dt_ivf hs)
    · refine j_aload_n (i := 0) C dX4_takeBack_17 rfl 0 rfl ?_
      refine g_18_chains C dX4_takeBack_18 lf_X4_9 ?_
      refine j_lload_n (i := 1) C dX4_takeBack_21 rfl 1 rfl ?_
      refine j_l2i C dX4_takeBack_22 ?_
      refine al_19 (F := (f 19)) C dX4_takeBack_23 (lg_in c_1 c_2 rfl (by decide)) rfl ?_
      refine j_if_ne (tgt := 29) C dX4_takeBack_24 (by decide) (fun c_3 => ?_) (fun c_3 => ?_)
      · refine j_aload_n (i := 0) C dX4_takeBack_29 rfl 0 rfl ?_
        refine j_dup C dX4_takeBack_30 rfl ?_
        refine g_18_free (x := (v 45)) C dX4_takeBack_31 lf_X4_22 rfl ?_
        refine j_aload_n (i := 0) C dX4_takeBack_34 rfl 0 rfl ?_
        refine g_18_chains C dX4_takeBack_35 lf_X4_9 ?_
        refine j_lload_n (i := 1) C dX4_takeBack_38 rfl 1 rfl ?_
        refine j_l2i C dX4_takeBack_39 ?_
        refine al_19 (F := (f 19)) C dX4_takeBack_40 (lg_in c_1 c_2 rfl (by decide)) rfl ?_
        refine j_ior C dX4_takeBack_41 ?_
        refine p_18_free C dX4_takeBack_42 lf_X4_22 ?_
        refine j_aload_n (i := 0) C dX4_takeBack_45 rfl 0 rfl ?_
        refine g_18_chains C dX4_takeBack_46 lf_X4_9 ?_
        refine j_lload_n (i := 1) C dX4_takeBack_49 rfl 1 rfl ?_
        refine j_l2i C dX4_takeBack_50 ?_
        refine j_iconst (x := 0) C dX4_takeBack_51 (by decide) ?_
        refine as_19 (F2 := (f 19)) (F := (upd (f 19) (((a : Int64).toInt32)).toNatClampNeg 0)) C dX4_takeBack_52 (lg_in c_1 c_2 rfl (by decide)) rfl rfl ?_
        refine j_iconst (x := 1) C dX4_takeBack_53 (by decide) ?_
        have hs : S_X4_takeBack_18 v f a = (1, (upd v 45 ((v 45) ||| ((f 19) (((a : Int64).toInt32)).toNatClampNeg))), (va_up f 19 (upd (f 19) (((a : Int64).toInt32)).toNatClampNeg 0))) := by unfold S_X4_takeBack_18; rw [if_neg c_1, if_neg c_2, if_neg c_3]
        exact j_zret C hQ rfl rfl dX4_takeBack_54 (dt_ivf hs)
      · refine j_iconst (x := 0) C dX4_takeBack_27 (by decide) ?_
        have hs : S_X4_takeBack_18 v f a = (0, v, f) := by unfold S_X4_takeBack_18; rw [if_neg c_1, if_neg c_2, if_pos c_3]
        exact j_zret C hQ rfl rfl dX4_takeBack_28 (dt_ivf hs)

def S_X4_takeBack_20 (v : Nat → Int32) (f : Nat → Nat → Int32) (a : Int64) : Int32 × (Nat → Int32) × (Nat → Nat → Int32) :=
  if (lg_cmp a 0) < 0 then (0, v, f)
  else if 0 ≤ (lg_cmp a ((8 : Int32).toInt64)) then (0, v, f)
    else if ((f 21) (((a : Int64).toInt32)).toNatClampNeg) = 0 then (0, v, f)
      else (1, (upd v 49 ((v 49) ||| ((f 21) (((a : Int64).toInt32)).toNatClampNeg))), (va_up f 21 (upd (f 21) (((a : Int64).toInt32)).toNatClampNeg 0)))
set_option maxHeartbeats 1000000 in
set_option maxRecDepth 100000 in
theorem c_X4_takeBack_20 (ε : ET) (ad : Nat → Nat) (v : Nat → Int32) (f : Nat → Nat → Int32) (u : Nat → Int32) (g : Nat → Nat → Int32) (a : Int64)  : CT ε yX4_takeBack cX4_takeBack 3 (some .boolean) 0 0 0 0 [.ref (ad 20), .long a] (WD ε ad v f u g) (DT (some (.int ((S_X4_takeBack_20 v f a).1))) (WD ε ad ((S_X4_takeBack_20 v f a).2.1) ((S_X4_takeBack_20 v f a).2.2) u g)) := by
  refine CT.of (own := RX4) (by decide) rfl (Nat.le_of_ble_eq_true rfl) (fun κ C hQ => ?_)
  refine j_lload_n (i := 1) C dX4_takeBack_0 rfl 1 rfl ?_
  refine j_lconst (x := 0) C dX4_takeBack_1 (by decide) ?_
  refine j_lcmp C dX4_takeBack_2 ?_
  refine j_if_lt (tgt := 27) C dX4_takeBack_3 (by decide) (fun c_1 => ?_) (fun c_1 => ?_)
  · refine j_iconst (x := 0) C dX4_takeBack_27 (by decide) ?_
    have hs : S_X4_takeBack_20 v f a = (0, v, f) := by unfold S_X4_takeBack_20; rw [if_pos c_1]
    exact j_zret C hQ rfl rfl dX4_takeBack_28 (dt_ivf hs)
  · refine j_lload_n (i := 1) C dX4_takeBack_6 rfl 1 rfl ?_
    refine j_aload_n (i := 0) C dX4_takeBack_7 rfl 0 rfl ?_
    refine g_20_chains C dX4_takeBack_8 lf_X4_9 ?_
    refine an_21 C dX4_takeBack_11 ?_
    refine j_i2l C dX4_takeBack_12 ?_
    refine j_lcmp C dX4_takeBack_13 ?_
    refine j_if_ge (tgt := 27) C dX4_takeBack_14 (by decide) (fun c_2 => ?_) (fun c_2 => ?_)
    · refine j_iconst (x := 0) C dX4_takeBack_27 (by decide) ?_
      have hs : S_X4_takeBack_20 v f a = (0, v, f) := by unfold S_X4_takeBack_20; rw [if_neg c_1, if_pos c_2]
      exact j_zret C hQ rfl rfl dX4_takeBack_28 (dt_ivf hs)
    · refine j_aload_n (i := 0) C dX4_takeBack_17 rfl 0 rfl ?_
      refine g_20_chains C dX4_takeBack_18 lf_X4_9 ?_
      refine j_lload_n (i := 1) C dX4_takeBack_21 rfl 1 rfl ?_
      refine j_l2i C dX4_takeBack_22 ?_
      refine al_21 (F := (f 21)) C dX4_takeBack_23 (lg_in c_1 c_2 rfl (by decide)) rfl ?_
      refine j_if_ne (tgt := 29) C dX4_takeBack_24 (by decide) (fun c_3 => ?_) (fun c_3 => ?_)
      · refine j_aload_n (i := 0) C dX4_takeBack_29 rfl 0 rfl ?_
        refine j_dup C dX4_takeBack_30 rfl ?_
        refine g_20_free (x := (v 49)) C dX4_takeBack_31 lf_X4_22 rfl ?_
        refine j_aload_n (i := 0) C dX4_takeBack_34 rfl 0 rfl ?_
        refine g_20_chains C dX4_takeBack_35 lf_X4_9 ?_
        refine j_lload_n (i := 1) C dX4_takeBack_38 rfl 1 rfl ?_
        refine j_l2i C dX4_takeBack_39 ?_
        refine al_21 (F := (f 21)) C dX4_takeBack_40 (lg_in c_1 c_2 rfl (by decide)) rfl ?_
        refine j_ior C dX4_takeBack_41 ?_
        refine p_20_free C dX4_takeBack_42 lf_X4_22 ?_
        refine j_aload_n (i := 0) C dX4_takeBack_45 rfl 0 rfl ?_
        refine g_20_chains C dX4_takeBack_46 lf_X4_9 ?_
        refine j_lload_n (i := 1) C dX4_takeBack_49 rfl 1 rfl ?_
        refine j_l2i C dX4_takeBack_50 ?_
        refine j_iconst (x := 0) C dX4_takeBack_51 (by decide) ?_
        refine as_21 (F2 := (f 21)) (F := (upd (f 21) (((a : Int64).toInt32)).toNatClampNeg 0)) C dX4_takeBack_52 (lg_in c_1 c_2 rfl (by decide)) rfl rfl ?_
        refine j_iconst (x := 1) C dX4_takeBack_53 (by decide) ?_
        have hs : S_X4_takeBack_20 v f a = (1, (upd v 49 ((v 49) ||| ((f 21) (((a : Int64).toInt32)).toNatClampNeg))), (va_up f 21 (upd (f 21) (((a : Int64).toInt32)).toNatClampNeg 0))) := by unfold S_X4_takeBack_20; rw [if_neg c_1, if_neg c_2, if_neg c_3]
        exact j_zret C hQ rfl rfl dX4_takeBack_54 (dt_ivf hs)
      · refine j_iconst (x := 0) C dX4_takeBack_27 (by decide) ?_
        have hs : S_X4_takeBack_20 v f a = (0, v, f) := by unfold S_X4_takeBack_20; rw [if_neg c_1, if_neg c_2, if_pos c_3]
        exact j_zret C hQ rfl rfl dX4_takeBack_28 (dt_ivf hs)

