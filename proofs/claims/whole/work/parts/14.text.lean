def S_J0_coder_7d493 (v : Nat → Int32) (f : Nat → Nat → Int32)  : Int32 :=
  0
set_option maxHeartbeats 1000000 in
set_option maxRecDepth 100000 in
theorem c_J0_coder_7d493 (ε : ET) (ad : Nat → Nat) (v : Nat → Int32) (f : Nat → Nat → Int32) (u : Nat → Int32) (g : Nat → Nat → Int32)   : CT ε yJ0_coder_7d493 cJ0_coder_7d493 1 (some .byte) 0 0 0 0 [.ref ε.2.2.2.2.1] (WD ε ad v f u g) (DT (some (.int (S_J0_coder_7d493 v f))) (WD ε ad v f u g)) := by
  refine CT.of (own := RJ0) (by decide) rfl (Nat.le_of_ble_eq_true rfl) (fun κ C hQ => ?_)
  refine j_gcs C dJ0_coder_7d493_0 lf_J0_38 ?_
  refine j_if_eq (tgt := 13) C dJ0_coder_7d493_3 (by decide) (fun c9 => absurd c9 (by decide)) (fun _ => ?_)
  refine j_aload_n (i := 0) C dJ0_coder_7d493_6 rfl 0 rfl ?_
  refine j_gcod C dJ0_coder_7d493_7 lf_J0_15 ?_
  refine j_goto (tgt := 14) C dJ0_coder_7d493_10 (by decide) ?_
  have hs : S_J0_coder_7d493 v f = 0 := by unfold S_J0_coder_7d493; rfl
  exact j_zret C hQ rfl rfl dJ0_coder_7d493_14 (dt_i hs)

def S_J0_isLatin1_aae02 (v : Nat → Int32) (f : Nat → Nat → Int32)  : Int32 :=
  1
set_option maxHeartbeats 1000000 in
set_option maxRecDepth 100000 in
theorem c_J0_isLatin1_aae02 (ε : ET) (ad : Nat → Nat) (v : Nat → Int32) (f : Nat → Nat → Int32) (u : Nat → Int32) (g : Nat → Nat → Int32)   : CT ε yJ0_isLatin1_aae02 cJ0_isLatin1_aae02 1 (some .boolean) 0 0 0 0 [.ref ε.2.2.2.2.1] (WD ε ad v f u g) (DT (some (.int (S_J0_isLatin1_aae02 v f))) (WD ε ad v f u g)) := by
  refine CT.of (own := RJ0) (by decide) rfl (Nat.le_of_ble_eq_true rfl) (fun κ C hQ => ?_)
  refine j_gcs C dJ0_isLatin1_aae02_0 lf_J0_38 ?_
  refine j_if_eq (tgt := 17) C dJ0_isLatin1_aae02_3 (by decide) (fun c9 => absurd c9 (by decide)) (fun _ => ?_)
  refine j_aload_n (i := 0) C dJ0_isLatin1_aae02_6 rfl 0 rfl ?_
  refine j_gcod C dJ0_isLatin1_aae02_7 lf_J0_15 ?_
  refine j_if_ne (tgt := 17) C dJ0_isLatin1_aae02_10 (by decide) (fun c9 => absurd c9 (by decide)) (fun _ => ?_)
  refine j_iconst (x := 1) C dJ0_isLatin1_aae02_13 (by decide) ?_
  refine j_goto (tgt := 18) C dJ0_isLatin1_aae02_14 (by decide) ?_
  have hs : S_J0_isLatin1_aae02 v f = 1 := by unfold S_J0_isLatin1_aae02; rfl
  exact j_zret C hQ rfl rfl dJ0_isLatin1_aae02_18 (dt_i hs)

def S_J0_length_8abf5 (v : Nat → Int32) (f : Nat → Nat → Int32)  : Int32 :=
  (5 >>> ((S_J0_coder_7d493 v f) &&& 31))
set_option maxHeartbeats 1000000 in
set_option maxRecDepth 100000 in
theorem c_J0_length_8abf5 (ε : ET) (ad : Nat → Nat) (v : Nat → Int32) (f : Nat → Nat → Int32) (u : Nat → Int32) (g : Nat → Nat → Int32)   : CT ε yJ0_length_8abf5 cJ0_length_8abf5 1 (some .int) 1 20 0 0 [.ref ε.2.2.2.2.1] (WD ε ad v f u g) (DT (some (.int (S_J0_length_8abf5 v f))) (WD ε ad v f u g)) := by
  refine CT.of (own := RJ0) (by decide) rfl (Nat.le_of_ble_eq_true rfl) (fun κ C hQ => ?_)
  refine j_aload_n (i := 0) C dJ0_length_8abf5_0 rfl 0 rfl ?_
  refine j_gval C dJ0_length_8abf5_1 lf_J0_9 ?_
  refine j_slen C dJ0_length_8abf5_4 ?_
  refine j_aload_n (i := 0) C dJ0_length_8abf5_5 rfl 0 rfl ?_
  refine c_Vs (As := []) (rest := [.int 5]) (st1 := [.int (S_J0_coder_7d493 v f), .int 5]) C (c_J0_coder_7d493 ε ad v f u g   ) mv_J0_coder_7d493 lm_J0_335 dJ0_length_8abf5_6 rfl rfl (by decide) (Nat.le_of_ble_eq_true rfl) rfl ?_
  refine j_ishr C dJ0_length_8abf5_9 ?_
  have hs : S_J0_length_8abf5 v f = (5 >>> ((S_J0_coder_7d493 v f) &&& 31)) := by unfold S_J0_length_8abf5; rfl
  exact j_iret C hQ rfl dJ0_length_8abf5_10 (dt_i hs)

def S_J3_ci0 (v : Nat → Int32) (f : Nat → Nat → Int32) (a : Int32) (b : Int32) : Int32 :=
  a
set_option maxHeartbeats 1000000 in
set_option maxRecDepth 100000 in
theorem c_J3_ci0 (ε : ET) (ad : Nat → Nat) (v : Nat → Int32) (f : Nat → Nat → Int32) (u : Nat → Int32) (g : Nat → Nat → Int32) (a : Int32) (b : Int32) (h0 : ¬ a < 0) (h1 : a < b) : CT ε yJ3_checkIndex_8e157 cJ3_checkIndex_8e157 3 (some .int) 0 0 0 0 [.int a, .int b, .null] (WD ε ad v f u g) (DT (some (.int (S_J3_ci0 v f a b))) (WD ε ad v f u g)) := by
  refine CT.of (own := RJ3) (by decide) rfl (Nat.le_of_ble_eq_true rfl) (fun κ C hQ => ?_)
  have lf8 := h0
  have lf9 := h1
  refine j_iload_n (i := 0) C dJ3_checkIndex_8e157_0 rfl 0 rfl ?_
  refine j_if_lt (tgt := 9) C dJ3_checkIndex_8e157_1 (by decide) (fun c9 => absurd c9 lf8) (fun _ => ?_)
  refine j_iload_n (i := 0) C dJ3_checkIndex_8e157_4 rfl 0 rfl ?_
  refine j_iload_n (i := 1) C dJ3_checkIndex_8e157_5 rfl 1 rfl ?_
  refine j_icmp_lt (tgt := 16) C dJ3_checkIndex_8e157_6 (by decide) (fun _ => ?_) (fun c9 => absurd lf9 c9)
  refine j_iload_n (i := 0) C dJ3_checkIndex_8e157_16 rfl 0 rfl ?_
  have hs : S_J3_ci0 v f a b = a := by unfold S_J3_ci0; rfl
  exact j_iret C hQ rfl dJ3_checkIndex_8e157_17 (dt_i hs)

def S_J3_ci1 (v : Nat → Int32) (f : Nat → Nat → Int32) (a : Int32) (b : Int32) : Int32 :=
  a
set_option maxHeartbeats 1000000 in
set_option maxRecDepth 100000 in
theorem c_J3_ci1 (ε : ET) (ad : Nat → Nat) (v : Nat → Int32) (f : Nat → Nat → Int32) (u : Nat → Int32) (g : Nat → Nat → Int32) (a : Int32) (b : Int32) (t : Nat) (h0 : ¬ a < 0) (h1 : a < b) : CT ε yJ3_checkIndex_8e157 cJ3_checkIndex_8e157 3 (some .int) 0 0 0 0 [.int a, .int b, .ref t] (WD ε ad v f u g) (DT (some (.int (S_J3_ci1 v f a b))) (WD ε ad v f u g)) := by
  refine CT.of (own := RJ3) (by decide) rfl (Nat.le_of_ble_eq_true rfl) (fun κ C hQ => ?_)
  have lf8 := h0
  have lf9 := h1
  refine j_iload_n (i := 0) C dJ3_checkIndex_8e157_0 rfl 0 rfl ?_
  refine j_if_lt (tgt := 9) C dJ3_checkIndex_8e157_1 (by decide) (fun c9 => absurd c9 lf8) (fun _ => ?_)
  refine j_iload_n (i := 0) C dJ3_checkIndex_8e157_4 rfl 0 rfl ?_
  refine j_iload_n (i := 1) C dJ3_checkIndex_8e157_5 rfl 1 rfl ?_
  refine j_icmp_lt (tgt := 16) C dJ3_checkIndex_8e157_6 (by decide) (fun _ => ?_) (fun c9 => absurd lf9 c9)
  refine j_iload_n (i := 0) C dJ3_checkIndex_8e157_16 rfl 0 rfl ?_
  have hs : S_J3_ci1 v f a b = a := by unfold S_J3_ci1; rfl
  exact j_iret C hQ rfl dJ3_checkIndex_8e157_17 (dt_i hs)

set_option maxHeartbeats 1000000 in
set_option maxRecDepth 100000 in
theorem c_J0_checkIndex_df160 (ε : ET) (ad : Nat → Nat) (v : Nat → Int32) (f : Nat → Nat → Int32) (u : Nat → Int32) (g : Nat → Nat → Int32) (a : Int32) (b : Int32) (h0 : ¬ a < 0) (h1 : a < b) : CT ε yJ0_checkIndex_df160 cJ0_checkIndex_df160 2 none 1 22 0 0 [.int a, .int b] (WD ε ad v f u g) (DT none (WD ε ad v f u g)) := by
  refine CT.of (own := RJ0) (by decide) rfl (Nat.le_of_ble_eq_true rfl) (fun κ C hQ => ?_)
  refine j_iload_n (i := 0) C dJ0_checkIndex_df160_0 rfl 0 rfl ?_
  refine j_iload_n (i := 1) C dJ0_checkIndex_df160_1 rfl 1 rfl ?_
  refine j_gfm C dJ0_checkIndex_df160_2 lf_J0_1053 ?_ (fun t9 => ?_)
  · refine c_S (As := [.int a, .int b, .null]) (rest := []) (st1 := [.int (S_J3_ci0 v f a b)]) C (c_J3_ci0 ε ad v f u g a b  h0 h1) mt_J3_checkIndex_8e157 lm_J0_1059 dJ0_checkIndex_df160_5 rfl rfl (by decide) (Nat.le_of_ble_eq_true rfl) rfl ?_
    refine j_pop C dJ0_checkIndex_df160_8 rfl ?_
    exact j_vret C hQ rfl dJ0_checkIndex_df160_9 ⟨rfl, rfl⟩
  · refine c_S (As := [.int a, .int b, .ref t9]) (rest := []) (st1 := [.int (S_J3_ci1 v f a b)]) C (c_J3_ci1 ε ad v f u g a b t9 h0 h1) mt_J3_checkIndex_8e157 lm_J0_1059 dJ0_checkIndex_df160_5 rfl rfl (by decide) (Nat.le_of_ble_eq_true rfl) rfl ?_
    refine j_pop C dJ0_checkIndex_df160_8 rfl ?_
    exact j_vret C hQ rfl dJ0_checkIndex_df160_9 ⟨rfl, rfl⟩

theorem vp_i5 {x : Int32} (h0 : ¬ x < 0) (h1 : x < 5) : vp_in x 5 := by
  rw [vp_in_iff]
  rw [Int32.lt_iff_toInt_lt] at h0 h1
  have e0 : (0 : Int32).toInt = 0 := rfl
  have e5 : (5 : Int32).toInt = 5 := rfl
  omega
def S_J1_charAt_3b067 (v : Nat → Int32) (f : Nat → Nat → Int32) (a : Int32) : Int32 :=
  (((((([114, 105, 110, 103, 115] : List Int32).getD (a).toNatClampNeg 0) &&& 255) : Int32).toUInt32 % 65536).toInt32)
set_option maxHeartbeats 1000000 in
set_option maxRecDepth 100000 in
theorem c_J1_charAt_3b067 (ε : ET) (ad : Nat → Nat) (v : Nat → Int32) (f : Nat → Nat → Int32) (u : Nat → Int32) (g : Nat → Nat → Int32) (a : Int32) (h0 : ¬ a < 0) (h1 : a < 5) : CT ε yJ1_charAt_3b067 cJ1_charAt_3b067 2 (some .char) 2 43 0 0 [.ref ε.2.2.2.2.2, .int a] (WD ε ad v f u g) (DT (some (.int (S_J1_charAt_3b067 v f a))) (WD ε ad v f u g)) := by
  refine CT.of (own := RJ1) (by decide) rfl (Nat.le_of_ble_eq_true rfl) (fun κ C hQ => ?_)
  refine j_iload_n (i := 1) C dJ1_charAt_3b067_0 rfl 1 rfl ?_
  refine j_aload_n (i := 0) C dJ1_charAt_3b067_1 rfl 0 rfl ?_
  refine j_slen C dJ1_charAt_3b067_2 ?_
  refine c_S (As := [.int a, .int 5]) (rest := []) (st1 := []) C (c_J0_checkIndex_df160 ε ad v f u g a 5  h0 h1) mt_J0_checkIndex_df160 lm_J1_9 dJ1_charAt_3b067_3 rfl rfl (by decide) (Nat.le_of_ble_eq_true rfl) rfl ?_
  refine j_aload_n (i := 0) C dJ1_charAt_3b067_6 rfl 0 rfl ?_
  refine j_iload_n (i := 1) C dJ1_charAt_3b067_7 rfl 1 rfl ?_
  refine j_sbt C dJ1_charAt_3b067_8 (vp_i5 h0 h1) ?_
  refine j_sipush (x := 255) C dJ1_charAt_3b067_9 (by decide) ?_
  refine j_iand C dJ1_charAt_3b067_12 ?_
  refine j_i2c C dJ1_charAt_3b067_13 ?_
  have hs : S_J1_charAt_3b067 v f a = (((((([114, 105, 110, 103, 115] : List Int32).getD (a).toNatClampNeg 0) &&& 255) : Int32).toUInt32 % 65536).toInt32) := by unfold S_J1_charAt_3b067; rfl
  exact j_zret C hQ rfl (pk_nc _) dJ1_charAt_3b067_14 (dt_i hs)

def S_J0_charAt_5068e (v : Nat → Int32) (f : Nat → Nat → Int32) (a : Int32) : Int32 :=
  (S_J1_charAt_3b067 v f a)
set_option maxHeartbeats 1000000 in
set_option maxRecDepth 100000 in
theorem c_J0_charAt_5068e (ε : ET) (ad : Nat → Nat) (v : Nat → Int32) (f : Nat → Nat → Int32) (u : Nat → Int32) (g : Nat → Nat → Int32) (a : Int32) (h0 : ¬ a < 0) (h1 : a < 5) : CT ε yJ0_charAt_5068e cJ0_charAt_5068e 2 (some .char) 3 64 0 0 [.ref ε.2.2.2.2.1, .int a] (WD ε ad v f u g) (DT (some (.int (S_J0_charAt_5068e v f a))) (WD ε ad v f u g)) := by
  refine CT.of (own := RJ0) (by decide) rfl (Nat.le_of_ble_eq_true rfl) (fun κ C hQ => ?_)
  have lf7 : ¬ (S_J0_isLatin1_aae02 v f) = 0 := by unfold S_J0_isLatin1_aae02; decide
  refine j_aload_n (i := 0) C dJ0_charAt_5068e_0 rfl 0 rfl ?_
  refine c_Vs (As := []) (rest := []) (st1 := [.int (S_J0_isLatin1_aae02 v f)]) C (c_J0_isLatin1_aae02 ε ad v f u g   ) mv_J0_isLatin1_aae02 lm_J0_492 dJ0_charAt_5068e_1 rfl rfl (by decide) (Nat.le_of_ble_eq_true rfl) rfl ?_
  refine j_if_eq (tgt := 16) C dJ0_charAt_5068e_4 (by decide) (fun c9 => absurd c9 lf7) (fun _ => ?_)
  refine j_aload_n (i := 0) C dJ0_charAt_5068e_7 rfl 0 rfl ?_
  refine j_gval C dJ0_charAt_5068e_8 lf_J0_9 ?_
  refine j_iload_n (i := 1) C dJ0_charAt_5068e_11 rfl 1 rfl ?_
  refine c_S (As := [.ref ε.2.2.2.2.2, .int a]) (rest := []) (st1 := [.int (S_J1_charAt_3b067 v f a)]) C (c_J1_charAt_3b067 ε ad v f u g a  h0 h1) mt_J1_charAt_3b067 lm_J0_495 dJ0_charAt_5068e_12 rfl rfl (by decide) (Nat.le_of_ble_eq_true rfl) rfl ?_
  have hs : S_J0_charAt_5068e v f a = (S_J1_charAt_3b067 v f a) := by unfold S_J0_charAt_5068e; rfl
  exact j_zret C hQ rfl (pk_nc _) dJ0_charAt_5068e_15 (dt_i hs)

theorem len5 (v : Nat → Int32) (f : Nat → Nat → Int32) : S_J0_length_8abf5 v f = 5 := by unfold S_J0_length_8abf5 S_J0_coder_7d493; decide
