/-- a counter that goes down: i - 1 -/
def kd : Nat → Int32
  | 0 => -1
  | i + 1 => nI i
theorem kd_dec {i : Nat} (h : ¬ kd i < 0) : kd i + (-1) = kd (i - 1) := by
  match i, h with
  | 0, h => exact absurd (by decide) h
  | 1, _ => rfl
  | i + 2, _ => exact pk_m1 i
theorem kd_of (N : Nat) : nI N - 1 = kd N := by
  match N with
  | 0 => rfl
  | N + 1 => exact nI_pred N
theorem kd_ge {i : Nat} (h : ¬ kd i < 0) : 1 ≤ i := by
  match i, h with
  | 0, h => exact absurd (by decide) h
  | i + 1, _ => omega
/-- N bytes from x on lie in MEMORY -/
def MA (x : Int32) (N : Nat) : Prop := ∃ p : Nat, x = nI p ∧ p + N ≤ 4096
theorem MA.at {x : Int32} {N i : Nat} (h : MA x N) (hi : i < N) : vp_in (x + nI i) 4096 := by
  obtain ⟨p, rfl, hp⟩ := h
  rw [nI_add]
  exact vp_in_nI (by omega) (by decide)
theorem MA.kd {x : Int32} {N i : Nat} (h : MA x N) (hi : i ≤ N) (hk : ¬ kd i < 0) : vp_in (x + kd i) 4096 := by
  match i, hk with
  | 0, hk => exact absurd (by decide) hk
  | i + 1, _ => exact h.at (by omega)
theorem MA.sub {x : Int32} {N M : Nat} (k : Nat) (h : MA x N) (hk : k + M ≤ N) : MA (x + nI k) M := by
  obtain ⟨p, rfl, hp⟩ := h
  exact ⟨p + k, nI_add p k, by omega⟩
theorem MA.le {x : Int32} {N M : Nat} (h : MA x N) (hk : M ≤ N) : MA x M := by
  obtain ⟨p, e, hp⟩ := h
  exact ⟨p, e, by omega⟩
theorem MA.at0 {x : Int32} {N : Nat} (h : MA x N) (hN : 0 < N) : vp_in x 4096 := by
  obtain ⟨p, rfl, hp⟩ := h
  exact vp_in_nI (by omega) (by decide)
def S_X9_isIn (u : Nat → Int32) (g : Nat → Nat → Int32) (a : Int32) (b : Int32) (c : Int32) : Int32 :=
  if a < b then 0
  else if c < a then 0
    else 1
set_option maxHeartbeats 1000000 in
set_option maxRecDepth 100000 in
theorem c_X9_isIn (ε : ET) (ad : Nat → Nat) (v : Nat → Int32) (f : Nat → Nat → Int32) (u : Nat → Int32) (g : Nat → Nat → Int32) (a : Int32) (b : Int32) (c : Int32)  : CT ε yX9_isIn cX9_isIn 3 (some .boolean) 0 0 0 0 [.int a, .int b, .int c] (WD ε ad v f u g) (DT (some (.int (S_X9_isIn u g a b c))) (WD ε ad v f u g)) := by
  refine CT.of (own := RX9) (by decide) rfl (Nat.le_of_ble_eq_true rfl) (fun κ C hQ => ?_)
  refine j_iload_n (i := 0) C dX9_isIn_0 rfl 0 rfl ?_
  refine j_iload_n (i := 1) C dX9_isIn_1 rfl 1 rfl ?_
  refine j_icmp_lt (tgt := 14) C dX9_isIn_2 (by decide) (fun c_1 => ?_) (fun c_1 => ?_)
  · refine j_iconst (x := 0) C dX9_isIn_14 (by decide) ?_
    have hs : S_X9_isIn u g a b c = 0 := by unfold S_X9_isIn; rw [if_pos c_1]
    exact j_zret C hQ rfl rfl dX9_isIn_15 (dt_iM hs)
  · refine j_iload_n (i := 0) C dX9_isIn_5 rfl 0 rfl ?_
    refine j_iload_n (i := 2) C dX9_isIn_6 rfl 2 rfl ?_
    refine j_icmp_gt (tgt := 14) C dX9_isIn_7 (by decide) (fun c_2 => ?_) (fun c_2 => ?_)
    · refine j_iconst (x := 0) C dX9_isIn_14 (by decide) ?_
      have hs : S_X9_isIn u g a b c = 0 := by unfold S_X9_isIn; rw [if_neg c_1, if_pos c_2]
      exact j_zret C hQ rfl rfl dX9_isIn_15 (dt_iM hs)
    · refine j_iconst (x := 1) C dX9_isIn_10 (by decide) ?_
      refine j_goto (tgt := 15) C dX9_isIn_11 (by decide) ?_
      have hs : S_X9_isIn u g a b c = 1 := by unfold S_X9_isIn; rw [if_neg c_1, if_neg c_2]
      exact j_zret C hQ rfl rfl dX9_isIn_15 (dt_iM hs)
theorem in_of {u : Nat → Int32} {g : Nat → Nat → Int32} {a b c : Int32} (h : ¬ (S_X9_isIn u g a b c) = 0) : b.toInt ≤ a.toInt ∧ a.toInt ≤ c.toInt := by
  unfold S_X9_isIn at h
  split at h
  · exact absurd rfl h
  · split at h
    · exact absurd rfl h
    · rename_i h1 h2
      rw [Int32.lt_iff_toInt_lt] at h1 h2
      omega
theorem in_vp {u : Nat → Int32} {g : Nat → Nat → Int32} {a c : Int32} {N : Nat} (h : ¬ (S_X9_isIn u g a 0 c) = 0) (hc : c.toInt + 1 = N) : vp_in a N := by
  have := in_of h
  have e : (0 : Int32).toInt = 0 := rfl
  rw [vp_in_iff]
  omega

def L_X9_number (u : Nat → Int32) (g : Nat → Nat → Int32) (a : Int32) (N : Nat) : Nat → Nat → Int64 → Int64
  | 0, i, x => 0
  | d1 + 1, i, x =>
    if (kd i) < 0 then x
    else (L_X9_number u g a N d1 (i - 1) ((x <<< ((8 : Int32).toInt64 &&& 63)) ||| (((((g 23) ((a + (kd i))).toNatClampNeg) &&& 255) : Int32).toInt64)))
def S_X9_number (u : Nat → Int32) (g : Nat → Nat → Int32) (a : Int32) (N : Nat) : Int64 :=
  (L_X9_number u g a N (N + 1) N 0)
set_option maxHeartbeats 1000000 in
set_option maxRecDepth 100000 in
theorem c_X9_number (ε : ET) (ad : Nat → Nat) (v : Nat → Int32) (f : Nat → Nat → Int32) (u : Nat → Int32) (g : Nat → Nat → Int32) (a : Int32) (N : Nat) (hN : N < 2 ^ 31) (hm : MA a N) : CT ε yX9_number cX9_number 6 (some .long) 0 0 0 0 [.ref (ad 22), .int a, .int (nI N)] (WD ε ad v f u g) (DT (some (.long (S_X9_number u g a N))) (WD ε ad v f u g)) := by
  refine CT.of (own := RX9) (by decide) rfl (Nat.le_of_ble_eq_true rfl) (fun κ C hQ => ?_)
  refine j_lconst (x := 0) C dX9_number_0 (by decide) ?_
  refine j_lstore_n (i := 3) (lv' := [(3, .long 0), (0, .ref (ad 22)), (1, .int a), (2, .int (nI N))]) C dX9_number_1 rfl (by decide) rfl ?_
  refine j_iload_n (i := 2) C dX9_number_2 rfl 3 rfl ?_
  refine j_iconst (x := 1) C dX9_number_3 (by decide) ?_
  refine j_isub C dX9_number_4 ?_
  refine j_istore (i := 5) (lv' := [(5, .int ((nI N) - 1)), (3, .long 0), (0, .ref (ad 22)), (1, .int a), (2, .int (nI N))]) C dX9_number_5 (by decide) rfl ?_
  refine j_to (lv2 := [(5, .int (kd N)), (3, .long 0), (0, .ref (ad 22)), (1, .int a), (2, .int (nI N))]) rfl (by rw [kd_of]) rfl ?_
  have hw1 : ∀ (d1 : Nat) (i : Nat) (x : Int64), (i ≤ N) → i < d1 → L_X9_number u g a N d1 i x = S_X9_number u g a N → JW κ 0 0 (WD ε ad v f u g) 7 [(5, .int (kd i)), (3, .long x), (0, .ref (ad 22)), (1, .int a), (2, .int (nI N))] [] := by
    intro d1
    induction d1 with
    | zero => intro i x hi hm9 _; exact absurd hm9 (Nat.not_lt_zero _)
    | succ d1 ih1 =>
      intro i x hi hm1 hS1
      refine j_iload (i := 5) C dX9_number_7 0 rfl ?_
      refine j_if_lt (tgt := 38) C dX9_number_9 (by decide) (fun c_1 => ?_) (fun c_1 => ?_)
      · refine j_lload_n (i := 3) C dX9_number_38 rfl 1 rfl ?_
        have hs : S_X9_number u g a N = x := by rw [← hS1, L_X9_number]; rw [if_pos c_1]
        exact j_lret C hQ rfl dX9_number_39 (dt_lM hs)
      · refine j_lload_n (i := 3) C dX9_number_12 rfl 1 rfl ?_
        refine j_bipush (x := 8) C dX9_number_13 (by decide) ?_
        refine j_lshl C dX9_number_15 ?_
        refine j_aload_n (i := 0) C dX9_number_16 rfl 2 rfl ?_
        refine g_22_memory C dX9_number_17 lf_X9_1 ?_
        refine j_iload_n (i := 1) C dX9_number_20 rfl 3 rfl ?_
        refine j_iload (i := 5) C dX9_number_21 0 rfl ?_
        refine j_iadd C dX9_number_23 ?_
        refine al_23 (F := (g 23)) C dX9_number_24 (MA.kd hm hi c_1) rfl ?_
        refine j_sipush (x := 255) C dX9_number_25 (by decide) ?_
        refine j_iand C dX9_number_28 ?_
        refine j_i2l C dX9_number_29 ?_
        refine j_lor C dX9_number_30 ?_
        refine j_lstore_n (i := 3) (lv' := [(3, .long ((x <<< ((8 : Int32).toInt64 &&& 63)) ||| (((((g 23) ((a + (kd i))).toNatClampNeg) &&& 255) : Int32).toInt64))), (5, .int (kd i)), (0, .ref (ad 22)), (1, .int a), (2, .int (nI N))]) C dX9_number_31 rfl (by decide) rfl ?_
        refine j_iinc (y := (kd (i - 1))) (lv' := [(5, .int (kd (i - 1))), (3, .long ((x <<< ((8 : Int32).toInt64 &&& 63)) ||| (((((g 23) ((a + (kd i))).toNatClampNeg) &&& 255) : Int32).toInt64))), (0, .ref (ad 22)), (1, .int a), (2, .int (nI N))]) C dX9_number_32 1 rfl (kd_dec c_1) (by decide) rfl ?_
        refine j_goto (tgt := 7) C dX9_number_35 (by decide) ?_
        refine j_lv (lv' := [(5, .int (kd (i - 1))), (3, .long ((x <<< ((8 : Int32).toInt64 &&& 63)) ||| (((((g 23) ((a + (kd i))).toNatClampNeg) &&& 255) : Int32).toInt64))), (0, .ref (ad 22)), (1, .int a), (2, .int (nI N))]) [0, 1, 2, 3, 4] rfl ?_
        exact ih1 (i - 1) ((x <<< ((8 : Int32).toInt64 &&& 63)) ||| (((((g 23) ((a + (kd i))).toNatClampNeg) &&& 255) : Int32).toInt64)) (by omega) (by have := kd_ge c_1; omega) (by rw [← hS1, L_X9_number]; rw [if_neg c_1])
  exact hw1 (N + 1) N 0 (Nat.le_refl N) (by omega) rfl

def L_X9_put (u : Nat → Int32) (g : Nat → Nat → Int32) (a : Int32) (x : Int64) (N : Nat) : Nat → (Nat → Nat → Int32)
  | 0 => g
  | i1 + 1 =>
    (va_up (L_X9_put u g a x N i1) 23 (upd ((L_X9_put u g a x N i1) 23) ((a + (nI i1))).toNatClampNeg (vp_nar .byte (((((x >>> (((nI (8 * i1)) : Int32).toInt64 &&& 63)) : Int64).toInt32) : Int32).toInt8.toInt32))))
def S_X9_put (u : Nat → Int32) (g : Nat → Nat → Int32) (a : Int32) (x : Int64) (N : Nat) : (Nat → Nat → Int32) :=
  (L_X9_put u g a x N N)
set_option maxHeartbeats 1000000 in
set_option maxRecDepth 100000 in
theorem c_X9_put (ε : ET) (ad : Nat → Nat) (v : Nat → Int32) (f : Nat → Nat → Int32) (u : Nat → Int32) (g : Nat → Nat → Int32) (a : Int32) (x : Int64) (N : Nat) (hN : N < 2 ^ 31) (hm : MA a N) : CT ε yX9_put cX9_put 6 none 0 0 0 0 [.ref (ad 22), .int a, .int (nI N), .long x] (WD ε ad v f u g) (DT none (WD ε ad v f u (S_X9_put u g a x N))) := by
  refine CT.of (own := RX9) (by decide) rfl (Nat.le_of_ble_eq_true rfl) (fun κ C hQ => ?_)
  refine j_iconst (x := 0) C dX9_put_0 (by decide) ?_
  refine j_istore (i := 5) (lv' := [(5, .int 0), (0, .ref (ad 22)), (1, .int a), (2, .int (nI N)), (3, .long x)]) C dX9_put_1 (by decide) rfl ?_
  have hx1 : JW κ 0 0 (WD ε ad v f u (L_X9_put u g a x N N)) 33 [(5, .int (nI N)), (0, .ref (ad 22)), (1, .int a), (2, .int (nI N)), (3, .long x)] [] := by
    have hs : S_X9_put u g a x N = (L_X9_put u g a x N N) := by unfold S_X9_put; rfl
    exact j_vret C hQ rfl dX9_put_33 (dt_nfM hs)
  have lp1 : ∀ d1 i1 : Nat, i1 + d1 = N → JW κ 0 0 (WD ε ad v f u (L_X9_put u g a x N i1)) 3 [(5, .int (nI i1)), (0, .ref (ad 22)), (1, .int a), (2, .int (nI N)), (3, .long x)] [] := by
    intro d1
    induction d1 with
    | zero =>
      intro i1 hi
      have e9 : i1 = N := by omega
      rw [e9]
      have lf1 : (nI N) ≤ (nI N) := Int32.le_refl _
      refine j_iload (i := 5) C dX9_put_3 0 rfl ?_
      refine j_iload_n (i := 2) C dX9_put_5 rfl 3 rfl ?_
      refine j_icmp_ge (tgt := 33) C dX9_put_6 (by decide) (fun _ => ?_) (fun c9 => absurd lf1 c9)
      exact hx1
    | succ d1 ih1 =>
      intro i1 hi
      have hlt1 : i1 < N := by omega
      have lf1 : ¬ (nI N) ≤ (nI i1) := nI_ge hlt1 (by omega)
      refine j_iload (i := 5) C dX9_put_3 0 rfl ?_
      refine j_iload_n (i := 2) C dX9_put_5 rfl 3 rfl ?_
      refine j_icmp_ge (tgt := 33) C dX9_put_6 (by decide) (fun c9 => absurd c9 lf1) (fun _ => ?_)
      refine j_aload_n (i := 0) C dX9_put_9 rfl 1 rfl ?_
      refine g_22_memory C dX9_put_10 lf_X9_1 ?_
      refine j_iload_n (i := 1) C dX9_put_13 rfl 2 rfl ?_
      refine j_iload (i := 5) C dX9_put_14 0 rfl ?_
      refine j_iadd C dX9_put_16 ?_
      refine j_lload_n (i := 3) C dX9_put_17 rfl 4 rfl ?_
      refine j_bipush (x := 8) C dX9_put_18 (by decide) ?_
      refine j_iload (i := 5) C dX9_put_20 0 rfl ?_
      refine j_imulN (a := 8) (b := i1) C dX9_put_22 rfl rfl ?_
      refine j_lshr C dX9_put_23 ?_
      refine j_l2i C dX9_put_24 ?_
      refine j_i2b C dX9_put_25 ?_
      refine as_23 (F2 := ((L_X9_put u g a x N i1) 23)) (F := (upd ((L_X9_put u g a x N i1) 23) ((a + (nI i1))).toNatClampNeg (vp_nar .byte (((((x >>> (((nI (8 * i1)) : Int32).toInt64 &&& 63)) : Int64).toInt32) : Int32).toInt8.toInt32)))) C dX9_put_26 (hm.at hlt1) rfl rfl ?_
      refine j_iinc (y := (nI (i1 + 1))) (lv' := [(5, .int (nI (i1 + 1))), (0, .ref (ad 22)), (1, .int a), (2, .int (nI N)), (3, .long x)]) C dX9_put_27 0 rfl (nI_1 _) (by decide) rfl ?_
      refine j_goto (tgt := 3) C dX9_put_30 (by decide) ?_
      refine j_lv (lv' := [(5, .int (nI (i1 + 1))), (0, .ref (ad 22)), (1, .int a), (2, .int (nI N)), (3, .long x)]) [0, 1, 2, 3, 4] rfl ?_
      have e8 := ih1 (i1 + 1) (by omega)
      rw [L_X9_put] at e8
      try dsimp only at e8
      exact e8
  have e7 := lp1 N 0 (by omega)
  rw [L_X9_put] at e7
  try dsimp only at e7
  exact e7

def S_X9_frameByte (u : Nat → Int32) (g : Nat → Nat → Int32) (a : Int64) (b : Int32) : Int32 :=
  ((((((a >>> (((8 * (b - b / 8 * 8)) : Int32).toInt64 &&& 63)) &&& 255) : Int64).toInt32) + b) &&& 255)
set_option maxHeartbeats 1000000 in
set_option maxRecDepth 100000 in
theorem c_X9_frameByte (ε : ET) (ad : Nat → Nat) (v : Nat → Int32) (f : Nat → Nat → Int32) (u : Nat → Int32) (g : Nat → Nat → Int32) (a : Int64) (b : Int32)  : CT ε yX9_frameByte cX9_frameByte 3 (some .int) 0 0 0 0 [.long a, .int b] (WD ε ad v f u g) (DT (some (.int (S_X9_frameByte u g a b))) (WD ε ad v f u g)) := by
  refine CT.of (own := RX9) (by decide) rfl (Nat.le_of_ble_eq_true rfl) (fun κ C hQ => ?_)
  refine j_lload_n (i := 0) C dX9_frameByte_0 rfl 0 rfl ?_
  refine j_bipush (x := 8) C dX9_frameByte_1 (by decide) ?_
  refine j_iload_n (i := 2) C dX9_frameByte_3 rfl 1 rfl ?_
  refine j_bipush (x := 8) C dX9_frameByte_4 (by decide) ?_
  refine j_irem C dX9_frameByte_6 (by decide) ?_
  refine j_imul C dX9_frameByte_7 ?_
  refine j_lshr C dX9_frameByte_8 ?_
  refine j_ldc2 C dX9_frameByte_9 ll_X9_168 ?_
  refine j_land C dX9_frameByte_12 ?_
  refine j_l2i C dX9_frameByte_13 ?_
  refine j_iload_n (i := 2) C dX9_frameByte_14 rfl 1 rfl ?_
  refine j_iadd C dX9_frameByte_15 ?_
  refine j_sipush (x := 255) C dX9_frameByte_16 (by decide) ?_
  refine j_iand C dX9_frameByte_19 ?_
  have hs : S_X9_frameByte u g a b = ((((((a >>> (((8 * (b - b / 8 * 8)) : Int32).toInt64 &&& 63)) &&& 255) : Int64).toInt32) + b) &&& 255) := by unfold S_X9_frameByte; rfl
  exact j_iret C hQ rfl dX9_frameByte_20 (dt_iM hs)

def S_X9_run (u : Nat → Int32) (g : Nat → Nat → Int32)  : Int32 × (Nat → Int32) :=
  if (u 0) = 0 then (0, (upd u 0 1))
  else ((-2), u)
set_option maxHeartbeats 1000000 in
set_option maxRecDepth 100000 in
theorem c_X9_run (ε : ET) (ad : Nat → Nat) (v : Nat → Int32) (f : Nat → Nat → Int32) (u : Nat → Int32) (g : Nat → Nat → Int32)   : CT ε yX9_run cX9_run 1 (some .int) 0 0 0 0 [.ref (ad 22)] (WD ε ad v f u g) (DT (some (.int ((S_X9_run u g).1))) (WD ε ad v f ((S_X9_run u g).2) g)) := by
  refine CT.of (own := RX9) (by decide) rfl (Nat.le_of_ble_eq_true rfl) (fun κ C hQ => ?_)
  refine j_aload_n (i := 0) C dX9_run_0 rfl 0 rfl ?_
  refine g_22_state (x := (u 0)) C dX9_run_1 lf_X9_86 rfl ?_
  refine j_if_eq (tgt := 10) C dX9_run_4 (by decide) (fun c_1 => ?_) (fun c_1 => ?_)
  · refine j_aload_n (i := 0) C dX9_run_10 rfl 0 rfl ?_
    refine j_iconst (x := 1) C dX9_run_11 (by decide) ?_
    refine p_22_state C dX9_run_12 lf_X9_86 ?_
    refine j_iconst (x := 0) C dX9_run_15 (by decide) ?_
    have hs : S_X9_run u g = (0, (upd u 0 1)) := by unfold S_X9_run; rw [if_pos c_1]
    exact j_iret C hQ rfl dX9_run_16 (dt_ivM hs)
  · refine j_bipush (x := (-2)) C dX9_run_7 (by decide) ?_
    have hs : S_X9_run u g = ((-2), u) := by unfold S_X9_run; rw [if_neg c_1]
    exact j_iret C hQ rfl dX9_run_9 (dt_ivM hs)

def S_X9_count (u : Nat → Int32) (g : Nat → Nat → Int32) (a : Int32) : Int32 :=
  if a = 0 then (u 0)
  else if a = 1 then (u 9)
    else if a = 2 then (u 10)
      else if a = 3 then (u 11)
        else if a = 4 then if (u 1) = 0 then 0
            else 1
          else (-2)
set_option maxHeartbeats 1000000 in
set_option maxRecDepth 100000 in
theorem c_X9_count (ε : ET) (ad : Nat → Nat) (v : Nat → Int32) (f : Nat → Nat → Int32) (u : Nat → Int32) (g : Nat → Nat → Int32) (a : Int32)  : CT ε yX9_count cX9_count 2 (some .int) 0 0 0 0 [.ref (ad 22), .int a] (WD ε ad v f u g) (DT (some (.int (S_X9_count u g a))) (WD ε ad v f u g)) := by
  refine CT.of (own := RX9) (by decide) rfl (Nat.le_of_ble_eq_true rfl) (fun κ C hQ => ?_)
  refine j_iload_n (i := 1) C dX9_count_0 rfl 1 rfl ?_
  by_cases c_1 : a = 0
  · refine j_tswIn (kv := 0) (off := 35) (tgt := 36) C dX9_count_1 c_1 (by decide) (by decide) (by decide) (by decide) ?_
    refine j_aload_n (i := 0) C dX9_count_36 rfl 0 rfl ?_
    refine g_22_state (x := (u 0)) C dX9_count_37 lf_X9_86 rfl ?_
    have hs : S_X9_count u g a = (u 0) := by unfold S_X9_count; rw [if_pos c_1]
    exact j_iret C hQ rfl dX9_count_40 (dt_iM hs)
  · by_cases c_2 : a = 1
    · refine j_tswIn (kv := 1) (off := 40) (tgt := 41) C dX9_count_1 c_2 (by decide) (by decide) (by decide) (by decide) ?_
      refine j_aload_n (i := 0) C dX9_count_41 rfl 0 rfl ?_
      refine g_22_went (x := (u 9)) C dX9_count_42 lf_X9_165 rfl ?_
      have hs : S_X9_count u g a = (u 9) := by unfold S_X9_count; rw [if_neg c_1, if_pos c_2]
      exact j_iret C hQ rfl dX9_count_45 (dt_iM hs)
    · by_cases c_3 : a = 2
      · refine j_tswIn (kv := 2) (off := 45) (tgt := 46) C dX9_count_1 c_3 (by decide) (by decide) (by decide) (by decide) ?_
        refine j_aload_n (i := 0) C dX9_count_46 rfl 0 rfl ?_
        refine g_22_came (x := (u 10)) C dX9_count_47 lf_X9_177 rfl ?_
        have hs : S_X9_count u g a = (u 10) := by unfold S_X9_count; rw [if_neg c_1, if_neg c_2, if_pos c_3]
        exact j_iret C hQ rfl dX9_count_50 (dt_iM hs)
      · by_cases c_4 : a = 3
        · refine j_tswIn (kv := 3) (off := 50) (tgt := 51) C dX9_count_1 c_4 (by decide) (by decide) (by decide) (by decide) ?_
          refine j_aload_n (i := 0) C dX9_count_51 rfl 0 rfl ?_
          refine g_22_dropped (x := (u 11)) C dX9_count_52 lf_X9_170 rfl ?_
          have hs : S_X9_count u g a = (u 11) := by unfold S_X9_count; rw [if_neg c_1, if_neg c_2, if_neg c_3, if_pos c_4]
          exact j_iret C hQ rfl dX9_count_55 (dt_iM hs)
        · by_cases c_5 : a = 4
          · refine j_tswIn (kv := 4) (off := 55) (tgt := 56) C dX9_count_1 c_5 (by decide) (by decide) (by decide) (by decide) ?_
            refine j_aload_n (i := 0) C dX9_count_56 rfl 0 rfl ?_
            refine g_22_tables (x := (u 1)) C dX9_count_57 lf_X9_79 rfl ?_
            refine j_if_eq (tgt := 67) C dX9_count_60 (by decide) (fun c_6 => ?_) (fun c_6 => ?_)
            · refine j_iconst (x := 0) C dX9_count_67 (by decide) ?_
              have hs : S_X9_count u g a = 0 := by unfold S_X9_count; rw [if_neg c_1, if_neg c_2, if_neg c_3, if_neg c_4, if_pos c_5, if_pos c_6]
              exact j_iret C hQ rfl dX9_count_68 (dt_iM hs)
            · refine j_iconst (x := 1) C dX9_count_63 (by decide) ?_
              refine j_goto (tgt := 68) C dX9_count_64 (by decide) ?_
              have hs : S_X9_count u g a = 1 := by unfold S_X9_count; rw [if_neg c_1, if_neg c_2, if_neg c_3, if_neg c_4, if_pos c_5, if_neg c_6]
              exact j_iret C hQ rfl dX9_count_68 (dt_iM hs)
          · refine j_tswOut (tgt := 69) C dX9_count_1 (tsw_out (hi := 4) (by decide) (fun j hj => by match j, hj with | 0, _ => exact c_1 | 1, _ => exact c_2 | 2, _ => exact c_3 | 3, _ => exact c_4 | 4, _ => exact c_5 | j + 5, hj => omega)) (by decide) ?_
            refine j_bipush (x := (-2)) C dX9_count_69 (by decide) ?_
            have hs : S_X9_count u g a = (-2) := by unfold S_X9_count; rw [if_neg c_1, if_neg c_2, if_neg c_3, if_neg c_4, if_neg c_5]
            exact j_iret C hQ rfl dX9_count_71 (dt_iM hs)

