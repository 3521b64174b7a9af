/-- a constructor's contract -/
theorem CT.ofI {ε : ET} {y : MethodName} {own : String} {cc : ByteArray} {nL : Nat} {ret : Option FieldType} {fr lo mc ms : Nat} {av : List Value} {ω : va_W} {P : Option Value → va_W → Prop} (hy : plainName y.cls = true) (ho : y.cls = own) (hi9 : y.name = "<init>") (hl : (lg_sl av).length ≤ nL)
    (body : ∀ κ : KT, CX κ ε own cc nL ret fr lo mc ms → RQ κ ε P mc ms → IN κ → JW κ 0 0 ω 0 (lv_args 0 av) []) : CT ε y cc nL ret fr lo mc ms av ω P := by
  intro l sz
  refine Met.ofW (cc := cc) (maxL := nL) (ret := ret) hy rfl ?_
  intro p e s m args below meth c s₁ B hml hv
  obtain ⟨rfl, hsz, hP, hD0, hG⟩ := hv
  have hts := atoms_spec (ws := .code y cc nL ret :: TB) B.pre
  have hown : s.vm.findClass own = some m.cls := ho ▸ findClass_of_methodNamed B.named
  subst hsz
  have hD := hD0.self (sz := s.heap.size)
  have hA : ∀ q : Nat, s.heap.size ≤ q → va_A ω s.heap.size q := fun q h => Or.inr h
  have hl1 := lv_entry av (n := nL) hl
  rw [lg_entry_eq]
  exact body (p, l, e, _, s, m, _, below, meth, c, va_A ω s.heap.size, _, ε, nL) ⟨⟨B.exec, B.bytes, hml, hown, fun w h => hts w (List.mem_cons_of_mem _ h)⟩, B.returns, B.notSynchronized, hA, hG, rfl, rfl, rfl⟩ rfl ((name_of_methodNamed B.named B.method).1.trans hi9) s.heap [] _ hP hD va_S.rf hl1
theorem gA {ω L : va_W} {k : Nat} {x : Nat × va_E} (h : L[k]? = some x) : (ω ++ L)[ω.length + k]? = some x := by
  rw [List.getElem?_append_right (by omega), Nat.add_sub_cancel_left]
  exact h
theorem sA {ω L : va_W} {k : Nat} {x : Nat × va_E} : (ω ++ L).set (ω.length + k) x = ω ++ L.set k x := by
  rw [List.set_append_right _ _ (by omega), Nat.add_sub_cancel_left]
/-- a new object's word -/
theorem dv {N : Nat} {ty : Nat → FieldType} {fs : List Value} (h : (List.range N).all (fun j => decide (defaultValue (ty j) = vp_V fs j)) = true) : ∀ j, j < N → defaultValue (ty j) = vp_V fs j := fun j hj => by
  have := List.all_eq_true.mp h j (List.mem_range.mpr hj)
  exact of_decide_eq_true this
set_option maxHeartbeats 1000000 in
set_option maxRecDepth 100000 in
theorem c_X5_init (ε : ET) (h0 : Nat) (ω : va_W) : CT ε yX5_init cX5_init 1 none 1 12 1 4096 [.ref h0] (ω ++ [(h0, .inr (5, [.null]))]) (fun r ω' => r = none ∧ ∃ q1 : Nat, ω' = ω ++ [(h0, .inr (5, [.ref q1])), (q1, .inl (ε.2.1, 4096, .inl (fun _ => 0)))]) := by
  refine CT.ofI (own := RX5) (by decide) rfl rfl (Nat.le_of_ble_eq_true rfl) (fun κ C hQ hin => ?_)
  refine j_aload_n (i := 0) C dX5_init_0 rfl 0 rfl ?_
  refine j_objInit C lm_X5_3 dX5_init_1 ⟨by decide, Nat.le_of_ble_eq_true rfl⟩ ?_
  refine j_aload_n (i := 0) C dX5_init_4 rfl 0 rfl ?_
  refine j_sipush (x := 4096) C dX5_init_5 (by decide) ?_
  refine j_newB (N := 4096) C dX5_init_8 (by decide) (by decide) (by decide) (by decide) (fun q1 => ?_)
  refine j_to (ω' := ω ++ [(h0, .inr (5, [.null])), (q1, .inl (ε.2.1, 4096, .inl (fun _ => 0)))]) (List.append_assoc _ _ _) rfl rfl ?_
  refine j_putF (ω' := ω ++ [(h0, .inr (5, [.ref q1])), (q1, .inl (ε.2.1, 4096, .inl (fun _ => 0)))]) C hin dX5_init_10 (ω.length + 0) (gA (k := 0) rfl) inX5 tyX5 tyX5_ok nmX5 rfl 0 (by decide) lf_X5_9 rfl rfl rfl rfl rfl (Nat.le_of_ble_eq_true rfl) sA ?_
  exact j_vret C hQ rfl dX5_init_13 ⟨rfl, q1, rfl⟩

set_option maxHeartbeats 1000000 in
set_option maxRecDepth 100000 in
theorem c_X6_init (ε : ET) (h0 hm : Nat) (ω : va_W) : CT ε yX6_init cX6_init 2 none 1 12 0 0 [.ref h0, .ref hm] (ω ++ [(h0, .inr (6, [.null, .int 0, .int 0, .int 0, .int 0, .int 0, .int 0, .int 0, .int 0]))]) (fun r ω' => r = none ∧ ω' = ω ++ [(h0, .inr (6, [.ref hm, .int 0, .int 0, .int 0, .int 0, .int 0, .int 0, .int 0, .int 0]))]) := by
  refine CT.ofI (own := RX6) (by decide) rfl rfl (Nat.le_of_ble_eq_true rfl) (fun κ C hQ hin => ?_)
  refine j_aload_n (i := 0) C dX6_init_0 rfl 0 rfl ?_
  refine j_objInit C lm_X6_3 dX6_init_1 ⟨by decide, Nat.le_of_ble_eq_true rfl⟩ ?_
  refine j_aload_n (i := 0) C dX6_init_4 rfl 0 rfl ?_
  refine j_aload_n (i := 1) C dX6_init_5 rfl 1 rfl ?_
  refine j_putF (ω' := ω ++ [(h0, .inr (6, [.ref hm, .int 0, .int 0, .int 0, .int 0, .int 0, .int 0, .int 0, .int 0]))]) C hin dX6_init_6 (ω.length + 0) (gA (k := 0) rfl) inX6 tyX6 tyX6_ok nmX6 rfl 0 (by decide) lf_X6_9 rfl rfl rfl rfl rfl (Nat.le_of_ble_eq_true rfl) sA ?_
  exact j_vret C hQ rfl dX6_init_9 ⟨rfl, rfl⟩

set_option maxHeartbeats 1000000 in
set_option maxRecDepth 100000 in
theorem c_X0_init (ε : ET) (h0 hm : Nat) (ω : va_W) : CT ε yX0_init cX0_init 2 none 1 12 2 32 [.ref h0, .ref hm] (ω ++ [(h0, .inr (0, [.null, .null, .null, .int 0, .int 0, .int 0, .int 0, .int 0, .int 0, .int 0, .int 0, .int 0]))]) (fun r ω' => r = none ∧ ∃ q1 q2 : Nat, ω' = ω ++ [(h0, .inr (0, [.ref hm, .ref q1, .ref q2, .int 0, .int 0, .int 0, .int 0, .int 0, .int 0, .int 0, .int 0, .int 0])), (q1, .inl (ε.2.2.1, 16, .inl (fun _ => 0))), (q2, .inl (ε.2.2.1, 16, .inl (fun _ => 0)))]) := by
  refine CT.ofI (own := RX0) (by decide) rfl rfl (Nat.le_of_ble_eq_true rfl) (fun κ C hQ hin => ?_)
  refine j_aload_n (i := 0) C dX0_init_0 rfl 0 rfl ?_
  refine j_objInit C lm_X0_3 dX0_init_1 ⟨by decide, Nat.le_of_ble_eq_true rfl⟩ ?_
  refine j_aload_n (i := 0) C dX0_init_4 rfl 0 rfl ?_
  refine j_aload_n (i := 1) C dX0_init_5 rfl 1 rfl ?_
  refine j_putF (ω' := ω ++ [(h0, .inr (0, [.ref hm, .null, .null, .int 0, .int 0, .int 0, .int 0, .int 0, .int 0, .int 0, .int 0, .int 0]))]) C hin dX0_init_6 (ω.length + 0) (gA (k := 0) rfl) inX0 tyX0 tyX0_ok nmX0 rfl 0 (by decide) lf_X0_9 rfl rfl rfl rfl rfl (Nat.le_of_ble_eq_true rfl) sA ?_
  refine j_aload_n (i := 0) C dX0_init_9 rfl 0 rfl ?_
  refine j_bipush (x := 16) C dX0_init_10 (by decide) ?_
  refine j_newI (N := 16) C dX0_init_12 (by decide) (by decide) (by decide) (by decide) (fun q1 => ?_)
  refine j_to (ω' := ω ++ [(h0, .inr (0, [.ref hm, .null, .null, .int 0, .int 0, .int 0, .int 0, .int 0, .int 0, .int 0, .int 0, .int 0])), (q1, .inl (ε.2.2.1, 16, .inl (fun _ => 0)))]) (List.append_assoc _ _ _) rfl rfl ?_
  refine j_putF (ω' := ω ++ [(h0, .inr (0, [.ref hm, .ref q1, .null, .int 0, .int 0, .int 0, .int 0, .int 0, .int 0, .int 0, .int 0, .int 0])), (q1, .inl (ε.2.2.1, 16, .inl (fun _ => 0)))]) C hin dX0_init_14 (ω.length + 0) (gA (k := 0) rfl) inX0 tyX0 tyX0_ok nmX0 rfl 1 (by decide) lf_X0_15 rfl rfl rfl rfl rfl (Nat.le_of_ble_eq_true rfl) sA ?_
  refine j_aload_n (i := 0) C dX0_init_17 rfl 0 rfl ?_
  refine j_bipush (x := 16) C dX0_init_18 (by decide) ?_
  refine j_newI (N := 16) C dX0_init_20 (by decide) (by decide) (by decide) (by decide) (fun q2 => ?_)
  refine j_to (ω' := ω ++ [(h0, .inr (0, [.ref hm, .ref q1, .null, .int 0, .int 0, .int 0, .int 0, .int 0, .int 0, .int 0, .int 0, .int 0])), (q1, .inl (ε.2.2.1, 16, .inl (fun _ => 0))), (q2, .inl (ε.2.2.1, 16, .inl (fun _ => 0)))]) (List.append_assoc _ _ _) rfl rfl ?_
  refine j_putF (ω' := ω ++ [(h0, .inr (0, [.ref hm, .ref q1, .ref q2, .int 0, .int 0, .int 0, .int 0, .int 0, .int 0, .int 0, .int 0, .int 0])), (q1, .inl (ε.2.2.1, 16, .inl (fun _ => 0))), (q2, .inl (ε.2.2.1, 16, .inl (fun _ => 0)))]) C hin dX0_init_22 (ω.length + 0) (gA (k := 0) rfl) inX0 tyX0 tyX0_ok nmX0 rfl 2 (by decide) lf_X0_19 rfl rfl rfl rfl rfl (Nat.le_of_ble_eq_true rfl) sA ?_
  exact j_vret C hQ rfl dX0_init_25 ⟨rfl, q1, q2, rfl⟩

set_option maxHeartbeats 1000000 in
set_option maxRecDepth 100000 in
theorem c_X2_init (ε : ET) (h0 : Nat) (ω : va_W) : CT ε yX2_init cX2_init 1 none 1 12 1 2048 [.ref h0] (ω ++ [(h0, .inr (2, [.null]))]) (fun r ω' => r = none ∧ ∃ q1 : Nat, ω' = ω ++ [(h0, .inr (2, [.ref q1])), (q1, .inl (ε.2.1, 2048, .inl (fun _ => 0)))]) := by
  refine CT.ofI (own := RX2) (by decide) rfl rfl (Nat.le_of_ble_eq_true rfl) (fun κ C hQ hin => ?_)
  refine j_aload_n (i := 0) C dX2_init_0 rfl 0 rfl ?_
  refine j_objInit C lm_X2_3 dX2_init_1 ⟨by decide, Nat.le_of_ble_eq_true rfl⟩ ?_
  refine j_aload_n (i := 0) C dX2_init_4 rfl 0 rfl ?_
  refine j_sipush (x := 2048) C dX2_init_5 (by decide) ?_
  refine j_newB (N := 2048) C dX2_init_8 (by decide) (by decide) (by decide) (by decide) (fun q1 => ?_)
  refine j_to (ω' := ω ++ [(h0, .inr (2, [.null])), (q1, .inl (ε.2.1, 2048, .inl (fun _ => 0)))]) (List.append_assoc _ _ _) rfl rfl ?_
  refine j_putF (ω' := ω ++ [(h0, .inr (2, [.ref q1])), (q1, .inl (ε.2.1, 2048, .inl (fun _ => 0)))]) C hin dX2_init_10 (ω.length + 0) (gA (k := 0) rfl) inX2 tyX2 tyX2_ok nmX2 rfl 0 (by decide) lf_X2_9 rfl rfl rfl rfl rfl (Nat.le_of_ble_eq_true rfl) sA ?_
  exact j_vret C hQ rfl dX2_init_13 ⟨rfl, q1, rfl⟩

set_option maxHeartbeats 1000000 in
set_option maxRecDepth 100000 in
theorem c_X7_init (ε : ET) (h0 : Nat) (ω : va_W) : CT ε yX7_init cX7_init 1 none 1 12 2 1296 [.ref h0] (ω ++ [(h0, .inr (7, [.null, .null, .int 0, .int 0]))]) (fun r ω' => r = none ∧ ∃ q1 q2 : Nat, ω' = ω ++ [(h0, .inr (7, [.ref q1, .ref q2, .int 0, .int 0])), (q1, .inl (ε.2.1, 1280, .inl (fun _ => 0))), (q2, .inl (ε.2.2.1, 16, .inl (fun _ => 0)))]) := by
  refine CT.ofI (own := RX7) (by decide) rfl rfl (Nat.le_of_ble_eq_true rfl) (fun κ C hQ hin => ?_)
  refine j_aload_n (i := 0) C dX7_init_0 rfl 0 rfl ?_
  refine j_objInit C lm_X7_3 dX7_init_1 ⟨by decide, Nat.le_of_ble_eq_true rfl⟩ ?_
  refine j_aload_n (i := 0) C dX7_init_4 rfl 0 rfl ?_
  refine j_sipush (x := 1280) C dX7_init_5 (by decide) ?_
  refine j_newB (N := 1280) C dX7_init_8 (by decide) (by decide) (by decide) (by decide) (fun q1 => ?_)
  refine j_to (ω' := ω ++ [(h0, .inr (7, [.null, .null, .int 0, .int 0])), (q1, .inl (ε.2.1, 1280, .inl (fun _ => 0)))]) (List.append_assoc _ _ _) rfl rfl ?_
  refine j_putF (ω' := ω ++ [(h0, .inr (7, [.ref q1, .null, .int 0, .int 0])), (q1, .inl (ε.2.1, 1280, .inl (fun _ => 0)))]) C hin dX7_init_10 (ω.length + 0) (gA (k := 0) rfl) inX7 tyX7 tyX7_ok nmX7 rfl 0 (by decide) lf_X7_9 rfl rfl rfl rfl rfl (Nat.le_of_ble_eq_true rfl) sA ?_
  refine j_aload_n (i := 0) C dX7_init_13 rfl 0 rfl ?_
  refine j_bipush (x := 16) C dX7_init_14 (by decide) ?_
  refine j_newI (N := 16) C dX7_init_16 (by decide) (by decide) (by decide) (by decide) (fun q2 => ?_)
  refine j_to (ω' := ω ++ [(h0, .inr (7, [.ref q1, .null, .int 0, .int 0])), (q1, .inl (ε.2.1, 1280, .inl (fun _ => 0))), (q2, .inl (ε.2.2.1, 16, .inl (fun _ => 0)))]) (List.append_assoc _ _ _) rfl rfl ?_
  refine j_putF (ω' := ω ++ [(h0, .inr (7, [.ref q1, .ref q2, .int 0, .int 0])), (q1, .inl (ε.2.1, 1280, .inl (fun _ => 0))), (q2, .inl (ε.2.2.1, 16, .inl (fun _ => 0)))]) C hin dX7_init_18 (ω.length + 0) (gA (k := 0) rfl) inX7 tyX7 tyX7_ok nmX7 rfl 1 (by decide) lf_X7_15 rfl rfl rfl rfl rfl (Nat.le_of_ble_eq_true rfl) sA ?_
  exact j_vret C hQ rfl dX7_init_21 ⟨rfl, q1, q2, rfl⟩

set_option maxHeartbeats 1000000 in
set_option maxRecDepth 100000 in
theorem c_X4_init (ε : ET) (h0 : Nat) (ω : va_W) : CT ε yX4_init cX4_init 1 none 1 12 1 8 [.ref h0] (ω ++ [(h0, .inr (4, [.null, .int 0, .int 0, .int 0, .int 0]))]) (fun r ω' => r = none ∧ ∃ q1 : Nat, ω' = ω ++ [(h0, .inr (4, [.ref q1, .int 0, .int 0, .int 0, .int (-1)])), (q1, .inl (ε.2.2.1, 8, .inl (fun _ => 0)))]) := by
  refine CT.ofI (own := RX4) (by decide) rfl rfl (Nat.le_of_ble_eq_true rfl) (fun κ C hQ hin => ?_)
  refine j_aload_n (i := 0) C dX4_init_0 rfl 0 rfl ?_
  refine j_objInit C lm_X4_3 dX4_init_1 ⟨by decide, Nat.le_of_ble_eq_true rfl⟩ ?_
  refine j_aload_n (i := 0) C dX4_init_4 rfl 0 rfl ?_
  refine j_bipush (x := 8) C dX4_init_5 (by decide) ?_
  refine j_newI (N := 8) C dX4_init_7 (by decide) (by decide) (by decide) (by decide) (fun q1 => ?_)
  refine j_to (ω' := ω ++ [(h0, .inr (4, [.null, .int 0, .int 0, .int 0, .int 0])), (q1, .inl (ε.2.2.1, 8, .inl (fun _ => 0)))]) (List.append_assoc _ _ _) rfl rfl ?_
  refine j_putF (ω' := ω ++ [(h0, .inr (4, [.ref q1, .int 0, .int 0, .int 0, .int 0])), (q1, .inl (ε.2.2.1, 8, .inl (fun _ => 0)))]) C hin dX4_init_9 (ω.length + 0) (gA (k := 0) rfl) inX4 tyX4 tyX4_ok nmX4 rfl 0 (by decide) lf_X4_9 rfl rfl rfl rfl rfl (Nat.le_of_ble_eq_true rfl) sA ?_
  refine j_aload_n (i := 0) C dX4_init_12 rfl 0 rfl ?_
  refine j_iconst (x := (-1)) C dX4_init_13 (by decide) ?_
  refine j_put (ω' := ω ++ [(h0, .inr (4, [.ref q1, .int 0, .int 0, .int 0, .int (-1)])), (q1, .inl (ε.2.2.1, 8, .inl (fun _ => 0)))]) C dX4_init_14 (ω.length + 0) (gA (k := 0) rfl) inX4 tyX4 tyX4_ok nmX4 rfl 4 (by decide) lf_X4_15 rfl rfl rfl rfl (Nat.le_of_ble_eq_true rfl) sA ?_
  exact j_vret C hQ rfl dX4_init_17 ⟨rfl, q1, rfl⟩

set_option maxHeartbeats 1000000 in
set_option maxRecDepth 100000 in
theorem c_X1_init (ε : ET) (h0 hm : Nat) (ω : va_W) : CT ε yX1_init cX1_init 2 none 2 33 11 3420 [.ref h0, .ref hm] (ω ++ [(h0, .inr (1, [.null, .null, .null, .null, .null, .null, .int 0, .int 0, .int 0, .int 0]))]) (fun r ω' => r = none ∧ ∃ q1 q2 q3 q4 q5 q6 q7 q8 q9 q10 q11 : Nat, ω' = ω ++ [(h0, .inr (1, [.ref q1, .ref q2, .ref q3, .ref q4, .ref q7, .ref q9, .int 0, .int 0, .int 0, .int 0])), (q1, .inr (6, [.ref hm, .int 0, .int 0, .int 0, .int 0, .int 0, .int 0, .int 0, .int 0])), (q2, .inr (6, [.ref hm, .int 0, .int 0, .int 0, .int 0, .int 0, .int 0, .int 0, .int 0])), (q3, .inr (6, [.ref hm, .int 0, .int 0, .int 0, .int 0, .int 0, .int 0, .int 0, .int 0])), (q4, .inr (0, [.ref hm, .ref q5, .ref q6, .int 0, .int 0, .int 0, .int 0, .int 0, .int 0, .int 0, .int 0, .int 0])), (q5, .inl (ε.2.2.1, 16, .inl (fun _ => 0))), (q6, .inl (ε.2.2.1, 16, .inl (fun _ => 0))), (q7, .inr (2, [.ref q8])), (q8, .inl (ε.2.1, 2048, .inl (fun _ => 0))), (q9, .inr (7, [.ref q10, .ref q11, .int 0, .int 0])), (q10, .inl (ε.2.1, 1280, .inl (fun _ => 0))), (q11, .inl (ε.2.2.1, 16, .inl (fun _ => 0)))]) := by
  refine CT.ofI (own := RX1) (by decide) rfl rfl (Nat.le_of_ble_eq_true rfl) (fun κ C hQ hin => ?_)
  refine j_aload_n (i := 0) C dX1_init_0 rfl 0 rfl ?_
  refine j_objInit C lm_X1_3 dX1_init_1 ⟨by decide, Nat.le_of_ble_eq_true rfl⟩ ?_
  refine j_aload_n (i := 0) C dX1_init_4 rfl 0 rfl ?_
  refine j_new (ci := 6) (fs := [.null, .int 0, .int 0, .int 0, .int 0, .int 0, .int 0, .int 0, .int 0]) C dX1_init_5 inX6 tyX6 tyX6_ok lc_X1_9 wn_X6 wz_X6 rfl (dv (by decide)) (by decide) (fun q1 => ?_)
  refine j_dup C dX1_init_8 rfl ?_
  refine j_aload_n (i := 1) C dX1_init_9 rfl 1 rfl ?_
  refine j_callI (As := [.ref hm]) (rest := [.ref q1, .ref h0]) C (c_X6_init ε q1 hm (ω ++ [(h0, .inr (1, [.null, .null, .null, .null, .null, .null, .int 0, .int 0, .int 0, .int 0]))])) mi_X6_init rfl lm_X1_11 dX1_init_10 rfl rfl (by decide) (Nat.le_of_ble_eq_true rfl) (fun r9 ω9 hp => ?_)
  obtain ⟨rfl, rfl⟩ := hp
  refine j_to (ω' := ω ++ [(h0, .inr (1, [.null, .null, .null, .null, .null, .null, .int 0, .int 0, .int 0, .int 0])), (q1, .inr (6, [.ref hm, .int 0, .int 0, .int 0, .int 0, .int 0, .int 0, .int 0, .int 0]))]) (st' := [.ref q1, .ref h0]) (List.append_assoc _ _ _) rfl rfl ?_
  refine j_putF (ω' := ω ++ [(h0, .inr (1, [.ref q1, .null, .null, .null, .null, .null, .int 0, .int 0, .int 0, .int 0])), (q1, .inr (6, [.ref hm, .int 0, .int 0, .int 0, .int 0, .int 0, .int 0, .int 0, .int 0]))]) C hin dX1_init_13 (ω.length + 0) (gA (k := 0) rfl) inX1 tyX1 tyX1_ok nmX1 rfl 0 (by decide) lf_X1_14 rfl rfl rfl rfl rfl (Nat.le_of_ble_eq_true rfl) sA ?_
  refine j_aload_n (i := 0) C dX1_init_16 rfl 0 rfl ?_
  refine j_new (ci := 6) (fs := [.null, .int 0, .int 0, .int 0, .int 0, .int 0, .int 0, .int 0, .int 0]) C dX1_init_17 inX6 tyX6 tyX6_ok lc_X1_9 wn_X6 wz_X6 rfl (dv (by decide)) (by decide) (fun q2 => ?_)
  refine j_dup C dX1_init_20 rfl ?_
  refine j_aload_n (i := 1) C dX1_init_21 rfl 1 rfl ?_
  refine j_callI (As := [.ref hm]) (rest := [.ref q2, .ref h0]) C (c_X6_init ε q2 hm (ω ++ [(h0, .inr (1, [.ref q1, .null, .null, .null, .null, .null, .int 0, .int 0, .int 0, .int 0])), (q1, .inr (6, [.ref hm, .int 0, .int 0, .int 0, .int 0, .int 0, .int 0, .int 0, .int 0]))])) mi_X6_init rfl lm_X1_11 dX1_init_22 rfl rfl (by decide) (Nat.le_of_ble_eq_true rfl) (fun r9 ω9 hp => ?_)
  obtain ⟨rfl, rfl⟩ := hp
  refine j_to (ω' := ω ++ [(h0, .inr (1, [.ref q1, .null, .null, .null, .null, .null, .int 0, .int 0, .int 0, .int 0])), (q1, .inr (6, [.ref hm, .int 0, .int 0, .int 0, .int 0, .int 0, .int 0, .int 0, .int 0])), (q2, .inr (6, [.ref hm, .int 0, .int 0, .int 0, .int 0, .int 0, .int 0, .int 0, .int 0]))]) (st' := [.ref q2, .ref h0]) (List.append_assoc _ _ _) rfl rfl ?_
  refine j_putF (ω' := ω ++ [(h0, .inr (1, [.ref q1, .ref q2, .null, .null, .null, .null, .int 0, .int 0, .int 0, .int 0])), (q1, .inr (6, [.ref hm, .int 0, .int 0, .int 0, .int 0, .int 0, .int 0, .int 0, .int 0])), (q2, .inr (6, [.ref hm, .int 0, .int 0, .int 0, .int 0, .int 0, .int 0, .int 0, .int 0]))]) C hin dX1_init_25 (ω.length + 0) (gA (k := 0) rfl) inX1 tyX1 tyX1_ok nmX1 rfl 1 (by decide) lf_X1_20 rfl rfl rfl rfl rfl (Nat.le_of_ble_eq_true rfl) sA ?_
  refine j_aload_n (i := 0) C dX1_init_28 rfl 0 rfl ?_
  refine j_new (ci := 6) (fs := [.null, .int 0, .int 0, .int 0, .int 0, .int 0, .int 0, .int 0, .int 0]) C dX1_init_29 inX6 tyX6 tyX6_ok lc_X1_9 wn_X6 wz_X6 rfl (dv (by decide)) (by decide) (fun q3 => ?_)
  refine j_dup C dX1_init_32 rfl ?_
  refine j_aload_n (i := 1) C dX1_init_33 rfl 1 rfl ?_
  refine j_callI (As := [.ref hm]) (rest := [.ref q3, .ref h0]) C (c_X6_init ε q3 hm (ω ++ [(h0, .inr (1, [.ref q1, .ref q2, .null, .null, .null, .null, .int 0, .int 0, .int 0, .int 0])), (q1, .inr (6, [.ref hm, .int 0, .int 0, .int 0, .int 0, .int 0, .int 0, .int 0, .int 0])), (q2, .inr (6, [.ref hm, .int 0, .int 0, .int 0, .int 0, .int 0, .int 0, .int 0, .int 0]))])) mi_X6_init rfl lm_X1_11 dX1_init_34 rfl rfl (by decide) (Nat.le_of_ble_eq_true rfl) (fun r9 ω9 hp => ?_)
  obtain ⟨rfl, rfl⟩ := hp
  refine j_to (ω' := ω ++ [(h0, .inr (1, [.ref q1, .ref q2, .null, .null, .null, .null, .int 0, .int 0, .int 0, .int 0])), (q1, .inr (6, [.ref hm, .int 0, .int 0, .int 0, .int 0, .int 0, .int 0, .int 0, .int 0])), (q2, .inr (6, [.ref hm, .int 0, .int 0, .int 0, .int 0, .int 0, .int 0, .int 0, .int 0])), (q3, .inr (6, [.ref hm, .int 0, .int 0, .int 0, .int 0, .int 0, .int 0, .int 0, .int 0]))]) (st' := [.ref q3, .ref h0]) (List.append_assoc _ _ _) rfl rfl ?_
  refine j_putF (ω' := ω ++ [(h0, .inr (1, [.ref q1, .ref q2, .ref q3, .null, .null, .null, .int 0, .int 0, .int 0, .int 0])), (q1, .inr (6, [.ref hm, .int 0, .int 0, .int 0, .int 0, .int 0, .int 0, .int 0, .int 0])), (q2, .inr (6, [.ref hm, .int 0, .int 0, .int 0, .int 0, .int 0, .int 0, .int 0, .int 0])), (q3, .inr (6, [.ref hm, .int 0, .int 0, .int 0, .int 0, .int 0, .int 0, .int 0, .int 0]))]) C hin dX1_init_37 (ω.length + 0) (gA (k := 0) rfl) inX1 tyX1 tyX1_ok nmX1 rfl 2 (by decide) lf_X1_23 rfl rfl rfl rfl rfl (Nat.le_of_ble_eq_true rfl) sA ?_
  refine j_aload_n (i := 0) C dX1_init_40 rfl 0 rfl ?_
  refine j_new (ci := 0) (fs := [.null, .null, .null, .int 0, .int 0, .int 0, .int 0, .int 0, .int 0, .int 0, .int 0, .int 0]) C dX1_init_41 inX0 tyX0 tyX0_ok lc_X1_26 wn_X0 wz_X0 rfl (dv (by decide)) (by decide) (fun q4 => ?_)
  refine j_dup C dX1_init_44 rfl ?_
  refine j_aload_n (i := 1) C dX1_init_45 rfl 1 rfl ?_
  refine j_callI (As := [.ref hm]) (rest := [.ref q4, .ref h0]) C (c_X0_init ε q4 hm (ω ++ [(h0, .inr (1, [.ref q1, .ref q2, .ref q3, .null, .null, .null, .int 0, .int 0, .int 0, .int 0])), (q1, .inr (6, [.ref hm, .int 0, .int 0, .int 0, .int 0, .int 0, .int 0, .int 0, .int 0])), (q2, .inr (6, [.ref hm, .int 0, .int 0, .int 0, .int 0, .int 0, .int 0, .int 0, .int 0])), (q3, .inr (6, [.ref hm, .int 0, .int 0, .int 0, .int 0, .int 0, .int 0, .int 0, .int 0]))])) mi_X0_init rfl lm_X1_28 dX1_init_46 rfl rfl (by decide) (Nat.le_of_ble_eq_true rfl) (fun r9 ω9 hp => ?_)
  obtain ⟨rfl, q5, q6, rfl⟩ := hp
  refine j_to (ω' := ω ++ [(h0, .inr (1, [.ref q1, .ref q2, .ref q3, .null, .null, .null, .int 0, .int 0, .int 0, .int 0])), (q1, .inr (6, [.ref hm, .int 0, .int 0, .int 0, .int 0, .int 0, .int 0, .int 0, .int 0])), (q2, .inr (6, [.ref hm, .int 0, .int 0, .int 0, .int 0, .int 0, .int 0, .int 0, .int 0])), (q3, .inr (6, [.ref hm, .int 0, .int 0, .int 0, .int 0, .int 0, .int 0, .int 0, .int 0])), (q4, .inr (0, [.ref hm, .ref q5, .ref q6, .int 0, .int 0, .int 0, .int 0, .int 0, .int 0, .int 0, .int 0, .int 0])), (q5, .inl (ε.2.2.1, 16, .inl (fun _ => 0))), (q6, .inl (ε.2.2.1, 16, .inl (fun _ => 0)))]) (st' := [.ref q4, .ref h0]) (List.append_assoc _ _ _) rfl rfl ?_
  refine j_putF (ω' := ω ++ [(h0, .inr (1, [.ref q1, .ref q2, .ref q3, .ref q4, .null, .null, .int 0, .int 0, .int 0, .int 0])), (q1, .inr (6, [.ref hm, .int 0, .int 0, .int 0, .int 0, .int 0, .int 0, .int 0, .int 0])), (q2, .inr (6, [.ref hm, .int 0, .int 0, .int 0, .int 0, .int 0, .int 0, .int 0, .int 0])), (q3, .inr (6, [.ref hm, .int 0, .int 0, .int 0, .int 0, .int 0, .int 0, .int 0, .int 0])), (q4, .inr (0, [.ref hm, .ref q5, .ref q6, .int 0, .int 0, .int 0, .int 0, .int 0, .int 0, .int 0, .int 0, .int 0])), (q5, .inl (ε.2.2.1, 16, .inl (fun _ => 0))), (q6, .inl (ε.2.2.1, 16, .inl (fun _ => 0)))]) C hin dX1_init_49 (ω.length + 0) (gA (k := 0) rfl) inX1 tyX1 tyX1_ok nmX1 rfl 3 (by decide) lf_X1_29 rfl rfl rfl rfl rfl (Nat.le_of_ble_eq_true rfl) sA ?_
  refine j_aload_n (i := 0) C dX1_init_52 rfl 0 rfl ?_
  refine j_new (ci := 2) (fs := [.null]) C dX1_init_53 inX2 tyX2 tyX2_ok lc_X1_33 wn_X2 wz_X2 rfl (dv (by decide)) (by decide) (fun q7 => ?_)
  refine j_dup C dX1_init_56 rfl ?_
  refine j_callI (As := []) (rest := [.ref q7, .ref h0]) C (c_X2_init ε q7 (ω ++ [(h0, .inr (1, [.ref q1, .ref q2, .ref q3, .ref q4, .null, .null, .int 0, .int 0, .int 0, .int 0])), (q1, .inr (6, [.ref hm, .int 0, .int 0, .int 0, .int 0, .int 0, .int 0, .int 0, .int 0])), (q2, .inr (6, [.ref hm, .int 0, .int 0, .int 0, .int 0, .int 0, .int 0, .int 0, .int 0])), (q3, .inr (6, [.ref hm, .int 0, .int 0, .int 0, .int 0, .int 0, .int 0, .int 0, .int 0])), (q4, .inr (0, [.ref hm, .ref q5, .ref q6, .int 0, .int 0, .int 0, .int 0, .int 0, .int 0, .int 0, .int 0, .int 0])), (q5, .inl (ε.2.2.1, 16, .inl (fun _ => 0))), (q6, .inl (ε.2.2.1, 16, .inl (fun _ => 0)))])) mi_X2_init rfl lm_X1_35 dX1_init_57 rfl rfl (by decide) (Nat.le_of_ble_eq_true rfl) (fun r9 ω9 hp => ?_)
  obtain ⟨rfl, q8, rfl⟩ := hp
  refine j_to (ω' := ω ++ [(h0, .inr (1, [.ref q1, .ref q2, .ref q3, .ref q4, .null, .null, .int 0, .int 0, .int 0, .int 0])), (q1, .inr (6, [.ref hm, .int 0, .int 0, .int 0, .int 0, .int 0, .int 0, .int 0, .int 0])), (q2, .inr (6, [.ref hm, .int 0, .int 0, .int 0, .int 0, .int 0, .int 0, .int 0, .int 0])), (q3, .inr (6, [.ref hm, .int 0, .int 0, .int 0, .int 0, .int 0, .int 0, .int 0, .int 0])), (q4, .inr (0, [.ref hm, .ref q5, .ref q6, .int 0, .int 0, .int 0, .int 0, .int 0, .int 0, .int 0, .int 0, .int 0])), (q5, .inl (ε.2.2.1, 16, .inl (fun _ => 0))), (q6, .inl (ε.2.2.1, 16, .inl (fun _ => 0))), (q7, .inr (2, [.ref q8])), (q8, .inl (ε.2.1, 2048, .inl (fun _ => 0)))]) (st' := [.ref q7, .ref h0]) (List.append_assoc _ _ _) rfl rfl ?_
  refine j_putF (ω' := ω ++ [(h0, .inr (1, [.ref q1, .ref q2, .ref q3, .ref q4, .ref q7, .null, .int 0, .int 0, .int 0, .int 0])), (q1, .inr (6, [.ref hm, .int 0, .int 0, .int 0, .int 0, .int 0, .int 0, .int 0, .int 0])), (q2, .inr (6, [.ref hm, .int 0, .int 0, .int 0, .int 0, .int 0, .int 0, .int 0, .int 0])), (q3, .inr (6, [.ref hm, .int 0, .int 0, .int 0, .int 0, .int 0, .int 0, .int 0, .int 0])), (q4, .inr (0, [.ref hm, .ref q5, .ref q6, .int 0, .int 0, .int 0, .int 0, .int 0, .int 0, .int 0, .int 0, .int 0])), (q5, .inl (ε.2.2.1, 16, .inl (fun _ => 0))), (q6, .inl (ε.2.2.1, 16, .inl (fun _ => 0))), (q7, .inr (2, [.ref q8])), (q8, .inl (ε.2.1, 2048, .inl (fun _ => 0)))]) C hin dX1_init_60 (ω.length + 0) (gA (k := 0) rfl) inX1 tyX1 tyX1_ok nmX1 rfl 4 (by decide) lf_X1_36 rfl rfl rfl rfl rfl (Nat.le_of_ble_eq_true rfl) sA ?_
  refine j_aload_n (i := 0) C dX1_init_63 rfl 0 rfl ?_
  refine j_new (ci := 7) (fs := [.null, .null, .int 0, .int 0]) C dX1_init_64 inX7 tyX7 tyX7_ok lc_X1_40 wn_X7 wz_X7 rfl (dv (by decide)) (by decide) (fun q9 => ?_)
  refine j_dup C dX1_init_67 rfl ?_
  refine j_callI (As := []) (rest := [.ref q9, .ref h0]) C (c_X7_init ε q9 (ω ++ [(h0, .inr (1, [.ref q1, .ref q2, .ref q3, .ref q4, .ref q7, .null, .int 0, .int 0, .int 0, .int 0])), (q1, .inr (6, [.ref hm, .int 0, .int 0, .int 0, .int 0, .int 0, .int 0, .int 0, .int 0])), (q2, .inr (6, [.ref hm, .int 0, .int 0, .int 0, .int 0, .int 0, .int 0, .int 0, .int 0])), (q3, .inr (6, [.ref hm, .int 0, .int 0, .int 0, .int 0, .int 0, .int 0, .int 0, .int 0])), (q4, .inr (0, [.ref hm, .ref q5, .ref q6, .int 0, .int 0, .int 0, .int 0, .int 0, .int 0, .int 0, .int 0, .int 0])), (q5, .inl (ε.2.2.1, 16, .inl (fun _ => 0))), (q6, .inl (ε.2.2.1, 16, .inl (fun _ => 0))), (q7, .inr (2, [.ref q8])), (q8, .inl (ε.2.1, 2048, .inl (fun _ => 0)))])) mi_X7_init rfl lm_X1_42 dX1_init_68 rfl rfl (by decide) (Nat.le_of_ble_eq_true rfl) (fun r9 ω9 hp => ?_)
  obtain ⟨rfl, q10, q11, rfl⟩ := hp
  refine j_to (ω' := ω ++ [(h0, .inr (1, [.ref q1, .ref q2, .ref q3, .ref q4, .ref q7, .null, .int 0, .int 0, .int 0, .int 0])), (q1, .inr (6, [.ref hm, .int 0, .int 0, .int 0, .int 0, .int 0, .int 0, .int 0, .int 0])), (q2, .inr (6, [.ref hm, .int 0, .int 0, .int 0, .int 0, .int 0, .int 0, .int 0, .int 0])), (q3, .inr (6, [.ref hm, .int 0, .int 0, .int 0, .int 0, .int 0, .int 0, .int 0, .int 0])), (q4, .inr (0, [.ref hm, .ref q5, .ref q6, .int 0, .int 0, .int 0, .int 0, .int 0, .int 0, .int 0, .int 0, .int 0])), (q5, .inl (ε.2.2.1, 16, .inl (fun _ => 0))), (q6, .inl (ε.2.2.1, 16, .inl (fun _ => 0))), (q7, .inr (2, [.ref q8])), (q8, .inl (ε.2.1, 2048, .inl (fun _ => 0))), (q9, .inr (7, [.ref q10, .ref q11, .int 0, .int 0])), (q10, .inl (ε.2.1, 1280, .inl (fun _ => 0))), (q11, .inl (ε.2.2.1, 16, .inl (fun _ => 0)))]) (st' := [.ref q9, .ref h0]) (List.append_assoc _ _ _) rfl rfl ?_
  refine j_putF (ω' := ω ++ [(h0, .inr (1, [.ref q1, .ref q2, .ref q3, .ref q4, .ref q7, .ref q9, .int 0, .int 0, .int 0, .int 0])), (q1, .inr (6, [.ref hm, .int 0, .int 0, .int 0, .int 0, .int 0, .int 0, .int 0, .int 0])), (q2, .inr (6, [.ref hm, .int 0, .int 0, .int 0, .int 0, .int 0, .int 0, .int 0, .int 0])), (q3, .inr (6, [.ref hm, .int 0, .int 0, .int 0, .int 0, .int 0, .int 0, .int 0, .int 0])), (q4, .inr (0, [.ref hm, .ref q5, .ref q6, .int 0, .int 0, .int 0, .int 0, .int 0, .int 0, .int 0, .int 0, .int 0])), (q5, .inl (ε.2.2.1, 16, .inl (fun _ => 0))), (q6, .inl (ε.2.2.1, 16, .inl (fun _ => 0))), (q7, .inr (2, [.ref q8])), (q8, .inl (ε.2.1, 2048, .inl (fun _ => 0))), (q9, .inr (7, [.ref q10, .ref q11, .int 0, .int 0])), (q10, .inl (ε.2.1, 1280, .inl (fun _ => 0))), (q11, .inl (ε.2.2.1, 16, .inl (fun _ => 0)))]) C hin dX1_init_71 (ω.length + 0) (gA (k := 0) rfl) inX1 tyX1 tyX1_ok nmX1 rfl 5 (by decide) lf_X1_43 rfl rfl rfl rfl rfl (Nat.le_of_ble_eq_true rfl) sA ?_
  exact j_vret C hQ rfl dX1_init_74 ⟨rfl, q1, q2, q3, q4, q5, q6, q7, q8, q9, q10, q11, rfl⟩

set_option maxHeartbeats 1000000 in
set_option maxRecDepth 100000 in
theorem c_X3_init (ε : ET) (h0 hm : Nat) (ω : va_W) : CT ε yX3_init cX3_init 2 none 2 32 6 39 [.ref h0, .ref hm] (ω ++ [(h0, .inr (3, [.null, .null, .null, .null, .int 0, .int 0]))]) (fun r ω' => r = none ∧ ∃ q1 q2 q3 q4 q5 q6 : Nat, ω' = ω ++ [(h0, .inr (3, [.ref hm, .ref q1, .ref q3, .ref q5, .int 0, .int 0])), (q1, .inr (4, [.ref q2, .int 0, .int 0, .int 0, .int (-1)])), (q2, .inl (ε.2.2.1, 8, .inl (fun _ => 0))), (q3, .inr (4, [.ref q4, .int 0, .int 0, .int 0, .int (-1)])), (q4, .inl (ε.2.2.1, 8, .inl (fun _ => 0))), (q5, .inr (4, [.ref q6, .int 0, .int 0, .int 0, .int (-1)])), (q6, .inl (ε.2.2.1, 8, .inl (fun _ => 0)))]) := by
  refine CT.ofI (own := RX3) (by decide) rfl rfl (Nat.le_of_ble_eq_true rfl) (fun κ C hQ hin => ?_)
  refine j_aload_n (i := 0) C dX3_init_0 rfl 0 rfl ?_
  refine j_objInit C lm_X3_3 dX3_init_1 ⟨by decide, Nat.le_of_ble_eq_true rfl⟩ ?_
  refine j_aload_n (i := 0) C dX3_init_4 rfl 0 rfl ?_
  refine j_aload_n (i := 1) C dX3_init_5 rfl 1 rfl ?_
  refine j_putF (ω' := ω ++ [(h0, .inr (3, [.ref hm, .null, .null, .null, .int 0, .int 0]))]) C hin dX3_init_6 (ω.length + 0) (gA (k := 0) rfl) inX3 tyX3 tyX3_ok nmX3 rfl 0 (by decide) lf_X3_9 rfl rfl rfl rfl rfl (Nat.le_of_ble_eq_true rfl) sA ?_
  refine j_aload_n (i := 0) C dX3_init_9 rfl 0 rfl ?_
  refine j_new (ci := 4) (fs := [.null, .int 0, .int 0, .int 0, .int 0]) C dX3_init_10 inX4 tyX4 tyX4_ok lc_X3_15 wn_X4 wz_X4 rfl (dv (by decide)) (by decide) (fun q1 => ?_)
  refine j_dup C dX3_init_13 rfl ?_
  refine j_callI (As := []) (rest := [.ref q1, .ref h0]) C (c_X4_init ε q1 (ω ++ [(h0, .inr (3, [.ref hm, .null, .null, .null, .int 0, .int 0]))])) mi_X4_init rfl lm_X3_17 dX3_init_14 rfl rfl (by decide) (Nat.le_of_ble_eq_true rfl) (fun r9 ω9 hp => ?_)
  obtain ⟨rfl, q2, rfl⟩ := hp
  refine j_to (ω' := ω ++ [(h0, .inr (3, [.ref hm, .null, .null, .null, .int 0, .int 0])), (q1, .inr (4, [.ref q2, .int 0, .int 0, .int 0, .int (-1)])), (q2, .inl (ε.2.2.1, 8, .inl (fun _ => 0)))]) (st' := [.ref q1, .ref h0]) (List.append_assoc _ _ _) rfl rfl ?_
  refine j_putF (ω' := ω ++ [(h0, .inr (3, [.ref hm, .ref q1, .null, .null, .int 0, .int 0])), (q1, .inr (4, [.ref q2, .int 0, .int 0, .int 0, .int (-1)])), (q2, .inl (ε.2.2.1, 8, .inl (fun _ => 0)))]) C hin dX3_init_17 (ω.length + 0) (gA (k := 0) rfl) inX3 tyX3 tyX3_ok nmX3 rfl 1 (by decide) lf_X3_18 rfl rfl rfl rfl rfl (Nat.le_of_ble_eq_true rfl) sA ?_
  refine j_aload_n (i := 0) C dX3_init_20 rfl 0 rfl ?_
  refine j_new (ci := 4) (fs := [.null, .int 0, .int 0, .int 0, .int 0]) C dX3_init_21 inX4 tyX4 tyX4_ok lc_X3_15 wn_X4 wz_X4 rfl (dv (by decide)) (by decide) (fun q3 => ?_)
  refine j_dup C dX3_init_24 rfl ?_
  refine j_callI (As := []) (rest := [.ref q3, .ref h0]) C (c_X4_init ε q3 (ω ++ [(h0, .inr (3, [.ref hm, .ref q1, .null, .null, .int 0, .int 0])), (q1, .inr (4, [.ref q2, .int 0, .int 0, .int 0, .int (-1)])), (q2, .inl (ε.2.2.1, 8, .inl (fun _ => 0)))])) mi_X4_init rfl lm_X3_17 dX3_init_25 rfl rfl (by decide) (Nat.le_of_ble_eq_true rfl) (fun r9 ω9 hp => ?_)
  obtain ⟨rfl, q4, rfl⟩ := hp
  refine j_to (ω' := ω ++ [(h0, .inr (3, [.ref hm, .ref q1, .null, .null, .int 0, .int 0])), (q1, .inr (4, [.ref q2, .int 0, .int 0, .int 0, .int (-1)])), (q2, .inl (ε.2.2.1, 8, .inl (fun _ => 0))), (q3, .inr (4, [.ref q4, .int 0, .int 0, .int 0, .int (-1)])), (q4, .inl (ε.2.2.1, 8, .inl (fun _ => 0)))]) (st' := [.ref q3, .ref h0]) (List.append_assoc _ _ _) rfl rfl ?_
  refine j_putF (ω' := ω ++ [(h0, .inr (3, [.ref hm, .ref q1, .ref q3, .null, .int 0, .int 0])), (q1, .inr (4, [.ref q2, .int 0, .int 0, .int 0, .int (-1)])), (q2, .inl (ε.2.2.1, 8, .inl (fun _ => 0))), (q3, .inr (4, [.ref q4, .int 0, .int 0, .int 0, .int (-1)])), (q4, .inl (ε.2.2.1, 8, .inl (fun _ => 0)))]) C hin dX3_init_28 (ω.length + 0) (gA (k := 0) rfl) inX3 tyX3 tyX3_ok nmX3 rfl 2 (by decide) lf_X3_22 rfl rfl rfl rfl rfl (Nat.le_of_ble_eq_true rfl) sA ?_
  refine j_aload_n (i := 0) C dX3_init_31 rfl 0 rfl ?_
  refine j_new (ci := 4) (fs := [.null, .int 0, .int 0, .int 0, .int 0]) C dX3_init_32 inX4 tyX4 tyX4_ok lc_X3_15 wn_X4 wz_X4 rfl (dv (by decide)) (by decide) (fun q5 => ?_)
  refine j_dup C dX3_init_35 rfl ?_
  refine j_callI (As := []) (rest := [.ref q5, .ref h0]) C (c_X4_init ε q5 (ω ++ [(h0, .inr (3, [.ref hm, .ref q1, .ref q3, .null, .int 0, .int 0])), (q1, .inr (4, [.ref q2, .int 0, .int 0, .int 0, .int (-1)])), (q2, .inl (ε.2.2.1, 8, .inl (fun _ => 0))), (q3, .inr (4, [.ref q4, .int 0, .int 0, .int 0, .int (-1)])), (q4, .inl (ε.2.2.1, 8, .inl (fun _ => 0)))])) mi_X4_init rfl lm_X3_17 dX3_init_36 rfl rfl (by decide) (Nat.le_of_ble_eq_true rfl) (fun r9 ω9 hp => ?_)
  obtain ⟨rfl, q6, rfl⟩ := hp
  refine j_to (ω' := ω ++ [(h0, .inr (3, [.ref hm, .ref q1, .ref q3, .null, .int 0, .int 0])), (q1, .inr (4, [.ref q2, .int 0, .int 0, .int 0, .int (-1)])), (q2, .inl (ε.2.2.1, 8, .inl (fun _ => 0))), (q3, .inr (4, [.ref q4, .int 0, .int 0, .int 0, .int (-1)])), (q4, .inl (ε.2.2.1, 8, .inl (fun _ => 0))), (q5, .inr (4, [.ref q6, .int 0, .int 0, .int 0, .int (-1)])), (q6, .inl (ε.2.2.1, 8, .inl (fun _ => 0)))]) (st' := [.ref q5, .ref h0]) (List.append_assoc _ _ _) rfl rfl ?_
  refine j_putF (ω' := ω ++ [(h0, .inr (3, [.ref hm, .ref q1, .ref q3, .ref q5, .int 0, .int 0])), (q1, .inr (4, [.ref q2, .int 0, .int 0, .int 0, .int (-1)])), (q2, .inl (ε.2.2.1, 8, .inl (fun _ => 0))), (q3, .inr (4, [.ref q4, .int 0, .int 0, .int 0, .int (-1)])), (q4, .inl (ε.2.2.1, 8, .inl (fun _ => 0))), (q5, .inr (4, [.ref q6, .int 0, .int 0, .int 0, .int (-1)])), (q6, .inl (ε.2.2.1, 8, .inl (fun _ => 0)))]) C hin dX3_init_39 (ω.length + 0) (gA (k := 0) rfl) inX3 tyX3 tyX3_ok nmX3 rfl 3 (by decide) lf_X3_25 rfl rfl rfl rfl rfl (Nat.le_of_ble_eq_true rfl) sA ?_
  exact j_vret C hQ rfl dX3_init_42 ⟨rfl, q1, q2, q3, q4, q5, q6, rfl⟩

set_option maxHeartbeats 1000000 in
set_option maxRecDepth 100000 in
theorem c_X8_init (ε : ET) (h0 : Nat) (ω : va_W) : CT ε yX8_init cX8_init 2 none 3 54 21 7572 [.ref h0] (ω ++ [(h0, .inr (8, [.null, .null, .null]))]) (fun r ω' => r = none ∧ ∃ q1 q2 q3 q4 q5 q6 q7 q8 q9 q10 q11 q12 q13 q14 q15 q16 q17 q18 q19 q20 q21 : Nat, ω' = ω ++ [(h0, .inr (8, [.ref q1, .ref q3, .ref q15])), (q1, .inr (5, [.ref q2])), (q2, .inl (ε.2.1, 4096, .inl (fun _ => 0))), (q3, .inr (1, [.ref q4, .ref q5, .ref q6, .ref q7, .ref q10, .ref q12, .int 0, .int 0, .int 0, .int 0])), (q4, .inr (6, [.ref q1, .int 0, .int 0, .int 0, .int 0, .int 0, .int 0, .int 0, .int 0])), (q5, .inr (6, [.ref q1, .int 0, .int 0, .int 0, .int 0, .int 0, .int 0, .int 0, .int 0])), (q6, .inr (6, [.ref q1, .int 0, .int 0, .int 0, .int 0, .int 0, .int 0, .int 0, .int 0])), (q7, .inr (0, [.ref q1, .ref q8, .ref q9, .int 0, .int 0, .int 0, .int 0, .int 0, .int 0, .int 0, .int 0, .int 0])), (q8, .inl (ε.2.2.1, 16, .inl (fun _ => 0))), (q9, .inl (ε.2.2.1, 16, .inl (fun _ => 0))), (q10, .inr (2, [.ref q11])), (q11, .inl (ε.2.1, 2048, .inl (fun _ => 0))), (q12, .inr (7, [.ref q13, .ref q14, .int 0, .int 0])), (q13, .inl (ε.2.1, 1280, .inl (fun _ => 0))), (q14, .inl (ε.2.2.1, 16, .inl (fun _ => 0))), (q15, .inr (3, [.ref q1, .ref q16, .ref q18, .ref q20, .int 0, .int 0])), (q16, .inr (4, [.ref q17, .int 0, .int 0, .int 0, .int (-1)])), (q17, .inl (ε.2.2.1, 8, .inl (fun _ => 0))), (q18, .inr (4, [.ref q19, .int 0, .int 0, .int 0, .int (-1)])), (q19, .inl (ε.2.2.1, 8, .inl (fun _ => 0))), (q20, .inr (4, [.ref q21, .int 0, .int 0, .int 0, .int (-1)])), (q21, .inl (ε.2.2.1, 8, .inl (fun _ => 0)))]) := by
  refine CT.ofI (own := RX8) (by decide) rfl rfl (Nat.le_of_ble_eq_true rfl) (fun κ C hQ hin => ?_)
  refine j_aload_n (i := 0) C dX8_init_0 rfl 0 rfl ?_
  refine j_objInit C lm_X8_1 dX8_init_1 ⟨by decide, Nat.le_of_ble_eq_true rfl⟩ ?_
  refine j_new (ci := 5) (fs := [.null]) C dX8_init_4 inX5 tyX5 tyX5_ok lc_X8_7 wn_X5 wz_X5 rfl (dv (by decide)) (by decide) (fun q1 => ?_)
  refine j_dup C dX8_init_7 rfl ?_
  refine j_callI (As := []) (rest := [.ref q1]) C (c_X5_init ε q1 (ω ++ [(h0, .inr (8, [.null, .null, .null]))])) mi_X5_init rfl lm_X8_9 dX8_init_8 rfl rfl (by decide) (Nat.le_of_ble_eq_true rfl) (fun r9 ω9 hp => ?_)
  obtain ⟨rfl, q2, rfl⟩ := hp
  refine j_to (ω' := ω ++ [(h0, .inr (8, [.null, .null, .null])), (q1, .inr (5, [.ref q2])), (q2, .inl (ε.2.1, 4096, .inl (fun _ => 0)))]) (st' := [.ref q1]) (List.append_assoc _ _ _) rfl rfl ?_
  refine j_astore_n (i := 1) (lv' := [(1, .ref q1), (0, .ref h0)]) C dX8_init_11 rfl (by decide) rfl ?_
  refine j_aload_n (i := 0) C dX8_init_12 rfl 1 rfl ?_
  refine j_aload_n (i := 1) C dX8_init_13 rfl 0 rfl ?_
  refine j_putF (ω' := ω ++ [(h0, .inr (8, [.ref q1, .null, .null])), (q1, .inr (5, [.ref q2])), (q2, .inl (ε.2.1, 4096, .inl (fun _ => 0)))]) C hin dX8_init_14 (ω.length + 0) (gA (k := 0) rfl) inX8 tyX8 tyX8_ok nmX8 rfl 0 (by decide) lf_X8_10 rfl rfl rfl rfl rfl (Nat.le_of_ble_eq_true rfl) sA ?_
  refine j_aload_n (i := 0) C dX8_init_17 rfl 1 rfl ?_
  refine j_new (ci := 1) (fs := [.null, .null, .null, .null, .null, .null, .int 0, .int 0, .int 0, .int 0]) C dX8_init_18 inX1 tyX1 tyX1_ok lc_X8_16 wn_X1 wz_X1 rfl (dv (by decide)) (by decide) (fun q3 => ?_)
  refine j_dup C dX8_init_21 rfl ?_
  refine j_aload_n (i := 1) C dX8_init_22 rfl 0 rfl ?_
  refine j_callI (As := [.ref q1]) (rest := [.ref q3, .ref h0]) C (c_X1_init ε q3 q1 (ω ++ [(h0, .inr (8, [.ref q1, .null, .null])), (q1, .inr (5, [.ref q2])), (q2, .inl (ε.2.1, 4096, .inl (fun _ => 0)))])) mi_X1_init rfl lm_X8_18 dX8_init_23 rfl rfl (by decide) (Nat.le_of_ble_eq_true rfl) (fun r9 ω9 hp => ?_)
  obtain ⟨rfl, q4, q5, q6, q7, q8, q9, q10, q11, q12, q13, q14, rfl⟩ := hp
  refine j_to (ω' := ω ++ [(h0, .inr (8, [.ref q1, .null, .null])), (q1, .inr (5, [.ref q2])), (q2, .inl (ε.2.1, 4096, .inl (fun _ => 0))), (q3, .inr (1, [.ref q4, .ref q5, .ref q6, .ref q7, .ref q10, .ref q12, .int 0, .int 0, .int 0, .int 0])), (q4, .inr (6, [.ref q1, .int 0, .int 0, .int 0, .int 0, .int 0, .int 0, .int 0, .int 0])), (q5, .inr (6, [.ref q1, .int 0, .int 0, .int 0, .int 0, .int 0, .int 0, .int 0, .int 0])), (q6, .inr (6, [.ref q1, .int 0, .int 0, .int 0, .int 0, .int 0, .int 0, .int 0, .int 0])), (q7, .inr (0, [.ref q1, .ref q8, .ref q9, .int 0, .int 0, .int 0, .int 0, .int 0, .int 0, .int 0, .int 0, .int 0])), (q8, .inl (ε.2.2.1, 16, .inl (fun _ => 0))), (q9, .inl (ε.2.2.1, 16, .inl (fun _ => 0))), (q10, .inr (2, [.ref q11])), (q11, .inl (ε.2.1, 2048, .inl (fun _ => 0))), (q12, .inr (7, [.ref q13, .ref q14, .int 0, .int 0])), (q13, .inl (ε.2.1, 1280, .inl (fun _ => 0))), (q14, .inl (ε.2.2.1, 16, .inl (fun _ => 0)))]) (st' := [.ref q3, .ref h0]) (List.append_assoc _ _ _) rfl rfl ?_
  refine j_putF (ω' := ω ++ [(h0, .inr (8, [.ref q1, .ref q3, .null])), (q1, .inr (5, [.ref q2])), (q2, .inl (ε.2.1, 4096, .inl (fun _ => 0))), (q3, .inr (1, [.ref q4, .ref q5, .ref q6, .ref q7, .ref q10, .ref q12, .int 0, .int 0, .int 0, .int 0])), (q4, .inr (6, [.ref q1, .int 0, .int 0, .int 0, .int 0, .int 0, .int 0, .int 0, .int 0])), (q5, .inr (6, [.ref q1, .int 0, .int 0, .int 0, .int 0, .int 0, .int 0, .int 0, .int 0])), (q6, .inr (6, [.ref q1, .int 0, .int 0, .int 0, .int 0, .int 0, .int 0, .int 0, .int 0])), (q7, .inr (0, [.ref q1, .ref q8, .ref q9, .int 0, .int 0, .int 0, .int 0, .int 0, .int 0, .int 0, .int 0, .int 0])), (q8, .inl (ε.2.2.1, 16, .inl (fun _ => 0))), (q9, .inl (ε.2.2.1, 16, .inl (fun _ => 0))), (q10, .inr (2, [.ref q11])), (q11, .inl (ε.2.1, 2048, .inl (fun _ => 0))), (q12, .inr (7, [.ref q13, .ref q14, .int 0, .int 0])), (q13, .inl (ε.2.1, 1280, .inl (fun _ => 0))), (q14, .inl (ε.2.2.1, 16, .inl (fun _ => 0)))]) C hin dX8_init_26 (ω.length + 0) (gA (k := 0) rfl) inX8 tyX8 tyX8_ok nmX8 rfl 1 (by decide) lf_X8_21 rfl rfl rfl rfl rfl (Nat.le_of_ble_eq_true rfl) sA ?_
  refine j_aload_n (i := 0) C dX8_init_29 rfl 1 rfl ?_
  refine j_new (ci := 3) (fs := [.null, .null, .null, .null, .int 0, .int 0]) C dX8_init_30 inX3 tyX3 tyX3_ok lc_X8_25 wn_X3 wz_X3 rfl (dv (by decide)) (by decide) (fun q15 => ?_)
  refine j_dup C dX8_init_33 rfl ?_
  refine j_aload_n (i := 1) C dX8_init_34 rfl 0 rfl ?_
  refine j_callI (As := [.ref q1]) (rest := [.ref q15, .ref h0]) C (c_X3_init ε q15 q1 (ω ++ [(h0, .inr (8, [.ref q1, .ref q3, .null])), (q1, .inr (5, [.ref q2])), (q2, .inl (ε.2.1, 4096, .inl (fun _ => 0))), (q3, .inr (1, [.ref q4, .ref q5, .ref q6, .ref q7, .ref q10, .ref q12, .int 0, .int 0, .int 0, .int 0])), (q4, .inr (6, [.ref q1, .int 0, .int 0, .int 0, .int 0, .int 0, .int 0, .int 0, .int 0])), (q5, .inr (6, [.ref q1, .int 0, .int 0, .int 0, .int 0, .int 0, .int 0, .int 0, .int 0])), (q6, .inr (6, [.ref q1, .int 0, .int 0, .int 0, .int 0, .int 0, .int 0, .int 0, .int 0])), (q7, .inr (0, [.ref q1, .ref q8, .ref q9, .int 0, .int 0, .int 0, .int 0, .int 0, .int 0, .int 0, .int 0, .int 0])), (q8, .inl (ε.2.2.1, 16, .inl (fun _ => 0))), (q9, .inl (ε.2.2.1, 16, .inl (fun _ => 0))), (q10, .inr (2, [.ref q11])), (q11, .inl (ε.2.1, 2048, .inl (fun _ => 0))), (q12, .inr (7, [.ref q13, .ref q14, .int 0, .int 0])), (q13, .inl (ε.2.1, 1280, .inl (fun _ => 0))), (q14, .inl (ε.2.2.1, 16, .inl (fun _ => 0)))])) mi_X3_init rfl lm_X8_27 dX8_init_35 rfl rfl (by decide) (Nat.le_of_ble_eq_true rfl) (fun r9 ω9 hp => ?_)
  obtain ⟨rfl, q16, q17, q18, q19, q20, q21, rfl⟩ := hp
  refine j_to (ω' := ω ++ [(h0, .inr (8, [.ref q1, .ref q3, .null])), (q1, .inr (5, [.ref q2])), (q2, .inl (ε.2.1, 4096, .inl (fun _ => 0))), (q3, .inr (1, [.ref q4, .ref q5, .ref q6, .ref q7, .ref q10, .ref q12, .int 0, .int 0, .int 0, .int 0])), (q4, .inr (6, [.ref q1, .int 0, .int 0, .int 0, .int 0, .int 0, .int 0, .int 0, .int 0])), (q5, .inr (6, [.ref q1, .int 0, .int 0, .int 0, .int 0, .int 0, .int 0, .int 0, .int 0])), (q6, .inr (6, [.ref q1, .int 0, .int 0, .int 0, .int 0, .int 0, .int 0, .int 0, .int 0])), (q7, .inr (0, [.ref q1, .ref q8, .ref q9, .int 0, .int 0, .int 0, .int 0, .int 0, .int 0, .int 0, .int 0, .int 0])), (q8, .inl (ε.2.2.1, 16, .inl (fun _ => 0))), (q9, .inl (ε.2.2.1, 16, .inl (fun _ => 0))), (q10, .inr (2, [.ref q11])), (q11, .inl (ε.2.1, 2048, .inl (fun _ => 0))), (q12, .inr (7, [.ref q13, .ref q14, .int 0, .int 0])), (q13, .inl (ε.2.1, 1280, .inl (fun _ => 0))), (q14, .inl (ε.2.2.1, 16, .inl (fun _ => 0))), (q15, .inr (3, [.ref q1, .ref q16, .ref q18, .ref q20, .int 0, .int 0])), (q16, .inr (4, [.ref q17, .int 0, .int 0, .int 0, .int (-1)])), (q17, .inl (ε.2.2.1, 8, .inl (fun _ => 0))), (q18, .inr (4, [.ref q19, .int 0, .int 0, .int 0, .int (-1)])), (q19, .inl (ε.2.2.1, 8, .inl (fun _ => 0))), (q20, .inr (4, [.ref q21, .int 0, .int 0, .int 0, .int (-1)])), (q21, .inl (ε.2.2.1, 8, .inl (fun _ => 0)))]) (st' := [.ref q15, .ref h0]) (List.append_assoc _ _ _) rfl rfl ?_
  refine j_putF (ω' := ω ++ [(h0, .inr (8, [.ref q1, .ref q3, .ref q15])), (q1, .inr (5, [.ref q2])), (q2, .inl (ε.2.1, 4096, .inl (fun _ => 0))), (q3, .inr (1, [.ref q4, .ref q5, .ref q6, .ref q7, .ref q10, .ref q12, .int 0, .int 0, .int 0, .int 0])), (q4, .inr (6, [.ref q1, .int 0, .int 0, .int 0, .int 0, .int 0, .int 0, .int 0, .int 0])), (q5, .inr (6, [.ref q1, .int 0, .int 0, .int 0, .int 0, .int 0, .int 0, .int 0, .int 0])), (q6, .inr (6, [.ref q1, .int 0, .int 0, .int 0, .int 0, .int 0, .int 0, .int 0, .int 0])), (q7, .inr (0, [.ref q1, .ref q8, .ref q9, .int 0, .int 0, .int 0, .int 0, .int 0, .int 0, .int 0, .int 0, .int 0])), (q8, .inl (ε.2.2.1, 16, .inl (fun _ => 0))), (q9, .inl (ε.2.2.1, 16, .inl (fun _ => 0))), (q10, .inr (2, [.ref q11])), (q11, .inl (ε.2.1, 2048, .inl (fun _ => 0))), (q12, .inr (7, [.ref q13, .ref q14, .int 0, .int 0])), (q13, .inl (ε.2.1, 1280, .inl (fun _ => 0))), (q14, .inl (ε.2.2.1, 16, .inl (fun _ => 0))), (q15, .inr (3, [.ref q1, .ref q16, .ref q18, .ref q20, .int 0, .int 0])), (q16, .inr (4, [.ref q17, .int 0, .int 0, .int 0, .int (-1)])), (q17, .inl (ε.2.2.1, 8, .inl (fun _ => 0))), (q18, .inr (4, [.ref q19, .int 0, .int 0, .int 0, .int (-1)])), (q19, .inl (ε.2.2.1, 8, .inl (fun _ => 0))), (q20, .inr (4, [.ref q21, .int 0, .int 0, .int 0, .int (-1)])), (q21, .inl (ε.2.2.1, 8, .inl (fun _ => 0)))]) C hin dX8_init_38 (ω.length + 0) (gA (k := 0) rfl) inX8 tyX8 tyX8_ok nmX8 rfl 2 (by decide) lf_X8_28 rfl rfl rfl rfl rfl (Nat.le_of_ble_eq_true rfl) sA ?_
  exact j_vret C hQ rfl dX8_init_41 ⟨rfl, q1, q2, q3, q4, q5, q6, q7, q8, q9, q10, q11, q12, q13, q14, q15, q16, q17, q18, q19, q20, q21, rfl⟩

