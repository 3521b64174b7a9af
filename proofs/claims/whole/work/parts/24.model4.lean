/-- byte k of the rows of places A and lengths S, from row i on, n rows -/
def RB (S A : Nat → Int32) : Nat → Nat → Nat → Prop
  | _, 0, _ => False
  | i, n + 1, k => ∃ z : Nat, S i = nI z ∧ z < 2 ^ 31 ∧ ((k < z ∧ vp_in (A i + nI k) 4096) ∨ (z ≤ k ∧ RB S A (i + 1) n (k - z)))
def RV (S A : Nat → Int32) (i : Nat) (x : Int32) : Prop := ∃ k n : Nat, x = nI k ∧ k < 2 ^ 31 ∧ i + n ≤ 20 ∧ RB S A i n k
theorem rb_lt {S A : Nat → Int32} {i : Nat} {x : Int32} (h : RV S A i x) : i < 20 := by
  obtain ⟨k, n, -, -, h1, h2⟩ := h
  cases n with
  | zero => exact h2.elim
  | succ n => omega
theorem rb_out {S A : Nat → Int32} {i : Nat} {x : Int32} (h : RV S A i x) (hl : x < S i) : vp_in (A i + x) 4096 := by
  obtain ⟨k, n, rfl, hk, h1, h2⟩ := h
  cases n with
  | zero => exact h2.elim
  | succ n =>
    obtain ⟨z, ez, hz, h3⟩ := h2
    rw [ez, nI_ltI hk hz] at hl
    rcases h3 with h3 | h3
    · exact h3.2
    · omega
theorem rb_in {S A : Nat → Int32} {i : Nat} {x : Int32} (h : RV S A i x) (hl : ¬ x < S i) : RV S A (i + 1) (x - S i) := by
  obtain ⟨k, n, rfl, hk, h1, h2⟩ := h
  cases n with
  | zero => exact h2.elim
  | succ n =>
    obtain ⟨z, ez, hz, h3⟩ := h2
    rw [ez, nI_ltI hk hz] at hl
    rcases h3 with h3 | h3
    · omega
    · exact ⟨k - z, n, by rw [ez, pk_sub h3.1], by omega, by omega, h3.2⟩
def L_X9_readByte (u : Nat → Int32) (g : Nat → Nat → Int32) (a : Int32) : Nat → Nat → Int32 → Int32
  | 0, i, lf => 0
  | d1 + 1, i, lf =>
    if lf < ((g 33) i) then (((g 23) ((((g 32) i) + lf)).toNatClampNeg) &&& 255)
    else (L_X9_readByte u g a d1 (i + 1) (lf - ((g 33) i)))
def S_X9_readByte (u : Nat → Int32) (g : Nat → Nat → Int32) (a : Int32) : Int32 :=
  (L_X9_readByte u g a 21 0 a)
set_option maxHeartbeats 1000000 in
set_option maxRecDepth 100000 in
theorem c_X9_readByte (ε : ET) (ad : Nat → Nat) (v : Nat → Int32) (f : Nat → Nat → Int32) (u : Nat → Int32) (g : Nat → Nat → Int32) (a : Int32) (hr : RV (g 33) (g 32) 0 a) : CT ε yX9_readByte cX9_readByte 4 (some .int) 0 0 0 0 [.ref (ad 22), .int a] (WD ε ad v f u g) (DT (some (.int (S_X9_readByte u g a))) (WD ε ad v f u g)) := by
  refine CT.of (own := RX9) (by decide) rfl (Nat.le_of_ble_eq_true rfl) (fun κ C hQ => ?_)
  refine j_iconst (x := 0) C dX9_readByte_0 (by decide) ?_
  refine j_istore_n (i := 2) (lv' := [(2, .int 0), (0, .ref (ad 22)), (1, .int a)]) C dX9_readByte_1 rfl (by decide) rfl ?_
  refine j_iload_n (i := 1) C dX9_readByte_2 rfl 2 rfl ?_
  refine j_istore_n (i := 3) (lv' := [(3, .int a), (2, .int 0), (0, .ref (ad 22)), (1, .int a)]) C dX9_readByte_3 rfl (by decide) rfl ?_
  have hw1 : ∀ (d1 : Nat) (i : Nat) (lf : Int32), (RV (g 33) (g 32) i lf) → 20 - i < d1 → L_X9_readByte u g a d1 i lf = S_X9_readByte u g a → JW κ 0 0 (WD ε ad v f u g) 4 [(3, .int lf), (2, .int (nI i)), (0, .ref (ad 22)), (1, .int a)] [] := by
    intro d1
    induction d1 with
    | zero => intro i lf hv hm9 _; exact absurd hm9 (Nat.not_lt_zero _)
    | succ d1 ih1 =>
      intro i lf hv hm1 hS1
      refine j_iload_n (i := 3) C dX9_readByte_4 rfl 0 rfl ?_
      refine j_aload_n (i := 0) C dX9_readByte_5 rfl 2 rfl ?_
      refine g_22_readSizes C dX9_readByte_6 lf_X9_61 ?_
      refine j_iload_n (i := 2) C dX9_readByte_9 rfl 1 rfl ?_
      refine aln_33 (q := i) (F := (g 33)) C dX9_readByte_10 (rb_lt hv) rfl rfl ?_
      refine j_icmp_lt (tgt := 29) C dX9_readByte_11 (by decide) (fun c_1 => ?_) (fun c_1 => ?_)
      · refine j_aload_n (i := 0) C dX9_readByte_29 rfl 2 rfl ?_
        refine g_22_memory C dX9_readByte_30 lf_X9_1 ?_
        refine j_aload_n (i := 0) C dX9_readByte_33 rfl 2 rfl ?_
        refine g_22_reads C dX9_readByte_34 lf_X9_58 ?_
        refine j_iload_n (i := 2) C dX9_readByte_37 rfl 1 rfl ?_
        refine aln_32 (q := i) (F := (g 32)) C dX9_readByte_38 (rb_lt hv) rfl rfl ?_
        refine j_iload_n (i := 3) C dX9_readByte_39 rfl 0 rfl ?_
        refine j_iadd C dX9_readByte_40 ?_
        refine al_23 (F := (g 23)) C dX9_readByte_41 (rb_out hv c_1) rfl ?_
        refine j_sipush (x := 255) C dX9_readByte_42 (by decide) ?_
        refine j_iand C dX9_readByte_45 ?_
        have hs : S_X9_readByte u g a = (((g 23) ((((g 32) i) + lf)).toNatClampNeg) &&& 255) := by rw [← hS1, L_X9_readByte]; rw [if_pos c_1]
        exact j_iret C hQ rfl dX9_readByte_46 (dt_iM hs)
      · refine j_iload_n (i := 3) C dX9_readByte_14 rfl 0 rfl ?_
        refine j_aload_n (i := 0) C dX9_readByte_15 rfl 2 rfl ?_
        refine g_22_readSizes C dX9_readByte_16 lf_X9_61 ?_
        refine j_iload_n (i := 2) C dX9_readByte_19 rfl 1 rfl ?_
        refine aln_33 (q := i) (F := (g 33)) C dX9_readByte_20 (rb_lt hv) rfl rfl ?_
        refine j_isub C dX9_readByte_21 ?_
        refine j_istore_n (i := 3) (lv' := [(3, .int (lf - ((g 33) i))), (2, .int (nI i)), (0, .ref (ad 22)), (1, .int a)]) C dX9_readByte_22 rfl (by decide) rfl ?_
        refine j_iinc (y := (nI (i + 1))) (lv' := [(2, .int (nI (i + 1))), (3, .int (lf - ((g 33) i))), (0, .ref (ad 22)), (1, .int a)]) C dX9_readByte_23 1 rfl (nI_1 _) (by decide) rfl ?_
        refine j_goto (tgt := 4) C dX9_readByte_26 (by decide) ?_
        refine j_lv (lv' := [(3, .int (lf - ((g 33) i))), (2, .int (nI (i + 1))), (0, .ref (ad 22)), (1, .int a)]) [1, 0, 2, 3] rfl ?_
        exact ih1 (i + 1) (lf - ((g 33) i)) (rb_in hv c_1) (by have := rb_lt hv; omega) (by rw [← hS1, L_X9_readByte]; rw [if_neg c_1])
  exact hw1 21 0 a hr (by omega) rfl

def L_X9_writeByte (u : Nat → Int32) (g : Nat → Nat → Int32) (a : Int32) (b : Int32) : Nat → Nat → Int32 → (Nat → Nat → Int32)
  | 0, i, lf => g
  | d1 + 1, i, lf =>
    if lf < ((g 35) i) then (va_up g 23 (upd (g 23) ((((g 34) i) + lf)).toNatClampNeg (vp_nar .byte ((b : Int32).toInt8.toInt32))))
    else (L_X9_writeByte u g a b d1 (i + 1) (lf - ((g 35) i)))
def S_X9_writeByte (u : Nat → Int32) (g : Nat → Nat → Int32) (a : Int32) (b : Int32) : (Nat → Nat → Int32) :=
  (L_X9_writeByte u g a b 21 0 a)
set_option maxHeartbeats 1000000 in
set_option maxRecDepth 100000 in
theorem c_X9_writeByte (ε : ET) (ad : Nat → Nat) (v : Nat → Int32) (f : Nat → Nat → Int32) (u : Nat → Int32) (g : Nat → Nat → Int32) (a : Int32) (b : Int32) (hr : RV (g 35) (g 34) 0 a) : CT ε yX9_writeByte cX9_writeByte 5 none 0 0 0 0 [.ref (ad 22), .int a, .int b] (WD ε ad v f u g) (DT none (WD ε ad v f u (S_X9_writeByte u g a b))) := by
  refine CT.of (own := RX9) (by decide) rfl (Nat.le_of_ble_eq_true rfl) (fun κ C hQ => ?_)
  refine j_iconst (x := 0) C dX9_writeByte_0 (by decide) ?_
  refine j_istore_n (i := 3) (lv' := [(3, .int 0), (0, .ref (ad 22)), (1, .int a), (2, .int b)]) C dX9_writeByte_1 rfl (by decide) rfl ?_
  refine j_iload_n (i := 1) C dX9_writeByte_2 rfl 2 rfl ?_
  refine j_istore (i := 4) (lv' := [(4, .int a), (3, .int 0), (0, .ref (ad 22)), (1, .int a), (2, .int b)]) C dX9_writeByte_3 (by decide) rfl ?_
  have hw1 : ∀ (d1 : Nat) (i : Nat) (lf : Int32), (RV (g 35) (g 34) i lf) → 20 - i < d1 → L_X9_writeByte u g a b d1 i lf = S_X9_writeByte u g a b → JW κ 0 0 (WD ε ad v f u g) 5 [(4, .int lf), (3, .int (nI i)), (0, .ref (ad 22)), (1, .int a), (2, .int b)] [] := by
    intro d1
    induction d1 with
    | zero => intro i lf hv hm9 _; exact absurd hm9 (Nat.not_lt_zero _)
    | succ d1 ih1 =>
      intro i lf hv hm1 hS1
      refine j_iload (i := 4) C dX9_writeByte_5 0 rfl ?_
      refine j_aload_n (i := 0) C dX9_writeByte_7 rfl 2 rfl ?_
      refine g_22_writeSizes C dX9_writeByte_8 lf_X9_67 ?_
      refine j_iload_n (i := 3) C dX9_writeByte_11 rfl 1 rfl ?_
      refine aln_35 (q := i) (F := (g 35)) C dX9_writeByte_12 (rb_lt hv) rfl rfl ?_
      refine j_icmp_lt (tgt := 33) C dX9_writeByte_13 (by decide) (fun c_1 => ?_) (fun c_1 => ?_)
      · refine j_aload_n (i := 0) C dX9_writeByte_33 rfl 2 rfl ?_
        refine g_22_memory C dX9_writeByte_34 lf_X9_1 ?_
        refine j_aload_n (i := 0) C dX9_writeByte_37 rfl 2 rfl ?_
        refine g_22_writes C dX9_writeByte_38 lf_X9_64 ?_
        refine j_iload_n (i := 3) C dX9_writeByte_41 rfl 1 rfl ?_
        refine aln_34 (q := i) (F := (g 34)) C dX9_writeByte_42 (rb_lt hv) rfl rfl ?_
        refine j_iload (i := 4) C dX9_writeByte_43 0 rfl ?_
        refine j_iadd C dX9_writeByte_45 ?_
        refine j_iload_n (i := 2) C dX9_writeByte_46 rfl 4 rfl ?_
        refine j_i2b C dX9_writeByte_47 ?_
        refine as_23 (F2 := (g 23)) (F := (upd (g 23) ((((g 34) i) + lf)).toNatClampNeg (vp_nar .byte ((b : Int32).toInt8.toInt32)))) C dX9_writeByte_48 (rb_out hv c_1) rfl rfl ?_
        have hs : S_X9_writeByte u g a b = (va_up g 23 (upd (g 23) ((((g 34) i) + lf)).toNatClampNeg (vp_nar .byte ((b : Int32).toInt8.toInt32)))) := by rw [← hS1, L_X9_writeByte]; rw [if_pos c_1]
        exact j_vret C hQ rfl dX9_writeByte_49 (dt_nfM hs)
      · refine j_iload (i := 4) C dX9_writeByte_16 0 rfl ?_
        refine j_aload_n (i := 0) C dX9_writeByte_18 rfl 2 rfl ?_
        refine g_22_writeSizes C dX9_writeByte_19 lf_X9_67 ?_
        refine j_iload_n (i := 3) C dX9_writeByte_22 rfl 1 rfl ?_
        refine aln_35 (q := i) (F := (g 35)) C dX9_writeByte_23 (rb_lt hv) rfl rfl ?_
        refine j_isub C dX9_writeByte_24 ?_
        refine j_istore (i := 4) (lv' := [(4, .int (lf - ((g 35) i))), (3, .int (nI i)), (0, .ref (ad 22)), (1, .int a), (2, .int b)]) C dX9_writeByte_25 (by decide) rfl ?_
        refine j_iinc (y := (nI (i + 1))) (lv' := [(3, .int (nI (i + 1))), (4, .int (lf - ((g 35) i))), (0, .ref (ad 22)), (1, .int a), (2, .int b)]) C dX9_writeByte_27 1 rfl (nI_1 _) (by decide) rfl ?_
        refine j_goto (tgt := 5) C dX9_writeByte_30 (by decide) ?_
        refine j_lv (lv' := [(4, .int (lf - ((g 35) i))), (3, .int (nI (i + 1))), (0, .ref (ad 22)), (1, .int a), (2, .int b)]) [1, 0, 2, 3, 4] rfl ?_
        exact ih1 (i + 1) (lf - ((g 35) i)) (rb_in hv c_1) (by have := rb_lt hv; omega) (by rw [← hS1, L_X9_writeByte]; rw [if_neg c_1])
  exact hw1 21 0 a hr (by omega) rfl
theorem wb_same (u : Nat → Int32) (g : Nat → Nat → Int32) (a b : Int32) (j : Nat) (h : j ≠ 23) : (S_X9_writeByte u g a b) j = g j := by
  have hh : ∀ (d i : Nat) (lf : Int32), (L_X9_writeByte u g a b d i lf) j = g j := by
    intro d
    induction d with
    | zero => intro i lf; rfl
    | succ d ih =>
      intro i lf
      rw [L_X9_writeByte]
      split
      · show (if j = 23 then _ else _) = _
        rw [if_neg h]
      · exact ih _ _
  exact hh _ _ _

theorem rn_kd {S A : Nat → Int32} {a : Int32} {N i : Nat} (hr : ∀ j : Nat, j < N → RV S A 0 (a + nI j)) (hi : i ≤ N) (hk : ¬ kd i < 0) : RV S A 0 (a + kd i) := by
  match i, hk with
  | 0, hk => exact absurd (by decide) hk
  | i + 1, _ => exact hr i (by omega)
def L_X9_readNumber (u : Nat → Int32) (g : Nat → Nat → Int32) (a : Int32) (N : Nat) : Nat → Nat → Int64 → Int64
  | 0, i, x => 0
  | d1 + 1, i, x =>
    if (kd i) < 0 then x
    else (L_X9_readNumber u g a N d1 (i - 1) ((x <<< ((8 : Int32).toInt64 &&& 63)) ||| (((S_X9_readByte u g (a + (kd i))) : Int32).toInt64)))
def S_X9_readNumber (u : Nat → Int32) (g : Nat → Nat → Int32) (a : Int32) (N : Nat) : Int64 :=
  (L_X9_readNumber u g a N (N + 1) N 0)
set_option maxHeartbeats 1000000 in
set_option maxRecDepth 100000 in
theorem c_X9_readNumber (ε : ET) (ad : Nat → Nat) (v : Nat → Int32) (f : Nat → Nat → Int32) (u : Nat → Int32) (g : Nat → Nat → Int32) (a : Int32) (N : Nat) (hN : N < 2 ^ 31) (hr : ∀ j : Nat, j < N → RV (g 33) (g 32) 0 (a + nI j)) : CT ε yX9_readNumber cX9_readNumber 6 (some .long) 1 23 0 0 [.ref (ad 22), .int a, .int (nI N)] (WD ε ad v f u g) (DT (some (.long (S_X9_readNumber u g a N))) (WD ε ad v f u g)) := by
  refine CT.of (own := RX9) (by decide) rfl (Nat.le_of_ble_eq_true rfl) (fun κ C hQ => ?_)
  refine j_lconst (x := 0) C dX9_readNumber_0 (by decide) ?_
  refine j_lstore_n (i := 3) (lv' := [(3, .long 0), (0, .ref (ad 22)), (1, .int a), (2, .int (nI N))]) C dX9_readNumber_1 rfl (by decide) rfl ?_
  refine j_iload_n (i := 2) C dX9_readNumber_2 rfl 3 rfl ?_
  refine j_iconst (x := 1) C dX9_readNumber_3 (by decide) ?_
  refine j_isub C dX9_readNumber_4 ?_
  refine j_istore (i := 5) (lv' := [(5, .int ((nI N) - 1)), (3, .long 0), (0, .ref (ad 22)), (1, .int a), (2, .int (nI N))]) C dX9_readNumber_5 (by decide) rfl ?_
  refine j_to (lv2 := [(5, .int (kd N)), (3, .long 0), (0, .ref (ad 22)), (1, .int a), (2, .int (nI N))]) rfl (by rw [kd_of]) rfl ?_
  have hw1 : ∀ (d1 : Nat) (i : Nat) (x : Int64), (i ≤ N) → i < d1 → L_X9_readNumber u g a N d1 i x = S_X9_readNumber u g a N → JW κ 0 0 (WD ε ad v f u g) 7 [(5, .int (kd i)), (3, .long x), (0, .ref (ad 22)), (1, .int a), (2, .int (nI N))] [] := by
    intro d1
    induction d1 with
    | zero => intro i x hi hm9 _; exact absurd hm9 (Nat.not_lt_zero _)
    | succ d1 ih1 =>
      intro i x hi hm1 hS1
      refine j_iload (i := 5) C dX9_readNumber_7 0 rfl ?_
      refine j_if_lt (tgt := 33) C dX9_readNumber_9 (by decide) (fun c_1 => ?_) (fun c_1 => ?_)
      · refine j_lload_n (i := 3) C dX9_readNumber_33 rfl 1 rfl ?_
        have hs : S_X9_readNumber u g a N = x := by rw [← hS1, L_X9_readNumber]; rw [if_pos c_1]
        exact j_lret C hQ rfl dX9_readNumber_34 (dt_lM hs)
      · refine j_lload_n (i := 3) C dX9_readNumber_12 rfl 1 rfl ?_
        refine j_bipush (x := 8) C dX9_readNumber_13 (by decide) ?_
        refine j_lshl C dX9_readNumber_15 ?_
        refine j_aload_n (i := 0) C dX9_readNumber_16 rfl 2 rfl ?_
        refine j_iload_n (i := 1) C dX9_readNumber_17 rfl 3 rfl ?_
        refine j_iload (i := 5) C dX9_readNumber_18 0 rfl ?_
        refine j_iadd C dX9_readNumber_20 ?_
        refine c_V (As := [.int (a + (kd i))]) (rest := [.long (x <<< ((8 : Int32).toInt64 &&& 63))]) (st1 := [.int (S_X9_readByte u g (a + (kd i))), .long (x <<< ((8 : Int32).toInt64 &&& 63))]) C (c_X9_readByte ε ad v f u g (a + (kd i))  (rn_kd hr hi c_1)) mv_X9_readByte lm_X9_123 dX9_readNumber_21 22 wl_22 rfl rfl rfl (by decide) (Nat.le_of_ble_eq_true rfl) rfl ?_
        refine j_i2l C dX9_readNumber_24 ?_
        refine j_lor C dX9_readNumber_25 ?_
        refine j_lstore_n (i := 3) (lv' := [(3, .long ((x <<< ((8 : Int32).toInt64 &&& 63)) ||| (((S_X9_readByte u g (a + (kd i))) : Int32).toInt64))), (5, .int (kd i)), (0, .ref (ad 22)), (1, .int a), (2, .int (nI N))]) C dX9_readNumber_26 rfl (by decide) rfl ?_
        refine j_iinc (y := (kd (i - 1))) (lv' := [(5, .int (kd (i - 1))), (3, .long ((x <<< ((8 : Int32).toInt64 &&& 63)) ||| (((S_X9_readByte u g (a + (kd i))) : Int32).toInt64))), (0, .ref (ad 22)), (1, .int a), (2, .int (nI N))]) C dX9_readNumber_27 1 rfl (kd_dec c_1) (by decide) rfl ?_
        refine j_goto (tgt := 7) C dX9_readNumber_30 (by decide) ?_
        refine j_lv (lv' := [(5, .int (kd (i - 1))), (3, .long ((x <<< ((8 : Int32).toInt64 &&& 63)) ||| (((S_X9_readByte u g (a + (kd i))) : Int32).toInt64))), (0, .ref (ad 22)), (1, .int a), (2, .int (nI N))]) [0, 1, 2, 3, 4] rfl ?_
        exact ih1 (i - 1) ((x <<< ((8 : Int32).toInt64 &&& 63)) ||| (((S_X9_readByte u g (a + (kd i))) : Int32).toInt64)) (by omega) (by have := kd_ge c_1; omega) (by rw [← hS1, L_X9_readNumber]; rw [if_neg c_1])
  exact hw1 (N + 1) N 0 (Nat.le_refl N) (by omega) rfl

