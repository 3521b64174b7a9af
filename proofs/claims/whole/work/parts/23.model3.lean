theorem put_same (u : Nat → Int32) (g : Nat → Nat → Int32) (a : Int32) (x : Int64) (N j : Nat) (h : j ≠ 23) : (S_X9_put u g a x N) j = g j := by
  have hh : ∀ i : Nat, (L_X9_put u g a x N i) j = g j := by
    intro i
    induction i with
    | zero => rfl
    | succ i ih =>
      rw [L_X9_put]
      show (if j = 23 then _ else _) = _
      rw [if_neg h]
      exact ih
  exact hh N
theorem rem_ma {x y : Int32} {n t : Nat} (hx : x = nI t) (ht : t < 65536) (hy : y = nI n) (h1 : 1 ≤ n) (hn : n ≤ 16) : ∃ r : Nat, r < n ∧ x - x / y * y = nI r := by
  subst hx; subst hy
  exact ⟨t % n, Nat.mod_lt _ (by omega), pk_rem (by omega) (by omega) (by omega)⟩
def L_X9_lend (u : Nat → Int32) (g : Nat → Nat → Int32) (b : Int32) (q : Nat) : Nat → Nat → Int32 × (Nat → Nat → Int32)
  | 0, i => (0, g)
  | d1 + 1, i =>
    if ((g 38) ((8 * q) + i)) = 0 then if 0 ≤ b then ((nI i), (va_up (va_up g 38 (upd (g 38) ((8 * q) + i) (vp_nar .boolean 1))) 39 (upd ((va_up g 38 (upd (g 38) ((8 * q) + i) (vp_nar .boolean 1))) 39) ((8 * q) + i) b)))
      else ((nI i), (va_up (va_up g 38 (upd (g 38) ((8 * q) + i) (vp_nar .boolean 1))) 39 (upd ((va_up g 38 (upd (g 38) ((8 * q) + i) (vp_nar .boolean 1))) 39) ((8 * q) + i) (nI i))))
    else (L_X9_lend u g b q d1 (i + 1))
def S_X9_lend (u : Nat → Int32) (g : Nat → Nat → Int32) (b : Int32) (q : Nat) : Int32 × (Nat → Nat → Int32) :=
  (L_X9_lend u g b q 9 0)
set_option maxHeartbeats 1000000 in
set_option maxRecDepth 100000 in
theorem c_X9_lend (ε : ET) (ad : Nat → Nat) (v : Nat → Int32) (f : Nat → Nat → Int32) (u : Nat → Int32) (g : Nat → Nat → Int32) (b : Int32) (q : Nat) (hq : q < 3) (hf : ∃ d : Nat, d < 8 ∧ (g 38) (8 * q + d) = 0) : CT ε yX9_lend cX9_lend 4 (some .int) 0 0 0 0 [.ref (ad 22), .int (nI q), .int b] (WD ε ad v f u g) (DT (some (.int ((S_X9_lend u g b q).1))) (WD ε ad v f u ((S_X9_lend u g b q).2))) := by
  refine CT.of (own := RX9) (by decide) rfl (Nat.le_of_ble_eq_true rfl) (fun κ C hQ => ?_)
  refine j_iconst (x := 0) C dX9_lend_0 (by decide) ?_
  refine j_istore_n (i := 3) (lv' := [(3, .int 0), (0, .ref (ad 22)), (1, .int (nI q)), (2, .int b)]) C dX9_lend_1 rfl (by decide) rfl ?_
  have hw1 : ∀ (d1 : Nat) (i : Nat), (∃ d : Nat, i ≤ d ∧ d < 8 ∧ (g 38) (8 * q + d) = 0) → 8 - i < d1 → L_X9_lend u g b q d1 i = S_X9_lend u g b q → JW κ 0 0 (WD ε ad v f u g) 2 [(3, .int (nI i)), (0, .ref (ad 22)), (1, .int (nI q)), (2, .int b)] [] := by
    intro d1
    induction d1 with
    | zero => intro i hi hm9 _; exact absurd hm9 (Nat.not_lt_zero _)
    | succ d1 ih1 =>
      intro i hi hm1 hS1
      refine j_aload_n (i := 0) C dX9_lend_2 rfl 1 rfl ?_
      refine g_22_lent C dX9_lend_3 lf_X9_33 ?_
      refine j_bipush (x := 8) C dX9_lend_6 (by decide) ?_
      refine j_iload_n (i := 1) C dX9_lend_8 rfl 2 rfl ?_
      refine j_imulN (a := 8) (b := q) C dX9_lend_9 rfl rfl ?_
      refine j_iload_n (i := 3) C dX9_lend_10 rfl 0 rfl ?_
      refine j_iaddN (a := (8 * q)) (b := i) C dX9_lend_11 rfl rfl ?_
      refine aln_38 (q := ((8 * q) + i)) (F := (g 38)) C dX9_lend_12 (by obtain ⟨d9, h91, h92, _⟩ := hi; omega) rfl rfl ?_
      refine j_if_eq (tgt := 22) C dX9_lend_13 (by decide) (fun c_1 => ?_) (fun c_1 => ?_)
      · refine j_aload_n (i := 0) C dX9_lend_22 rfl 1 rfl ?_
        refine g_22_lent C dX9_lend_23 lf_X9_33 ?_
        refine j_bipush (x := 8) C dX9_lend_26 (by decide) ?_
        refine j_iload_n (i := 1) C dX9_lend_28 rfl 2 rfl ?_
        refine j_imulN (a := 8) (b := q) C dX9_lend_29 rfl rfl ?_
        refine j_iload_n (i := 3) C dX9_lend_30 rfl 0 rfl ?_
        refine j_iaddN (a := (8 * q)) (b := i) C dX9_lend_31 rfl rfl ?_
        refine j_iconst (x := 1) C dX9_lend_32 (by decide) ?_
        refine asn_38 (q := ((8 * q) + i)) (F2 := (g 38)) (F := (upd (g 38) ((8 * q) + i) (vp_nar .boolean 1))) C dX9_lend_33 (by obtain ⟨d9, h91, h92, _⟩ := hi; omega) rfl rfl rfl ?_
        refine j_aload_n (i := 0) C dX9_lend_34 rfl 1 rfl ?_
        refine g_22_heads C dX9_lend_35 lf_X9_37 ?_
        refine j_bipush (x := 8) C dX9_lend_38 (by decide) ?_
        refine j_iload_n (i := 1) C dX9_lend_40 rfl 2 rfl ?_
        refine j_imulN (a := 8) (b := q) C dX9_lend_41 rfl rfl ?_
        refine j_iload_n (i := 3) C dX9_lend_42 rfl 0 rfl ?_
        refine j_iaddN (a := (8 * q)) (b := i) C dX9_lend_43 rfl rfl ?_
        refine j_iload_n (i := 2) C dX9_lend_44 rfl 3 rfl ?_
        refine j_if_ge (tgt := 52) C dX9_lend_45 (by decide) (fun c_2 => ?_) (fun c_2 => ?_)
        · refine j_iload_n (i := 2) C dX9_lend_52 rfl 3 rfl ?_
          refine asn_39 (q := ((8 * q) + i)) (F2 := ((va_up g 38 (upd (g 38) ((8 * q) + i) (vp_nar .boolean 1))) 39)) (F := (upd ((va_up g 38 (upd (g 38) ((8 * q) + i) (vp_nar .boolean 1))) 39) ((8 * q) + i) b)) C dX9_lend_53 (by obtain ⟨d9, h91, h92, _⟩ := hi; omega) rfl rfl rfl ?_
          refine j_iload_n (i := 3) C dX9_lend_54 rfl 0 rfl ?_
          have hs : S_X9_lend u g b q = ((nI i), (va_up (va_up g 38 (upd (g 38) ((8 * q) + i) (vp_nar .boolean 1))) 39 (upd ((va_up g 38 (upd (g 38) ((8 * q) + i) (vp_nar .boolean 1))) 39) ((8 * q) + i) b))) := by rw [← hS1, L_X9_lend]; rw [if_pos c_1, if_pos c_2]
          exact j_iret C hQ rfl dX9_lend_55 (dt_ifM hs)
        · refine j_iload_n (i := 3) C dX9_lend_48 rfl 0 rfl ?_
          refine j_goto (tgt := 53) C dX9_lend_49 (by decide) ?_
          refine asn_39 (q := ((8 * q) + i)) (F2 := ((va_up g 38 (upd (g 38) ((8 * q) + i) (vp_nar .boolean 1))) 39)) (F := (upd ((va_up g 38 (upd (g 38) ((8 * q) + i) (vp_nar .boolean 1))) 39) ((8 * q) + i) (nI i))) C dX9_lend_53 (by obtain ⟨d9, h91, h92, _⟩ := hi; omega) rfl rfl rfl ?_
          refine j_iload_n (i := 3) C dX9_lend_54 rfl 0 rfl ?_
          have hs : S_X9_lend u g b q = ((nI i), (va_up (va_up g 38 (upd (g 38) ((8 * q) + i) (vp_nar .boolean 1))) 39 (upd ((va_up g 38 (upd (g 38) ((8 * q) + i) (vp_nar .boolean 1))) 39) ((8 * q) + i) (nI i)))) := by rw [← hS1, L_X9_lend]; rw [if_pos c_1, if_neg c_2]
          exact j_iret C hQ rfl dX9_lend_55 (dt_ifM hs)
      · refine j_iinc (y := (nI (i + 1))) (lv' := [(3, .int (nI (i + 1))), (0, .ref (ad 22)), (1, .int (nI q)), (2, .int b)]) C dX9_lend_16 0 rfl (nI_1 _) (by decide) rfl ?_
        refine j_goto (tgt := 2) C dX9_lend_19 (by decide) ?_
        refine j_lv (lv' := [(3, .int (nI (i + 1))), (0, .ref (ad 22)), (1, .int (nI q)), (2, .int b)]) [0, 1, 2, 3] rfl ?_
        exact ih1 (i + 1) (by obtain ⟨d9, h91, h92, h93⟩ := hi; exact ⟨d9, by rcases Nat.lt_or_ge i d9 with q9 | q9; exact q9; exact absurd (by rw [show i = d9 by omega]; exact h93) c_1, h92, h93⟩) (by obtain ⟨d9, h91, h92, h93⟩ := hi; omega) (by rw [← hS1, L_X9_lend]; rw [if_neg c_1])
  exact hw1 9 0 (by obtain ⟨d9, h91, h92⟩ := hf; exact ⟨d9, Nat.zero_le _, h91, h92⟩) (by omega) rfl

def Q_X9_describe_1 (u : Nat → Int32) (g : Nat → Nat → Int32) (a : Int32) (b : Int32) (c : Int32) (d : Int32) (e : Int32) : (Nat → Nat → Int32) := (S_X9_put u (S_X9_put u g a ((b : Int32).toInt64) 8) (a + 8) ((c : Int32).toInt64) 4)
def Q_X9_describe_2 (u : Nat → Int32) (g : Nat → Nat → Int32) (a : Int32) (b : Int32) (c : Int32) (d : Int32) (e : Int32) : (Nat → Nat → Int32) := (S_X9_put u (Q_X9_describe_1 u g a b c d e) (a + 12) ((d : Int32).toInt64) 2)
def Q_X9_describe_3 (u : Nat → Int32) (g : Nat → Nat → Int32) (a : Int32) (b : Int32) (c : Int32) (d : Int32) (e : Int32) : (Nat → Nat → Int32) := (S_X9_put u (Q_X9_describe_2 u g a b c d e) (a + 14) ((e : Int32).toInt64) 2)
def S_X9_describe (u : Nat → Int32) (g : Nat → Nat → Int32) (a : Int32) (b : Int32) (c : Int32) (d : Int32) (e : Int32) : (Nat → Nat → Int32) :=
  (Q_X9_describe_3 u g a b c d e)
set_option maxHeartbeats 1000000 in
set_option maxRecDepth 100000 in
theorem c_X9_describe (ε : ET) (ad : Nat → Nat) (v : Nat → Int32) (f : Nat → Nat → Int32) (u : Nat → Int32) (g : Nat → Nat → Int32) (a : Int32) (b : Int32) (c : Int32) (d : Int32) (e : Int32) (hm : MA a 16) : CT ε yX9_describe cX9_describe 6 none 1 25 0 0 [.ref (ad 22), .int a, .int b, .int c, .int d, .int e] (WD ε ad v f u g) (DT none (WD ε ad v f u (S_X9_describe u g a b c d e))) := by
  refine CT.of (own := RX9) (by decide) rfl (Nat.le_of_ble_eq_true rfl) (fun κ C hQ => ?_)
  refine j_aload_n (i := 0) C dX9_describe_0 rfl 0 rfl ?_
  refine j_iload_n (i := 1) C dX9_describe_1 rfl 1 rfl ?_
  refine j_bipush (x := 8) C dX9_describe_2 (by decide) ?_
  refine j_iload_n (i := 2) C dX9_describe_4 rfl 2 rfl ?_
  refine j_i2l C dX9_describe_5 ?_
  refine c_V (As := [.int a, .int 8, .long ((b : Int32).toInt64)]) (rest := []) (st1 := []) C (c_X9_put ε ad v f u g a ((b : Int32).toInt64) 8  (by first | assumption | omega | decide) (hm.le (by omega))) mv_X9_put lm_X9_127 dX9_describe_6 22 wl_22 rfl rfl rfl (by decide) (Nat.le_of_ble_eq_true rfl) rfl ?_
  refine j_aload_n (i := 0) C dX9_describe_9 rfl 0 rfl ?_
  refine j_iload_n (i := 1) C dX9_describe_10 rfl 1 rfl ?_
  refine j_bipush (x := 8) C dX9_describe_11 (by decide) ?_
  refine j_iadd C dX9_describe_13 ?_
  refine j_iconst (x := 4) C dX9_describe_14 (by decide) ?_
  refine j_iload_n (i := 3) C dX9_describe_15 rfl 3 rfl ?_
  refine j_i2l C dX9_describe_16 ?_
  refine c_V (As := [.int (a + 8), .int 4, .long ((c : Int32).toInt64)]) (rest := []) (st1 := []) (ω1 := (WD ε ad v f u (Q_X9_describe_1 u g a b c d e))) C (c_X9_put ε ad v f u (S_X9_put u g a ((b : Int32).toInt64) 8) (a + 8) ((c : Int32).toInt64) 4  (by first | assumption | omega | decide) (hm.sub 8 (by omega))) mv_X9_put lm_X9_127 dX9_describe_17 22 wl_22 rfl rfl rfl (by decide) (Nat.le_of_ble_eq_true rfl) rfl ?_
  refine j_aload_n (i := 0) C dX9_describe_20 rfl 0 rfl ?_
  refine j_iload_n (i := 1) C dX9_describe_21 rfl 1 rfl ?_
  refine j_bipush (x := 12) C dX9_describe_22 (by decide) ?_
  refine j_iadd C dX9_describe_24 ?_
  refine j_iconst (x := 2) C dX9_describe_25 (by decide) ?_
  refine j_iload (i := 4) C dX9_describe_26 4 rfl ?_
  refine j_i2l C dX9_describe_28 ?_
  refine c_V (As := [.int (a + 12), .int 2, .long ((d : Int32).toInt64)]) (rest := []) (st1 := []) (ω1 := (WD ε ad v f u (Q_X9_describe_2 u g a b c d e))) C (c_X9_put ε ad v f u (Q_X9_describe_1 u g a b c d e) (a + 12) ((d : Int32).toInt64) 2  (by first | assumption | omega | decide) (hm.sub 12 (by omega))) mv_X9_put lm_X9_127 dX9_describe_29 22 wl_22 rfl rfl rfl (by decide) (Nat.le_of_ble_eq_true rfl) rfl ?_
  refine j_aload_n (i := 0) C dX9_describe_32 rfl 0 rfl ?_
  refine j_iload_n (i := 1) C dX9_describe_33 rfl 1 rfl ?_
  refine j_bipush (x := 14) C dX9_describe_34 (by decide) ?_
  refine j_iadd C dX9_describe_36 ?_
  refine j_iconst (x := 2) C dX9_describe_37 (by decide) ?_
  refine j_iload (i := 5) C dX9_describe_38 5 rfl ?_
  refine j_i2l C dX9_describe_40 ?_
  refine c_V (As := [.int (a + 14), .int 2, .long ((e : Int32).toInt64)]) (rest := []) (st1 := []) (ω1 := (WD ε ad v f u (Q_X9_describe_3 u g a b c d e))) C (c_X9_put ε ad v f u (Q_X9_describe_2 u g a b c d e) (a + 14) ((e : Int32).toInt64) 2  (by first | assumption | omega | decide) (hm.sub 14 (by omega))) mv_X9_put lm_X9_127 dX9_describe_41 22 wl_22 rfl rfl rfl (by decide) (Nat.le_of_ble_eq_true rfl) rfl ?_
  have hs : S_X9_describe u g a b c d e = (Q_X9_describe_3 u g a b c d e) := by unfold S_X9_describe; rfl
  exact j_vret C hQ rfl dX9_describe_44 (dt_nfM hs)

theorem of_ma {x : Int32} {t : Nat} {b : Nat} (hx : x = nI t) (ht : t < 65536) (hb : b + 16 ≤ 4096) : MA (nI b + 2 * (x - x / 8 * 8)) 2 := by
  obtain ⟨r, hr, e⟩ := rem_ma (y := 8) (n := 8) hx ht rfl (by omega) (by omega)
  rw [e, show (2 : Int32) = nI 2 from rfl, pk_mul, nI_add]
  exact ⟨_, rfl, by omega⟩
def Q_X9_offer_1 (u : Nat → Int32) (g : Nat → Nat → Int32) (b : Int32) (q : Nat) : (Nat → Nat → Int32) := (S_X9_put u g ((nI ((256 * q) + 132)) + (2 * (((g 40) q) - ((g 40) q) / 8 * 8))) ((b : Int32).toInt64) 2)
def Q_X9_offer_2 (u : Nat → Int32) (g : Nat → Nat → Int32) (b : Int32) (q : Nat) : (Nat → Nat → Int32) := (S_X9_put u (va_up (Q_X9_offer_1 u g b q) 40 (upd ((Q_X9_offer_1 u g b q) 40) q (((((Q_X9_offer_1 u g b q) 40) q) + 1) &&& 65535))) (nI ((256 * q) + 130)) ((((upd ((Q_X9_offer_1 u g b q) 40) q (((((Q_X9_offer_1 u g b q) 40) q) + 1) &&& 65535)) q) : Int32).toInt64) 2)
def S_X9_offer (u : Nat → Int32) (g : Nat → Nat → Int32) (b : Int32) (q : Nat) : (Nat → Nat → Int32) :=
  (Q_X9_offer_2 u g b q)
set_option maxHeartbeats 1000000 in
set_option maxRecDepth 100000 in
theorem c_X9_offer (ε : ET) (ad : Nat → Nat) (v : Nat → Int32) (f : Nat → Nat → Int32) (u : Nat → Int32) (g : Nat → Nat → Int32) (b : Int32) (q : Nat) (hq : q < 3) (hc : ∃ t : Nat, (g 40) q = nI t ∧ t < 65536) : CT ε yX9_offer cX9_offer 3 none 1 25 0 0 [.ref (ad 22), .int (nI q), .int b] (WD ε ad v f u g) (DT none (WD ε ad v f u (S_X9_offer u g b q))) := by
  refine CT.of (own := RX9) (by decide) rfl (Nat.le_of_ble_eq_true rfl) (fun κ C hQ => ?_)
  refine j_aload_n (i := 0) C dX9_offer_0 rfl 0 rfl ?_
  refine j_sipush (x := 256) C dX9_offer_1 (by decide) ?_
  refine j_iload_n (i := 1) C dX9_offer_4 rfl 1 rfl ?_
  refine j_imulN (a := 256) (b := q) C dX9_offer_5 rfl rfl ?_
  refine j_sipush (x := 132) C dX9_offer_6 (by decide) ?_
  refine j_iaddN (a := (256 * q)) (b := 132) C dX9_offer_9 rfl rfl ?_
  refine j_iconst (x := 2) C dX9_offer_10 (by decide) ?_
  refine j_aload_n (i := 0) C dX9_offer_11 rfl 0 rfl ?_
  refine g_22_counts C dX9_offer_12 lf_X9_24 ?_
  refine j_iload_n (i := 1) C dX9_offer_15 rfl 1 rfl ?_
  refine aln_40 (q := q) (F := (g 40)) C dX9_offer_16 (by omega) rfl rfl ?_
  refine j_bipush (x := 8) C dX9_offer_17 (by decide) ?_
  refine j_irem C dX9_offer_19 (by decide) ?_
  refine j_imul C dX9_offer_20 ?_
  refine j_iadd C dX9_offer_21 ?_
  refine j_iconst (x := 2) C dX9_offer_22 (by decide) ?_
  refine j_iload_n (i := 2) C dX9_offer_23 rfl 2 rfl ?_
  refine j_i2l C dX9_offer_24 ?_
  refine c_V (As := [.int ((nI ((256 * q) + 132)) + (2 * (((g 40) q) - ((g 40) q) / 8 * 8))), .int 2, .long ((b : Int32).toInt64)]) (rest := []) (st1 := []) (ω1 := (WD ε ad v f u (Q_X9_offer_1 u g b q))) C (c_X9_put ε ad v f u g ((nI ((256 * q) + 132)) + (2 * (((g 40) q) - ((g 40) q) / 8 * 8))) ((b : Int32).toInt64) 2  (by first | assumption | omega | decide) (by obtain ⟨t9, h91, h92⟩ := hc; exact of_ma h91 h92 (by omega))) mv_X9_put lm_X9_127 dX9_offer_25 22 wl_22 rfl rfl rfl (by decide) (Nat.le_of_ble_eq_true rfl) rfl ?_
  refine j_aload_n (i := 0) C dX9_offer_28 rfl 0 rfl ?_
  refine g_22_counts C dX9_offer_29 lf_X9_24 ?_
  refine j_iload_n (i := 1) C dX9_offer_32 rfl 1 rfl ?_
  refine j_aload_n (i := 0) C dX9_offer_33 rfl 0 rfl ?_
  refine g_22_counts C dX9_offer_34 lf_X9_24 ?_
  refine j_iload_n (i := 1) C dX9_offer_37 rfl 1 rfl ?_
  refine aln_40 (q := q) (F := ((Q_X9_offer_1 u g b q) 40)) C dX9_offer_38 (by omega) rfl rfl ?_
  refine j_iconst (x := 1) C dX9_offer_39 (by decide) ?_
  refine j_iadd C dX9_offer_40 ?_
  refine j_ldc C dX9_offer_41 li_X9_94 ?_
  refine j_iand C dX9_offer_43 ?_
  refine asn_40 (q := q) (F2 := ((Q_X9_offer_1 u g b q) 40)) (F := (upd ((Q_X9_offer_1 u g b q) 40) q (((((Q_X9_offer_1 u g b q) 40) q) + 1) &&& 65535))) C dX9_offer_44 (by omega) rfl rfl rfl ?_
  refine j_aload_n (i := 0) C dX9_offer_45 rfl 0 rfl ?_
  refine j_sipush (x := 256) C dX9_offer_46 (by decide) ?_
  refine j_iload_n (i := 1) C dX9_offer_49 rfl 1 rfl ?_
  refine j_imulN (a := 256) (b := q) C dX9_offer_50 rfl rfl ?_
  refine j_sipush (x := 130) C dX9_offer_51 (by decide) ?_
  refine j_iaddN (a := (256 * q)) (b := 130) C dX9_offer_54 rfl rfl ?_
  refine j_iconst (x := 2) C dX9_offer_55 (by decide) ?_
  refine j_aload_n (i := 0) C dX9_offer_56 rfl 0 rfl ?_
  refine g_22_counts C dX9_offer_57 lf_X9_24 ?_
  refine j_iload_n (i := 1) C dX9_offer_60 rfl 1 rfl ?_
  refine aln_40 (q := q) (F := (upd ((Q_X9_offer_1 u g b q) 40) q (((((Q_X9_offer_1 u g b q) 40) q) + 1) &&& 65535))) C dX9_offer_61 (by omega) rfl rfl ?_
  refine j_i2l C dX9_offer_62 ?_
  refine c_V (As := [.int (nI ((256 * q) + 130)), .int 2, .long ((((upd ((Q_X9_offer_1 u g b q) 40) q (((((Q_X9_offer_1 u g b q) 40) q) + 1) &&& 65535)) q) : Int32).toInt64)]) (rest := []) (st1 := []) (ω1 := (WD ε ad v f u (Q_X9_offer_2 u g b q))) C (c_X9_put ε ad v f u (va_up (Q_X9_offer_1 u g b q) 40 (upd ((Q_X9_offer_1 u g b q) 40) q (((((Q_X9_offer_1 u g b q) 40) q) + 1) &&& 65535))) (nI ((256 * q) + 130)) ((((upd ((Q_X9_offer_1 u g b q) 40) q (((((Q_X9_offer_1 u g b q) 40) q) + 1) &&& 65535)) q) : Int32).toInt64) 2  (by first | assumption | omega | decide) ⟨_, rfl, by omega⟩) mv_X9_put lm_X9_127 dX9_offer_63 22 wl_22 rfl rfl rfl (by decide) (Nat.le_of_ble_eq_true rfl) rfl ?_
  have hs : S_X9_offer u g b q = (Q_X9_offer_2 u g b q) := by unfold S_X9_offer; rfl
  exact j_vret C hQ rfl dX9_offer_66 (dt_nfM hs)

def S_X9_keep (u : Nat → Int32) (g : Nat → Nat → Int32) (a : Int32) (b : Int32) (c : Int32) : (Nat → Int32) × (Nat → Nat → Int32) :=
  if c = 0 then ((upd (upd u 4 ((u 4) + 1)) 5 (((upd u 4 ((u 4) + 1)) 5) + b)), (va_up (va_up g 32 (upd (g 32) ((u 4)).toNatClampNeg a)) 33 (upd ((va_up g 32 (upd (g 32) ((u 4)).toNatClampNeg a)) 33) ((u 4)).toNatClampNeg b)))
  else ((upd (upd u 6 ((u 6) + 1)) 7 (((upd u 6 ((u 6) + 1)) 7) + b)), (va_up (va_up g 34 (upd (g 34) ((u 6)).toNatClampNeg a)) 35 (upd ((va_up g 34 (upd (g 34) ((u 6)).toNatClampNeg a)) 35) ((u 6)).toNatClampNeg b)))
set_option maxHeartbeats 1000000 in
set_option maxRecDepth 100000 in
theorem c_X9_keep (ε : ET) (ad : Nat → Nat) (v : Nat → Int32) (f : Nat → Nat → Int32) (u : Nat → Int32) (g : Nat → Nat → Int32) (a : Int32) (b : Int32) (c : Int32) (hr : ∃ j : Nat, j < 20 ∧ (u 4) = nI j) (hw : ∃ j : Nat, j < 20 ∧ (u 6) = nI j) : CT ε yX9_keep cX9_keep 4 none 0 0 0 0 [.ref (ad 22), .int a, .int b, .int c] (WD ε ad v f u g) (DT none (WD ε ad v f ((S_X9_keep u g a b c).1) ((S_X9_keep u g a b c).2))) := by
  refine CT.of (own := RX9) (by decide) rfl (Nat.le_of_ble_eq_true rfl) (fun κ C hQ => ?_)
  refine j_iload_n (i := 3) C dX9_keep_0 rfl 3 rfl ?_
  refine j_if_eq (tgt := 47) C dX9_keep_1 (by decide) (fun c_1 => ?_) (fun c_1 => ?_)
  · refine j_aload_n (i := 0) C dX9_keep_47 rfl 0 rfl ?_
    refine g_22_reads C dX9_keep_48 lf_X9_58 ?_
    refine j_aload_n (i := 0) C dX9_keep_51 rfl 0 rfl ?_
    refine g_22_readMany (x := (u 4)) C dX9_keep_52 lf_X9_95 rfl ?_
    refine j_iload_n (i := 1) C dX9_keep_55 rfl 1 rfl ?_
    refine as_32 (F2 := (g 32)) (F := (upd (g 32) ((u 4)).toNatClampNeg a)) C dX9_keep_56 (by obtain ⟨j9, h91, h92⟩ := hr; rw [h92]; exact vp_in_nI h91 (by decide)) rfl rfl ?_
    refine j_aload_n (i := 0) C dX9_keep_57 rfl 0 rfl ?_
    refine g_22_readSizes C dX9_keep_58 lf_X9_61 ?_
    refine j_aload_n (i := 0) C dX9_keep_61 rfl 0 rfl ?_
    refine g_22_readMany (x := (u 4)) C dX9_keep_62 lf_X9_95 rfl ?_
    refine j_iload_n (i := 2) C dX9_keep_65 rfl 2 rfl ?_
    refine as_33 (F2 := ((va_up g 32 (upd (g 32) ((u 4)).toNatClampNeg a)) 33)) (F := (upd ((va_up g 32 (upd (g 32) ((u 4)).toNatClampNeg a)) 33) ((u 4)).toNatClampNeg b)) C dX9_keep_66 (by obtain ⟨j9, h91, h92⟩ := hr; rw [h92]; exact vp_in_nI h91 (by decide)) rfl rfl ?_
    refine j_aload_n (i := 0) C dX9_keep_67 rfl 0 rfl ?_
    refine j_dup C dX9_keep_68 rfl ?_
    refine g_22_readMany (x := (u 4)) C dX9_keep_69 lf_X9_95 rfl ?_
    refine j_iconst (x := 1) C dX9_keep_72 (by decide) ?_
    refine j_iadd C dX9_keep_73 ?_
    refine p_22_readMany C dX9_keep_74 lf_X9_95 ?_
    refine j_aload_n (i := 0) C dX9_keep_77 rfl 0 rfl ?_
    refine j_dup C dX9_keep_78 rfl ?_
    refine g_22_readAll (x := ((upd u 4 ((u 4) + 1)) 5)) C dX9_keep_79 lf_X9_98 rfl ?_
    refine j_iload_n (i := 2) C dX9_keep_82 rfl 2 rfl ?_
    refine j_iadd C dX9_keep_83 ?_
    refine p_22_readAll C dX9_keep_84 lf_X9_98 ?_
    have hs : S_X9_keep u g a b c = ((upd (upd u 4 ((u 4) + 1)) 5 (((upd u 4 ((u 4) + 1)) 5) + b)), (va_up (va_up g 32 (upd (g 32) ((u 4)).toNatClampNeg a)) 33 (upd ((va_up g 32 (upd (g 32) ((u 4)).toNatClampNeg a)) 33) ((u 4)).toNatClampNeg b))) := by unfold S_X9_keep; rw [if_pos c_1]
    exact j_vret C hQ rfl dX9_keep_87 (dt_nvfM hs)
  · refine j_aload_n (i := 0) C dX9_keep_4 rfl 0 rfl ?_
    refine g_22_writes C dX9_keep_5 lf_X9_64 ?_
    refine j_aload_n (i := 0) C dX9_keep_8 rfl 0 rfl ?_
    refine g_22_writeMany (x := (u 6)) C dX9_keep_9 lf_X9_101 rfl ?_
    refine j_iload_n (i := 1) C dX9_keep_12 rfl 1 rfl ?_
    refine as_34 (F2 := (g 34)) (F := (upd (g 34) ((u 6)).toNatClampNeg a)) C dX9_keep_13 (by obtain ⟨j9, h91, h92⟩ := hw; rw [h92]; exact vp_in_nI h91 (by decide)) rfl rfl ?_
    refine j_aload_n (i := 0) C dX9_keep_14 rfl 0 rfl ?_
    refine g_22_writeSizes C dX9_keep_15 lf_X9_67 ?_
    refine j_aload_n (i := 0) C dX9_keep_18 rfl 0 rfl ?_
    refine g_22_writeMany (x := (u 6)) C dX9_keep_19 lf_X9_101 rfl ?_
    refine j_iload_n (i := 2) C dX9_keep_22 rfl 2 rfl ?_
    refine as_35 (F2 := ((va_up g 34 (upd (g 34) ((u 6)).toNatClampNeg a)) 35)) (F := (upd ((va_up g 34 (upd (g 34) ((u 6)).toNatClampNeg a)) 35) ((u 6)).toNatClampNeg b)) C dX9_keep_23 (by obtain ⟨j9, h91, h92⟩ := hw; rw [h92]; exact vp_in_nI h91 (by decide)) rfl rfl ?_
    refine j_aload_n (i := 0) C dX9_keep_24 rfl 0 rfl ?_
    refine j_dup C dX9_keep_25 rfl ?_
    refine g_22_writeMany (x := (u 6)) C dX9_keep_26 lf_X9_101 rfl ?_
    refine j_iconst (x := 1) C dX9_keep_29 (by decide) ?_
    refine j_iadd C dX9_keep_30 ?_
    refine p_22_writeMany C dX9_keep_31 lf_X9_101 ?_
    refine j_aload_n (i := 0) C dX9_keep_34 rfl 0 rfl ?_
    refine j_dup C dX9_keep_35 rfl ?_
    refine g_22_writeAll (x := ((upd u 6 ((u 6) + 1)) 7)) C dX9_keep_36 lf_X9_104 rfl ?_
    refine j_iload_n (i := 2) C dX9_keep_39 rfl 2 rfl ?_
    refine j_iadd C dX9_keep_40 ?_
    refine p_22_writeAll C dX9_keep_41 lf_X9_104 ?_
    refine j_goto (tgt := 87) C dX9_keep_44 (by decide) ?_
    have hs : S_X9_keep u g a b c = ((upd (upd u 6 ((u 6) + 1)) 7 (((upd u 6 ((u 6) + 1)) 7) + b)), (va_up (va_up g 34 (upd (g 34) ((u 6)).toNatClampNeg a)) 35 (upd ((va_up g 34 (upd (g 34) ((u 6)).toNatClampNeg a)) 35) ((u 6)).toNatClampNeg b))) := by unfold S_X9_keep; rw [if_neg c_1]
    exact j_vret C hQ rfl dX9_keep_87 (dt_nvfM hs)

theorem wi_nI {u : Nat → Int32} {g : Nat → Nat → Int32} {w a : Int32} (hw : 0 ≤ w.toInt) (h : ¬ (S_X9_isIn u g a 0 ((if 16 < w then 16 else w) - 1)) = 0) : ∃ r : Nat, r < 16 ∧ ((w - 1) - a) - ((w - 1) - a) / 16 * 16 = nI r := by
  obtain ⟨n, hn, rfl⟩ := nI_of (x := w) (by rw [Int32.lt_iff_toInt_lt]; have : (0 : Int32).toInt = 0 := rfl; omega)
  obtain ⟨j, rfl, hj⟩ := in_nI h
  have hlt : j + 1 ≤ n := by
    match n, hn, hj with
    | 0, _, hj =>
      rw [if_neg (by decide)] at hj
      have : (nI 0 - 1).toInt = -1 := by decide
      omega
    | n + 1, hn, hj =>
      split at hj
      · rename_i h16
        rw [show (16 : Int32) = nI 16 from rfl, nI_ltI (by decide) hn] at h16
        have : ((16 : Int32) - 1).toInt = 15 := by decide
        omega
      · rw [nI_pred, nI_toInt (by omega)] at hj
        omega
  have e1 : nI n - 1 - nI j = nI (n - 1 - j) := by
    obtain ⟨m, rfl⟩ : ∃ m, n = m + 1 := ⟨n - 1, by omega⟩
    rw [nI_pred, pk_sub (by omega)]
    rfl
  rw [e1]
  exact ⟨(n - 1 - j) % 16, Nat.mod_lt _ (by decide), pk_rem (d := 16) (by omega) (by decide) (by decide)⟩
theorem wi_in {u : Nat → Int32} {g : Nat → Nat → Int32} {w a : Int32} (hw : 0 ≤ w.toInt) (h : ¬ (S_X9_isIn u g a 0 ((if 16 < w then 16 else w) - 1)) = 0) : vp_in (((w - 1) - a) - ((w - 1) - a) / 16 * 16) 16 := by
  obtain ⟨r, hr, e⟩ := wi_nI hw h
  rw [e]
  exact vp_in_nI hr (by decide)
theorem wi_in2 {u : Nat → Int32} {g : Nat → Nat → Int32} {x b : Int32} {S : Nat → Int32} (hx : ∃ r : Nat, r < 16 ∧ x = nI r) (hs : ∀ j : Nat, j < 16 → 0 ≤ (S j).toInt ∧ (S j).toInt ≤ 80) (h : ¬ (S_X9_isIn u g b 0 ((S x.toNatClampNeg) - 1)) = 0) : vp_in ((80 * x) + b) 1280 := by
  obtain ⟨r, hr, rfl⟩ := hx
  rw [nI_clamp (by omega)] at h
  have hr2 := hs r hr
  obtain ⟨j, rfl, hj⟩ := in_nI h
  have : (S r - 1).toInt ≤ 79 := by
    rw [Int32.toInt_sub, show (1 : Int32).toInt = 1 from rfl, Int.bmod_eq_of_le] <;> omega
  rw [show (80 : Int32) = nI 80 from rfl, pk_mul, nI_add]
  exact vp_in_nI (by omega) (by decide)
def Q_X9_wire_1 (u : Nat → Int32) (g : Nat → Nat → Int32) (a : Int32) (b : Int32) : Int32 := (S_X9_isIn u g a 0 ((if 16 < (u 9) then 16 else (u 9)) - 1))
def Q_X9_wire_2 (u : Nat → Int32) (g : Nat → Nat → Int32) (a : Int32) (b : Int32) : Int32 := (S_X9_isIn u g b 0 (((g 37) (((((u 9) - 1) - a) - (((u 9) - 1) - a) / 16 * 16)).toNatClampNeg) - 1))
def S_X9_wire (u : Nat → Int32) (g : Nat → Nat → Int32) (a : Int32) (b : Int32) : Int32 :=
  if (Q_X9_wire_1 u g a b) = 0 then (-1)
  else if (Q_X9_wire_2 u g a b) = 0 then (-1)
    else (((g 36) (((80 * ((((u 9) - 1) - a) - (((u 9) - 1) - a) / 16 * 16)) + b)).toNatClampNeg) &&& 255)
set_option maxHeartbeats 1000000 in
set_option maxRecDepth 100000 in
theorem c_X9_wire (ε : ET) (ad : Nat → Nat) (v : Nat → Int32) (f : Nat → Nat → Int32) (u : Nat → Int32) (g : Nat → Nat → Int32) (a : Int32) (b : Int32) (hw : 0 ≤ (u 9).toInt) (hs : ∀ j : Nat, j < 16 → 0 ≤ ((g 37) j).toInt ∧ ((g 37) j).toInt ≤ 80) : CT ε yX9_wire cX9_wire 4 (some .int) 1 22 0 0 [.ref (ad 22), .int a, .int b] (WD ε ad v f u g) (DT (some (.int (S_X9_wire u g a b))) (WD ε ad v f u g)) := by
  refine CT.of (own := RX9) (by decide) rfl (Nat.le_of_ble_eq_true rfl) (fun κ C hQ => ?_)
  refine j_iload_n (i := 1) C dX9_wire_0 rfl 1 rfl ?_
  refine j_iconst (x := 0) C dX9_wire_1 (by decide) ?_
  refine j_aload_n (i := 0) C dX9_wire_2 rfl 0 rfl ?_
  refine g_22_went (x := (u 9)) C dX9_wire_3 lf_X9_165 rfl ?_
  refine j_bipush (x := 16) C dX9_wire_6 (by decide) ?_
  refine j_min C dX9_wire_8 lm_X9_157 ⟨by decide, Nat.le_of_ble_eq_true rfl, by decide, by decide⟩ ?_
  refine j_iconst (x := 1) C dX9_wire_11 (by decide) ?_
  refine j_isub C dX9_wire_12 ?_
  refine c_S (As := [.int a, .int 0, .int ((if 16 < (u 9) then 16 else (u 9)) - 1)]) (rest := []) (st1 := [.int (Q_X9_wire_1 u g a b)]) C (c_X9_isIn ε ad v f u g a 0 ((if 16 < (u 9) then 16 else (u 9)) - 1)  ) mt_X9_isIn lm_X9_7 dX9_wire_13 rfl rfl (by decide) (Nat.le_of_ble_eq_true rfl) rfl ?_
  refine j_if_ne (tgt := 21) C dX9_wire_16 (by decide) (fun c_1 => ?_) (fun c_1 => ?_)
  · refine j_aload_n (i := 0) C dX9_wire_21 rfl 0 rfl ?_
    refine g_22_went (x := (u 9)) C dX9_wire_22 lf_X9_165 rfl ?_
    refine j_iconst (x := 1) C dX9_wire_25 (by decide) ?_
    refine j_isub C dX9_wire_26 ?_
    refine j_iload_n (i := 1) C dX9_wire_27 rfl 1 rfl ?_
    refine j_isub C dX9_wire_28 ?_
    refine j_bipush (x := 16) C dX9_wire_29 (by decide) ?_
    refine j_irem C dX9_wire_31 (by decide) ?_
    refine j_istore_n (i := 3) (lv' := [(3, .int ((((u 9) - 1) - a) - (((u 9) - 1) - a) / 16 * 16)), (0, .ref (ad 22)), (1, .int a), (2, .int b)]) C dX9_wire_32 rfl (by decide) rfl ?_
    refine j_iload_n (i := 2) C dX9_wire_33 rfl 3 rfl ?_
    refine j_iconst (x := 0) C dX9_wire_34 (by decide) ?_
    refine j_aload_n (i := 0) C dX9_wire_35 rfl 1 rfl ?_
    refine g_22_wireSizes C dX9_wire_36 lf_X9_73 ?_
    refine j_iload_n (i := 3) C dX9_wire_39 rfl 0 rfl ?_
    refine al_37 (F := (g 37)) C dX9_wire_40 (wi_in hw c_1) rfl ?_
    refine j_iconst (x := 1) C dX9_wire_41 (by decide) ?_
    refine j_isub C dX9_wire_42 ?_
    refine c_S (As := [.int b, .int 0, .int (((g 37) (((((u 9) - 1) - a) - (((u 9) - 1) - a) / 16 * 16)).toNatClampNeg) - 1)]) (rest := []) (st1 := [.int (Q_X9_wire_2 u g a b)]) C (c_X9_isIn ε ad v f u g b 0 (((g 37) (((((u 9) - 1) - a) - (((u 9) - 1) - a) / 16 * 16)).toNatClampNeg) - 1)  ) mt_X9_isIn lm_X9_7 dX9_wire_43 rfl rfl (by decide) (Nat.le_of_ble_eq_true rfl) rfl ?_
    refine j_if_eq (tgt := 67) C dX9_wire_46 (by decide) (fun c_2 => ?_) (fun c_2 => ?_)
    · refine j_iconst (x := (-1)) C dX9_wire_67 (by decide) ?_
      have hs : S_X9_wire u g a b = (-1) := by unfold S_X9_wire; rw [if_neg c_1, if_pos c_2]
      exact j_iret C hQ rfl dX9_wire_68 (dt_iM hs)
    · refine j_aload_n (i := 0) C dX9_wire_49 rfl 1 rfl ?_
      refine g_22_wires C dX9_wire_50 lf_X9_70 ?_
      refine j_bipush (x := 80) C dX9_wire_53 (by decide) ?_
      refine j_iload_n (i := 3) C dX9_wire_55 rfl 0 rfl ?_
      refine j_imul C dX9_wire_56 ?_
      refine j_iload_n (i := 2) C dX9_wire_57 rfl 3 rfl ?_
      refine j_iadd C dX9_wire_58 ?_
      refine al_36 (F := (g 36)) C dX9_wire_59 (wi_in2 (wi_nI hw c_1) hs c_2) rfl ?_
      refine j_sipush (x := 255) C dX9_wire_60 (by decide) ?_
      refine j_iand C dX9_wire_63 ?_
      refine j_goto (tgt := 68) C dX9_wire_64 (by decide) ?_
      have hs : S_X9_wire u g a b = (((g 36) (((80 * ((((u 9) - 1) - a) - (((u 9) - 1) - a) / 16 * 16)) + b)).toNatClampNeg) &&& 255) := by unfold S_X9_wire; rw [if_neg c_1, if_neg c_2]
      exact j_iret C hQ rfl dX9_wire_68 (dt_iM hs)
  · refine j_iconst (x := (-1)) C dX9_wire_19 (by decide) ?_
    have hs : S_X9_wire u g a b = (-1) := by unfold S_X9_wire; rw [if_pos c_1]
    exact j_iret C hQ rfl dX9_wire_20 (dt_iM hs)

def S_X9_told (u : Nat → Int32) (g : Nat → Nat → Int32) (a : Int32) (b : Int32) : Int32 :=
  if (S_X9_isIn u g a 0 2) = 0 then (-2)
  else if (S_X9_isIn u g b 0 6) = 0 then (-2)
    else if a = 0 then if b = 0 then if ((g 25) 0) ≤ 0 then 0
          else 1
        else if b = 1 then ((g 29) 0)
          else if b = 2 then ((g 30) 0)
            else if b = 3 then ((g 31) 0)
              else if b = 4 then ((g 25) 0)
                else if b = 5 then if (u 2) = 0 then 0
                    else (S_X9_freeOnes u g 0)
                  else ((g 41) 0)
      else if a = 1 then if b = 0 then if ((g 25) 1) ≤ 0 then 0
            else 1
          else if b = 1 then ((g 29) 1)
            else if b = 2 then ((g 30) 1)
              else if b = 3 then ((g 31) 1)
                else if b = 4 then ((g 25) 1)
                  else if b = 5 then if (u 2) = 0 then 0
                      else (S_X9_freeOnes u g 1)
                    else ((g 41) 1)
        else if b = 0 then if ((g 25) 2) ≤ 0 then 0
            else 1
          else if b = 1 then ((g 29) 2)
            else if b = 2 then ((g 30) 2)
              else if b = 3 then ((g 31) 2)
                else if b = 4 then ((g 25) 2)
                  else if b = 5 then if (u 2) = 0 then 0
                      else (S_X9_freeOnes u g 2)
                    else ((g 41) 2)
set_option maxHeartbeats 1000000 in
set_option maxRecDepth 100000 in
theorem c_X9_told (ε : ET) (ad : Nat → Nat) (v : Nat → Int32) (f : Nat → Nat → Int32) (u : Nat → Int32) (g : Nat → Nat → Int32) (a : Int32) (b : Int32)  : CT ε yX9_told cX9_told 3 (some .int) 1 23 0 0 [.ref (ad 22), .int a, .int b] (WD ε ad v f u g) (DT (some (.int (S_X9_told u g a b))) (WD ε ad v f u g)) := by
  refine CT.of (own := RX9) (by decide) rfl (Nat.le_of_ble_eq_true rfl) (fun κ C hQ => ?_)
  refine j_iload_n (i := 1) C dX9_told_0 rfl 1 rfl ?_
  refine j_iconst (x := 0) C dX9_told_1 (by decide) ?_
  refine j_iconst (x := 2) C dX9_told_2 (by decide) ?_
  refine c_S (As := [.int a, .int 0, .int 2]) (rest := []) (st1 := [.int (S_X9_isIn u g a 0 2)]) C (c_X9_isIn ε ad v f u g a 0 2  ) mt_X9_isIn lm_X9_7 dX9_told_3 rfl rfl (by decide) (Nat.le_of_ble_eq_true rfl) rfl ?_
  refine j_if_eq (tgt := 19) C dX9_told_6 (by decide) (fun c_1 => ?_) (fun c_1 => ?_)
  · refine j_bipush (x := (-2)) C dX9_told_19 (by decide) ?_
    have hs : S_X9_told u g a b = (-2) := by unfold S_X9_told; rw [if_pos c_1]
    exact j_iret C hQ rfl dX9_told_21 (dt_iM hs)
  · refine j_iload_n (i := 2) C dX9_told_9 rfl 2 rfl ?_
    refine j_iconst (x := 0) C dX9_told_10 (by decide) ?_
    refine j_bipush (x := 6) C dX9_told_11 (by decide) ?_
    refine c_S (As := [.int b, .int 0, .int 6]) (rest := []) (st1 := [.int (S_X9_isIn u g b 0 6)]) C (c_X9_isIn ε ad v f u g b 0 6  ) mt_X9_isIn lm_X9_7 dX9_told_13 rfl rfl (by decide) (Nat.le_of_ble_eq_true rfl) rfl ?_
    refine j_if_ne (tgt := 22) C dX9_told_16 (by decide) (fun c_2 => ?_) (fun c_2 => ?_)
    · by_cases c_3 : a = 0
      · refine j_to (lv2 := [(0, .ref (ad 22)), (1, .int 0), (2, .int b)]) (st' := []) rfl (by first | rfl | (rw [c_3]; rfl)) (by first | rfl | (rw [c_3]; rfl) | rw [c_3]) ?_
        refine j_iload_n (i := 2) C dX9_told_22 rfl 2 rfl ?_
        by_cases c_4 : b = 0
        · refine j_tswIn (kv := 0) (off := 37) (tgt := 60) C dX9_told_23 c_4 (by decide) (by decide) (by decide) (by decide) ?_
          refine j_aload_n (i := 0) C dX9_told_60 rfl 0 rfl ?_
          refine g_22_sizes C dX9_told_61 lf_X9_11 ?_
          refine j_iload_n (i := 1) C dX9_told_64 rfl 1 rfl ?_
          refine aln_25 (q := 0) (F := (g 25)) C dX9_told_65 (by omega) rfl rfl ?_
          refine j_if_le (tgt := 73) C dX9_told_66 (by decide) (fun c_5 => ?_) (fun c_5 => ?_)
          · refine j_iconst (x := 0) C dX9_told_73 (by decide) ?_
            have hs : S_X9_told u g a b = 0 := by unfold S_X9_told; rw [if_neg c_1, if_neg c_2, if_pos c_3, if_pos c_4, if_pos c_5]
            exact j_iret C hQ rfl dX9_told_74 (dt_iM hs)
          · refine j_iconst (x := 1) C dX9_told_69 (by decide) ?_
            refine j_goto (tgt := 74) C dX9_told_70 (by decide) ?_
            have hs : S_X9_told u g a b = 1 := by unfold S_X9_told; rw [if_neg c_1, if_neg c_2, if_pos c_3, if_pos c_4, if_neg c_5]
            exact j_iret C hQ rfl dX9_told_74 (dt_iM hs)
        · by_cases c_6 : b = 1
          · refine j_tswIn (kv := 1) (off := 52) (tgt := 75) C dX9_told_23 c_6 (by decide) (by decide) (by decide) (by decide) ?_
            refine j_aload_n (i := 0) C dX9_told_75 rfl 0 rfl ?_
            refine g_22_takens C dX9_told_76 lf_X9_15 ?_
            refine j_iload_n (i := 1) C dX9_told_79 rfl 1 rfl ?_
            refine aln_29 (q := 0) (F := (g 29)) C dX9_told_80 (by omega) rfl rfl ?_
            have hs : S_X9_told u g a b = ((g 29) 0) := by unfold S_X9_told; rw [if_neg c_1, if_neg c_2, if_pos c_3, if_neg c_4, if_pos c_6]
            exact j_iret C hQ rfl dX9_told_81 (dt_iM hs)
          · by_cases c_7 : b = 2
            · refine j_tswIn (kv := 2) (off := 59) (tgt := 82) C dX9_told_23 c_7 (by decide) (by decide) (by decide) (by decide) ?_
              refine j_aload_n (i := 0) C dX9_told_82 rfl 0 rfl ?_
              refine g_22_givens C dX9_told_83 lf_X9_18 ?_
              refine j_iload_n (i := 1) C dX9_told_86 rfl 1 rfl ?_
              refine aln_30 (q := 0) (F := (g 30)) C dX9_told_87 (by omega) rfl rfl ?_
              have hs : S_X9_told u g a b = ((g 30) 0) := by unfold S_X9_told; rw [if_neg c_1, if_neg c_2, if_pos c_3, if_neg c_4, if_neg c_6, if_pos c_7]
              exact j_iret C hQ rfl dX9_told_88 (dt_iM hs)
            · by_cases c_8 : b = 3
              · refine j_tswIn (kv := 3) (off := 66) (tgt := 89) C dX9_told_23 c_8 (by decide) (by decide) (by decide) (by decide) ?_
                refine j_aload_n (i := 0) C dX9_told_89 rfl 0 rfl ?_
                refine g_22_signals C dX9_told_90 lf_X9_21 ?_
                refine j_iload_n (i := 1) C dX9_told_93 rfl 1 rfl ?_
                refine aln_31 (q := 0) (F := (g 31)) C dX9_told_94 (by omega) rfl rfl ?_
                have hs : S_X9_told u g a b = ((g 31) 0) := by unfold S_X9_told; rw [if_neg c_1, if_neg c_2, if_pos c_3, if_neg c_4, if_neg c_6, if_neg c_7, if_pos c_8]
                exact j_iret C hQ rfl dX9_told_95 (dt_iM hs)
              · by_cases c_9 : b = 4
                · refine j_tswIn (kv := 4) (off := 73) (tgt := 96) C dX9_told_23 c_9 (by decide) (by decide) (by decide) (by decide) ?_
                  refine j_aload_n (i := 0) C dX9_told_96 rfl 0 rfl ?_
                  refine g_22_sizes C dX9_told_97 lf_X9_11 ?_
                  refine j_iload_n (i := 1) C dX9_told_100 rfl 1 rfl ?_
                  refine aln_25 (q := 0) (F := (g 25)) C dX9_told_101 (by omega) rfl rfl ?_
                  have hs : S_X9_told u g a b = ((g 25) 0) := by unfold S_X9_told; rw [if_neg c_1, if_neg c_2, if_pos c_3, if_neg c_4, if_neg c_6, if_neg c_7, if_neg c_8, if_pos c_9]
                  exact j_iret C hQ rfl dX9_told_102 (dt_iM hs)
                · by_cases c_10 : b = 5
                  · refine j_tswIn (kv := 5) (off := 80) (tgt := 103) C dX9_told_23 c_10 (by decide) (by decide) (by decide) (by decide) ?_
                    refine j_aload_n (i := 0) C dX9_told_103 rfl 0 rfl ?_
                    refine g_22_started (x := (u 2)) C dX9_told_104 lf_X9_83 rfl ?_
                    refine j_if_eq (tgt := 118) C dX9_told_107 (by decide) (fun c_11 => ?_) (fun c_11 => ?_)
                    · refine j_iconst (x := 0) C dX9_told_118 (by decide) ?_
                      have hs : S_X9_told u g a b = 0 := by unfold S_X9_told; rw [if_neg c_1, if_neg c_2, if_pos c_3, if_neg c_4, if_neg c_6, if_neg c_7, if_neg c_8, if_neg c_9, if_pos c_10, if_pos c_11]
                      exact j_iret C hQ rfl dX9_told_119 (dt_iM hs)
                    · refine j_aload_n (i := 0) C dX9_told_110 rfl 0 rfl ?_
                      refine j_iload_n (i := 1) C dX9_told_111 rfl 1 rfl ?_
                      refine c_V (As := [.int 0]) (rest := []) (st1 := [.int (S_X9_freeOnes u g 0)]) C (c_X9_freeOnes ε ad v f u g 0  (by first | assumption | omega | decide)) mv_X9_freeOnes lm_X9_180 dX9_told_112 22 wl_22 rfl rfl rfl (by decide) (Nat.le_of_ble_eq_true rfl) rfl ?_
                      refine j_goto (tgt := 119) C dX9_told_115 (by decide) ?_
                      have hs : S_X9_told u g a b = (S_X9_freeOnes u g 0) := by unfold S_X9_told; rw [if_neg c_1, if_neg c_2, if_pos c_3, if_neg c_4, if_neg c_6, if_neg c_7, if_neg c_8, if_neg c_9, if_pos c_10, if_neg c_11]
                      exact j_iret C hQ rfl dX9_told_119 (dt_iM hs)
                  · refine j_tswOut (tgt := 120) C dX9_told_23 (tsw_out (hi := 5) (by decide) (fun j hj => by match j, hj with | 0, _ => exact c_4 | 1, _ => exact c_6 | 2, _ => exact c_7 | 3, _ => exact c_8 | 4, _ => exact c_9 | 5, _ => exact c_10 | j + 6, hj => omega)) (by decide) ?_
                    refine j_aload_n (i := 0) C dX9_told_120 rfl 0 rfl ?_
                    refine g_22_saws C dX9_told_121 lf_X9_27 ?_
                    refine j_iload_n (i := 1) C dX9_told_124 rfl 1 rfl ?_
                    refine aln_41 (q := 0) (F := (g 41)) C dX9_told_125 (by omega) rfl rfl ?_
                    have hs : S_X9_told u g a b = ((g 41) 0) := by unfold S_X9_told; rw [if_neg c_1, if_neg c_2, if_pos c_3, if_neg c_4, if_neg c_6, if_neg c_7, if_neg c_8, if_neg c_9, if_neg c_10]
                    exact j_iret C hQ rfl dX9_told_126 (dt_iM hs)
      · by_cases c_12 : a = 1
        · refine j_to (lv2 := [(0, .ref (ad 22)), (1, .int 1), (2, .int b)]) (st' := []) rfl (by first | rfl | (rw [c_12]; rfl)) (by first | rfl | (rw [c_12]; rfl) | rw [c_12]) ?_
          refine j_iload_n (i := 2) C dX9_told_22 rfl 2 rfl ?_
          by_cases c_13 : b = 0
          · refine j_tswIn (kv := 0) (off := 37) (tgt := 60) C dX9_told_23 c_13 (by decide) (by decide) (by decide) (by decide) ?_
            refine j_aload_n (i := 0) C dX9_told_60 rfl 0 rfl ?_
            refine g_22_sizes C dX9_told_61 lf_X9_11 ?_
            refine j_iload_n (i := 1) C dX9_told_64 rfl 1 rfl ?_
            refine aln_25 (q := 1) (F := (g 25)) C dX9_told_65 (by omega) rfl rfl ?_
            refine j_if_le (tgt := 73) C dX9_told_66 (by decide) (fun c_14 => ?_) (fun c_14 => ?_)
            · refine j_iconst (x := 0) C dX9_told_73 (by decide) ?_
              have hs : S_X9_told u g a b = 0 := by unfold S_X9_told; rw [if_neg c_1, if_neg c_2, if_neg c_3, if_pos c_12, if_pos c_13, if_pos c_14]
              exact j_iret C hQ rfl dX9_told_74 (dt_iM hs)
            · refine j_iconst (x := 1) C dX9_told_69 (by decide) ?_
              refine j_goto (tgt := 74) C dX9_told_70 (by decide) ?_
              have hs : S_X9_told u g a b = 1 := by unfold S_X9_told; rw [if_neg c_1, if_neg c_2, if_neg c_3, if_pos c_12, if_pos c_13, if_neg c_14]
              exact j_iret C hQ rfl dX9_told_74 (dt_iM hs)
          · by_cases c_15 : b = 1
            · refine j_tswIn (kv := 1) (off := 52) (tgt := 75) C dX9_told_23 c_15 (by decide) (by decide) (by decide) (by decide) ?_
              refine j_aload_n (i := 0) C dX9_told_75 rfl 0 rfl ?_
              refine g_22_takens C dX9_told_76 lf_X9_15 ?_
              refine j_iload_n (i := 1) C dX9_told_79 rfl 1 rfl ?_
              refine aln_29 (q := 1) (F := (g 29)) C dX9_told_80 (by omega) rfl rfl ?_
              have hs : S_X9_told u g a b = ((g 29) 1) := by unfold S_X9_told; rw [if_neg c_1, if_neg c_2, if_neg c_3, if_pos c_12, if_neg c_13, if_pos c_15]
              exact j_iret C hQ rfl dX9_told_81 (dt_iM hs)
            · by_cases c_16 : b = 2
              · refine j_tswIn (kv := 2) (off := 59) (tgt := 82) C dX9_told_23 c_16 (by decide) (by decide) (by decide) (by decide) ?_
                refine j_aload_n (i := 0) C dX9_told_82 rfl 0 rfl ?_
                refine g_22_givens C dX9_told_83 lf_X9_18 ?_
                refine j_iload_n (i := 1) C dX9_told_86 rfl 1 rfl ?_
                refine aln_30 (q := 1) (F := (g 30)) C dX9_told_87 (by omega) rfl rfl ?_
                have hs : S_X9_told u g a b = ((g 30) 1) := by unfold S_X9_told; rw [if_neg c_1, if_neg c_2, if_neg c_3, if_pos c_12, if_neg c_13, if_neg c_15, if_pos c_16]
                exact j_iret C hQ rfl dX9_told_88 (dt_iM hs)
              · by_cases c_17 : b = 3
                · refine j_tswIn (kv := 3) (off := 66) (tgt := 89) C dX9_told_23 c_17 (by decide) (by decide) (by decide) (by decide) ?_
                  refine j_aload_n (i := 0) C dX9_told_89 rfl 0 rfl ?_
                  refine g_22_signals C dX9_told_90 lf_X9_21 ?_
                  refine j_iload_n (i := 1) C dX9_told_93 rfl 1 rfl ?_
                  refine aln_31 (q := 1) (F := (g 31)) C dX9_told_94 (by omega) rfl rfl ?_
                  have hs : S_X9_told u g a b = ((g 31) 1) := by unfold S_X9_told; rw [if_neg c_1, if_neg c_2, if_neg c_3, if_pos c_12, if_neg c_13, if_neg c_15, if_neg c_16, if_pos c_17]
                  exact j_iret C hQ rfl dX9_told_95 (dt_iM hs)
                · by_cases c_18 : b = 4
                  · refine j_tswIn (kv := 4) (off := 73) (tgt := 96) C dX9_told_23 c_18 (by decide) (by decide) (by decide) (by decide) ?_
                    refine j_aload_n (i := 0) C dX9_told_96 rfl 0 rfl ?_
                    refine g_22_sizes C dX9_told_97 lf_X9_11 ?_
                    refine j_iload_n (i := 1) C dX9_told_100 rfl 1 rfl ?_
                    refine aln_25 (q := 1) (F := (g 25)) C dX9_told_101 (by omega) rfl rfl ?_
                    have hs : S_X9_told u g a b = ((g 25) 1) := by unfold S_X9_told; rw [if_neg c_1, if_neg c_2, if_neg c_3, if_pos c_12, if_neg c_13, if_neg c_15, if_neg c_16, if_neg c_17, if_pos c_18]
                    exact j_iret C hQ rfl dX9_told_102 (dt_iM hs)
                  · by_cases c_19 : b = 5
                    · refine j_tswIn (kv := 5) (off := 80) (tgt := 103) C dX9_told_23 c_19 (by decide) (by decide) (by decide) (by decide) ?_
                      refine j_aload_n (i := 0) C dX9_told_103 rfl 0 rfl ?_
                      refine g_22_started (x := (u 2)) C dX9_told_104 lf_X9_83 rfl ?_
                      refine j_if_eq (tgt := 118) C dX9_told_107 (by decide) (fun c_20 => ?_) (fun c_20 => ?_)
                      · refine j_iconst (x := 0) C dX9_told_118 (by decide) ?_
                        have hs : S_X9_told u g a b = 0 := by unfold S_X9_told; rw [if_neg c_1, if_neg c_2, if_neg c_3, if_pos c_12, if_neg c_13, if_neg c_15, if_neg c_16, if_neg c_17, if_neg c_18, if_pos c_19, if_pos c_20]
                        exact j_iret C hQ rfl dX9_told_119 (dt_iM hs)
                      · refine j_aload_n (i := 0) C dX9_told_110 rfl 0 rfl ?_
                        refine j_iload_n (i := 1) C dX9_told_111 rfl 1 rfl ?_
                        refine c_V (As := [.int 1]) (rest := []) (st1 := [.int (S_X9_freeOnes u g 1)]) C (c_X9_freeOnes ε ad v f u g 1  (by first | assumption | omega | decide)) mv_X9_freeOnes lm_X9_180 dX9_told_112 22 wl_22 rfl rfl rfl (by decide) (Nat.le_of_ble_eq_true rfl) rfl ?_
                        refine j_goto (tgt := 119) C dX9_told_115 (by decide) ?_
                        have hs : S_X9_told u g a b = (S_X9_freeOnes u g 1) := by unfold S_X9_told; rw [if_neg c_1, if_neg c_2, if_neg c_3, if_pos c_12, if_neg c_13, if_neg c_15, if_neg c_16, if_neg c_17, if_neg c_18, if_pos c_19, if_neg c_20]
                        exact j_iret C hQ rfl dX9_told_119 (dt_iM hs)
                    · refine j_tswOut (tgt := 120) C dX9_told_23 (tsw_out (hi := 5) (by decide) (fun j hj => by match j, hj with | 0, _ => exact c_13 | 1, _ => exact c_15 | 2, _ => exact c_16 | 3, _ => exact c_17 | 4, _ => exact c_18 | 5, _ => exact c_19 | j + 6, hj => omega)) (by decide) ?_
                      refine j_aload_n (i := 0) C dX9_told_120 rfl 0 rfl ?_
                      refine g_22_saws C dX9_told_121 lf_X9_27 ?_
                      refine j_iload_n (i := 1) C dX9_told_124 rfl 1 rfl ?_
                      refine aln_41 (q := 1) (F := (g 41)) C dX9_told_125 (by omega) rfl rfl ?_
                      have hs : S_X9_told u g a b = ((g 41) 1) := by unfold S_X9_told; rw [if_neg c_1, if_neg c_2, if_neg c_3, if_pos c_12, if_neg c_13, if_neg c_15, if_neg c_16, if_neg c_17, if_neg c_18, if_neg c_19]
                      exact j_iret C hQ rfl dX9_told_126 (dt_iM hs)
        · have c_21 : a = 2 := in2 c_1 c_3 c_12
          refine j_to (lv2 := [(0, .ref (ad 22)), (1, .int 2), (2, .int b)]) (st' := []) rfl (by first | rfl | (rw [c_21]; rfl)) (by first | rfl | (rw [c_21]; rfl) | rw [c_21]) ?_
          refine j_iload_n (i := 2) C dX9_told_22 rfl 2 rfl ?_
          by_cases c_22 : b = 0
          · refine j_tswIn (kv := 0) (off := 37) (tgt := 60) C dX9_told_23 c_22 (by decide) (by decide) (by decide) (by decide) ?_
            refine j_aload_n (i := 0) C dX9_told_60 rfl 0 rfl ?_
            refine g_22_sizes C dX9_told_61 lf_X9_11 ?_
            refine j_iload_n (i := 1) C dX9_told_64 rfl 1 rfl ?_
            refine aln_25 (q := 2) (F := (g 25)) C dX9_told_65 (by omega) rfl rfl ?_
            refine j_if_le (tgt := 73) C dX9_told_66 (by decide) (fun c_23 => ?_) (fun c_23 => ?_)
            · refine j_iconst (x := 0) C dX9_told_73 (by decide) ?_
              have hs : S_X9_told u g a b = 0 := by unfold S_X9_told; rw [if_neg c_1, if_neg c_2, if_neg c_3, if_neg c_12, if_pos c_22, if_pos c_23]
              exact j_iret C hQ rfl dX9_told_74 (dt_iM hs)
            · refine j_iconst (x := 1) C dX9_told_69 (by decide) ?_
              refine j_goto (tgt := 74) C dX9_told_70 (by decide) ?_
              have hs : S_X9_told u g a b = 1 := by unfold S_X9_told; rw [if_neg c_1, if_neg c_2, if_neg c_3, if_neg c_12, if_pos c_22, if_neg c_23]
              exact j_iret C hQ rfl dX9_told_74 (dt_iM hs)
          · by_cases c_24 : b = 1
            · refine j_tswIn (kv := 1) (off := 52) (tgt := 75) C dX9_told_23 c_24 (by decide) (by decide) (by decide) (by decide) ?_
              refine j_aload_n (i := 0) C dX9_told_75 rfl 0 rfl ?_
              refine g_22_takens C dX9_told_76 lf_X9_15 ?_
              refine j_iload_n (i := 1) C dX9_told_79 rfl 1 rfl ?_
              refine aln_29 (q := 2) (F := (g 29)) C dX9_told_80 (by omega) rfl rfl ?_
              have hs : S_X9_told u g a b = ((g 29) 2) := by unfold S_X9_told; rw [if_neg c_1, if_neg c_2, if_neg c_3, if_neg c_12, if_neg c_22, if_pos c_24]
              exact j_iret C hQ rfl dX9_told_81 (dt_iM hs)
            · by_cases c_25 : b = 2
              · refine j_tswIn (kv := 2) (off := 59) (tgt := 82) C dX9_told_23 c_25 (by decide) (by decide) (by decide) (by decide) ?_
                refine j_aload_n (i := 0) C dX9_told_82 rfl 0 rfl ?_
                refine g_22_givens C dX9_told_83 lf_X9_18 ?_
                refine j_iload_n (i := 1) C dX9_told_86 rfl 1 rfl ?_
                refine aln_30 (q := 2) (F := (g 30)) C dX9_told_87 (by omega) rfl rfl ?_
                have hs : S_X9_told u g a b = ((g 30) 2) := by unfold S_X9_told; rw [if_neg c_1, if_neg c_2, if_neg c_3, if_neg c_12, if_neg c_22, if_neg c_24, if_pos c_25]
                exact j_iret C hQ rfl dX9_told_88 (dt_iM hs)
              · by_cases c_26 : b = 3
                · refine j_tswIn (kv := 3) (off := 66) (tgt := 89) C dX9_told_23 c_26 (by decide) (by decide) (by decide) (by decide) ?_
                  refine j_aload_n (i := 0) C dX9_told_89 rfl 0 rfl ?_
                  refine g_22_signals C dX9_told_90 lf_X9_21 ?_
                  refine j_iload_n (i := 1) C dX9_told_93 rfl 1 rfl ?_
                  refine aln_31 (q := 2) (F := (g 31)) C dX9_told_94 (by omega) rfl rfl ?_
                  have hs : S_X9_told u g a b = ((g 31) 2) := by unfold S_X9_told; rw [if_neg c_1, if_neg c_2, if_neg c_3, if_neg c_12, if_neg c_22, if_neg c_24, if_neg c_25, if_pos c_26]
                  exact j_iret C hQ rfl dX9_told_95 (dt_iM hs)
                · by_cases c_27 : b = 4
                  · refine j_tswIn (kv := 4) (off := 73) (tgt := 96) C dX9_told_23 c_27 (by decide) (by decide) (by decide) (by decide) ?_
                    refine j_aload_n (i := 0) C dX9_told_96 rfl 0 rfl ?_
                    refine g_22_sizes C dX9_told_97 lf_X9_11 ?_
                    refine j_iload_n (i := 1) C dX9_told_100 rfl 1 rfl ?_
                    refine aln_25 (q := 2) (F := (g 25)) C dX9_told_101 (by omega) rfl rfl ?_
                    have hs : S_X9_told u g a b = ((g 25) 2) := by unfold S_X9_told; rw [if_neg c_1, if_neg c_2, if_neg c_3, if_neg c_12, if_neg c_22, if_neg c_24, if_neg c_25, if_neg c_26, if_pos c_27]
                    exact j_iret C hQ rfl dX9_told_102 (dt_iM hs)
                  · by_cases c_28 : b = 5
                    · refine j_tswIn (kv := 5) (off := 80) (tgt := 103) C dX9_told_23 c_28 (by decide) (by decide) (by decide) (by decide) ?_
                      refine j_aload_n (i := 0) C dX9_told_103 rfl 0 rfl ?_
                      refine g_22_started (x := (u 2)) C dX9_told_104 lf_X9_83 rfl ?_
                      refine j_if_eq (tgt := 118) C dX9_told_107 (by decide) (fun c_29 => ?_) (fun c_29 => ?_)
                      · refine j_iconst (x := 0) C dX9_told_118 (by decide) ?_
                        have hs : S_X9_told u g a b = 0 := by unfold S_X9_told; rw [if_neg c_1, if_neg c_2, if_neg c_3, if_neg c_12, if_neg c_22, if_neg c_24, if_neg c_25, if_neg c_26, if_neg c_27, if_pos c_28, if_pos c_29]
                        exact j_iret C hQ rfl dX9_told_119 (dt_iM hs)
                      · refine j_aload_n (i := 0) C dX9_told_110 rfl 0 rfl ?_
                        refine j_iload_n (i := 1) C dX9_told_111 rfl 1 rfl ?_
                        refine c_V (As := [.int 2]) (rest := []) (st1 := [.int (S_X9_freeOnes u g 2)]) C (c_X9_freeOnes ε ad v f u g 2  (by first | assumption | omega | decide)) mv_X9_freeOnes lm_X9_180 dX9_told_112 22 wl_22 rfl rfl rfl (by decide) (Nat.le_of_ble_eq_true rfl) rfl ?_
                        refine j_goto (tgt := 119) C dX9_told_115 (by decide) ?_
                        have hs : S_X9_told u g a b = (S_X9_freeOnes u g 2) := by unfold S_X9_told; rw [if_neg c_1, if_neg c_2, if_neg c_3, if_neg c_12, if_neg c_22, if_neg c_24, if_neg c_25, if_neg c_26, if_neg c_27, if_pos c_28, if_neg c_29]
                        exact j_iret C hQ rfl dX9_told_119 (dt_iM hs)
                    · refine j_tswOut (tgt := 120) C dX9_told_23 (tsw_out (hi := 5) (by decide) (fun j hj => by match j, hj with | 0, _ => exact c_22 | 1, _ => exact c_24 | 2, _ => exact c_25 | 3, _ => exact c_26 | 4, _ => exact c_27 | 5, _ => exact c_28 | j + 6, hj => omega)) (by decide) ?_
                      refine j_aload_n (i := 0) C dX9_told_120 rfl 0 rfl ?_
                      refine g_22_saws C dX9_told_121 lf_X9_27 ?_
                      refine j_iload_n (i := 1) C dX9_told_124 rfl 1 rfl ?_
                      refine aln_41 (q := 2) (F := (g 41)) C dX9_told_125 (by omega) rfl rfl ?_
                      have hs : S_X9_told u g a b = ((g 41) 2) := by unfold S_X9_told; rw [if_neg c_1, if_neg c_2, if_neg c_3, if_neg c_12, if_neg c_22, if_neg c_24, if_neg c_25, if_neg c_26, if_neg c_27, if_neg c_28]
                      exact j_iret C hQ rfl dX9_told_126 (dt_iM hs)
    · refine j_bipush (x := (-2)) C dX9_told_19 (by decide) ?_
      have hs : S_X9_told u g a b = (-2) := by unfold S_X9_told; rw [if_neg c_1, if_pos c_2]
      exact j_iret C hQ rfl dX9_told_21 (dt_iM hs)

/-- what give needs of a QUEUE -/
def GV (g : Nat → Nat → Int32) (q : Nat) : Prop := (∃ n : Nat, g 25 q = nI n ∧ 1 ≤ n ∧ n ≤ 16 ∧ MA (g 28 q) (4 + 8 * n)) ∧ (∃ t : Nat, g 30 q = nI t ∧ t < 65536) ∧ MA (g 27 q) 1
theorem GV.ne {g : Nat → Nat → Int32} {q : Nat} (h : GV g q) : ¬ g 25 q = 0 := by
  obtain ⟨⟨n, e, h1, h2, -⟩, -⟩ := h
  rw [e]
  exact nI_ne0 (by omega) (by omega)
theorem GV.ma {g : Nat → Nat → Int32} {q : Nat} (h : GV g q) : MA ((((g 28) q) + 4) + (8 * (((g 30) q) - ((g 30) q) / ((g 25) q) * ((g 25) q)))) 8 := by
  obtain ⟨⟨n, e, h1, h2, p, ep, hp⟩, ⟨t, et, ht⟩, -⟩ := h
  obtain ⟨r, hr, er⟩ := rem_ma et ht e h1 h2
  rw [er, ep, show (8 : Int32) = nI 8 from rfl, show (4 : Int32) = nI 4 from rfl, pk_mul, nI_add, nI_add]
  exact ⟨_, rfl, by omega⟩
theorem GV.us {g : Nat → Nat → Int32} {q : Nat} (h : GV g q) : MA ((g 28 q) + 2) 2 := by
  obtain ⟨⟨n, e, h1, h2, hm⟩, -⟩ := h
  exact hm.sub 2 (by omega)
def Q_X9_give_1 (u : Nat → Int32) (g : Nat → Nat → Int32) (b : Int32) (q : Nat) : (Nat → Nat → Int32) := (S_X9_put u g ((((g 28) q) + 4) + (8 * (((g 30) q) - ((g 30) q) / ((g 25) q) * ((g 25) q)))) (((u 3) : Int32).toInt64) 4)
def Q_X9_give_2 (u : Nat → Int32) (g : Nat → Nat → Int32) (b : Int32) (q : Nat) : (Nat → Nat → Int32) := (S_X9_put u (Q_X9_give_1 u g b q) (((((g 28) q) + 4) + (8 * (((g 30) q) - ((g 30) q) / ((g 25) q) * ((g 25) q)))) + 4) ((b : Int32).toInt64) 4)
def Q_X9_give_3 (u : Nat → Int32) (g : Nat → Nat → Int32) (b : Int32) (q : Nat) : (Nat → Nat → Int32) := (S_X9_put u (va_up (Q_X9_give_2 u g b q) 30 (upd ((Q_X9_give_2 u g b q) 30) q (((((Q_X9_give_2 u g b q) 30) q) + 1) &&& 65535))) ((((va_up (Q_X9_give_2 u g b q) 30 (upd ((Q_X9_give_2 u g b q) 30) q (((((Q_X9_give_2 u g b q) 30) q) + 1) &&& 65535))) 28) q) + 2) ((((upd ((Q_X9_give_2 u g b q) 30) q (((((Q_X9_give_2 u g b q) 30) q) + 1) &&& 65535)) q) : Int32).toInt64) 2)
def S_X9_give (u : Nat → Int32) (g : Nat → Nat → Int32) (b : Int32) (q : Nat) : (Nat → Nat → Int32) :=
  if ((((Q_X9_give_3 u g b q) 23) ((((Q_X9_give_3 u g b q) 27) q)).toNatClampNeg) &&& 1) = 0 then (va_up (Q_X9_give_3 u g b q) 31 (upd ((Q_X9_give_3 u g b q) 31) q ((((Q_X9_give_3 u g b q) 31) q) + 1)))
  else (Q_X9_give_3 u g b q)
set_option maxHeartbeats 1000000 in
set_option maxRecDepth 100000 in
theorem c_X9_give (ε : ET) (ad : Nat → Nat) (v : Nat → Int32) (f : Nat → Nat → Int32) (u : Nat → Int32) (g : Nat → Nat → Int32) (b : Int32) (q : Nat) (hq : q < 3) (hg : GV g q) : CT ε yX9_give cX9_give 4 none 1 25 0 0 [.ref (ad 22), .int (nI q), .int b] (WD ε ad v f u g) (DT none (WD ε ad v f u (S_X9_give u g b q))) := by
  refine CT.of (own := RX9) (by decide) rfl (Nat.le_of_ble_eq_true rfl) (fun κ C hQ => ?_)
  refine j_aload_n (i := 0) C dX9_give_0 rfl 0 rfl ?_
  refine g_22_useds C dX9_give_1 lf_X9_55 ?_
  refine j_iload_n (i := 1) C dX9_give_4 rfl 1 rfl ?_
  refine aln_28 (q := q) (F := (g 28)) C dX9_give_5 (by omega) rfl rfl ?_
  refine j_iconst (x := 4) C dX9_give_6 (by decide) ?_
  refine j_iadd C dX9_give_7 ?_
  refine j_bipush (x := 8) C dX9_give_8 (by decide) ?_
  refine j_aload_n (i := 0) C dX9_give_10 rfl 0 rfl ?_
  refine g_22_givens C dX9_give_11 lf_X9_18 ?_
  refine j_iload_n (i := 1) C dX9_give_14 rfl 1 rfl ?_
  refine aln_30 (q := q) (F := (g 30)) C dX9_give_15 (by omega) rfl rfl ?_
  refine j_aload_n (i := 0) C dX9_give_16 rfl 0 rfl ?_
  refine g_22_sizes C dX9_give_17 lf_X9_11 ?_
  refine j_iload_n (i := 1) C dX9_give_20 rfl 1 rfl ?_
  refine aln_25 (q := q) (F := (g 25)) C dX9_give_21 (by omega) rfl rfl ?_
  refine j_irem C dX9_give_22 hg.ne ?_
  refine j_imul C dX9_give_23 ?_
  refine j_iadd C dX9_give_24 ?_
  refine j_istore_n (i := 3) (lv' := [(3, .int ((((g 28) q) + 4) + (8 * (((g 30) q) - ((g 30) q) / ((g 25) q) * ((g 25) q))))), (0, .ref (ad 22)), (1, .int (nI q)), (2, .int b)]) C dX9_give_25 rfl (by decide) rfl ?_
  refine j_aload_n (i := 0) C dX9_give_26 rfl 1 rfl ?_
  refine j_iload_n (i := 3) C dX9_give_27 rfl 0 rfl ?_
  refine j_iconst (x := 4) C dX9_give_28 (by decide) ?_
  refine j_aload_n (i := 0) C dX9_give_29 rfl 1 rfl ?_
  refine g_22_head (x := (u 3)) C dX9_give_30 lf_X9_107 rfl ?_
  refine j_i2l C dX9_give_33 ?_
  refine c_V (As := [.int ((((g 28) q) + 4) + (8 * (((g 30) q) - ((g 30) q) / ((g 25) q) * ((g 25) q)))), .int 4, .long (((u 3) : Int32).toInt64)]) (rest := []) (st1 := []) (ω1 := (WD ε ad v f u (Q_X9_give_1 u g b q))) C (c_X9_put ε ad v f u g ((((g 28) q) + 4) + (8 * (((g 30) q) - ((g 30) q) / ((g 25) q) * ((g 25) q)))) (((u 3) : Int32).toInt64) 4  (by first | assumption | omega | decide) (hg.ma.le (by omega))) mv_X9_put lm_X9_127 dX9_give_34 22 wl_22 rfl rfl rfl (by decide) (Nat.le_of_ble_eq_true rfl) rfl ?_
  refine j_aload_n (i := 0) C dX9_give_37 rfl 1 rfl ?_
  refine j_iload_n (i := 3) C dX9_give_38 rfl 0 rfl ?_
  refine j_iconst (x := 4) C dX9_give_39 (by decide) ?_
  refine j_iadd C dX9_give_40 ?_
  refine j_iconst (x := 4) C dX9_give_41 (by decide) ?_
  refine j_iload_n (i := 2) C dX9_give_42 rfl 3 rfl ?_
  refine j_i2l C dX9_give_43 ?_
  refine c_V (As := [.int (((((g 28) q) + 4) + (8 * (((g 30) q) - ((g 30) q) / ((g 25) q) * ((g 25) q)))) + 4), .int 4, .long ((b : Int32).toInt64)]) (rest := []) (st1 := []) (ω1 := (WD ε ad v f u (Q_X9_give_2 u g b q))) C (c_X9_put ε ad v f u (Q_X9_give_1 u g b q) (((((g 28) q) + 4) + (8 * (((g 30) q) - ((g 30) q) / ((g 25) q) * ((g 25) q)))) + 4) ((b : Int32).toInt64) 4  (by first | assumption | omega | decide) (hg.ma.sub 4 (by omega))) mv_X9_put lm_X9_127 dX9_give_44 22 wl_22 rfl rfl rfl (by decide) (Nat.le_of_ble_eq_true rfl) rfl ?_
  refine j_aload_n (i := 0) C dX9_give_47 rfl 1 rfl ?_
  refine g_22_givens C dX9_give_48 lf_X9_18 ?_
  refine j_iload_n (i := 1) C dX9_give_51 rfl 2 rfl ?_
  refine j_aload_n (i := 0) C dX9_give_52 rfl 1 rfl ?_
  refine g_22_givens C dX9_give_53 lf_X9_18 ?_
  refine j_iload_n (i := 1) C dX9_give_56 rfl 2 rfl ?_
  refine aln_30 (q := q) (F := ((Q_X9_give_2 u g b q) 30)) C dX9_give_57 (by omega) rfl rfl ?_
  refine j_iconst (x := 1) C dX9_give_58 (by decide) ?_
  refine j_iadd C dX9_give_59 ?_
  refine j_ldc C dX9_give_60 li_X9_94 ?_
  refine j_iand C dX9_give_62 ?_
  refine asn_30 (q := q) (F2 := ((Q_X9_give_2 u g b q) 30)) (F := (upd ((Q_X9_give_2 u g b q) 30) q (((((Q_X9_give_2 u g b q) 30) q) + 1) &&& 65535))) C dX9_give_63 (by omega) rfl rfl rfl ?_
  refine j_aload_n (i := 0) C dX9_give_64 rfl 1 rfl ?_
  refine j_aload_n (i := 0) C dX9_give_65 rfl 1 rfl ?_
  refine g_22_useds C dX9_give_66 lf_X9_55 ?_
  refine j_iload_n (i := 1) C dX9_give_69 rfl 2 rfl ?_
  refine aln_28 (q := q) (F := ((va_up (Q_X9_give_2 u g b q) 30 (upd ((Q_X9_give_2 u g b q) 30) q (((((Q_X9_give_2 u g b q) 30) q) + 1) &&& 65535))) 28)) C dX9_give_70 (by omega) rfl rfl ?_
  refine j_iconst (x := 2) C dX9_give_71 (by decide) ?_
  refine j_iadd C dX9_give_72 ?_
  refine j_iconst (x := 2) C dX9_give_73 (by decide) ?_
  refine j_aload_n (i := 0) C dX9_give_74 rfl 1 rfl ?_
  refine g_22_givens C dX9_give_75 lf_X9_18 ?_
  refine j_iload_n (i := 1) C dX9_give_78 rfl 2 rfl ?_
  refine aln_30 (q := q) (F := (upd ((Q_X9_give_2 u g b q) 30) q (((((Q_X9_give_2 u g b q) 30) q) + 1) &&& 65535))) C dX9_give_79 (by omega) rfl rfl ?_
  refine j_i2l C dX9_give_80 ?_
  refine c_V (As := [.int ((((va_up (Q_X9_give_2 u g b q) 30 (upd ((Q_X9_give_2 u g b q) 30) q (((((Q_X9_give_2 u g b q) 30) q) + 1) &&& 65535))) 28) q) + 2), .int 2, .long ((((upd ((Q_X9_give_2 u g b q) 30) q (((((Q_X9_give_2 u g b q) 30) q) + 1) &&& 65535)) q) : Int32).toInt64)]) (rest := []) (st1 := []) (ω1 := (WD ε ad v f u (Q_X9_give_3 u g b q))) C (c_X9_put ε ad v f u (va_up (Q_X9_give_2 u g b q) 30 (upd ((Q_X9_give_2 u g b q) 30) q (((((Q_X9_give_2 u g b q) 30) q) + 1) &&& 65535))) ((((va_up (Q_X9_give_2 u g b q) 30 (upd ((Q_X9_give_2 u g b q) 30) q (((((Q_X9_give_2 u g b q) 30) q) + 1) &&& 65535))) 28) q) + 2) ((((upd ((Q_X9_give_2 u g b q) 30) q (((((Q_X9_give_2 u g b q) 30) q) + 1) &&& 65535)) q) : Int32).toInt64) 2  (by first | assumption | omega | decide) (by simp only [Q_X9_give_1, Q_X9_give_2, put_same, va_up, ne_eq, Nat.reduceEqDiff, not_false_eq_true, reduceIte]; exact hg.us)) mv_X9_put lm_X9_127 dX9_give_81 22 wl_22 rfl rfl rfl (by decide) (Nat.le_of_ble_eq_true rfl) rfl ?_
  refine j_aload_n (i := 0) C dX9_give_84 rfl 1 rfl ?_
  refine g_22_memory C dX9_give_85 lf_X9_1 ?_
  refine j_aload_n (i := 0) C dX9_give_88 rfl 1 rfl ?_
  refine g_22_availables C dX9_give_89 lf_X9_52 ?_
  refine j_iload_n (i := 1) C dX9_give_92 rfl 2 rfl ?_
  refine aln_27 (q := q) (F := ((Q_X9_give_3 u g b q) 27)) C dX9_give_93 (by omega) rfl rfl ?_
  refine al_23 (F := ((Q_X9_give_3 u g b q) 23)) C dX9_give_94 (by simp only [Q_X9_give_1, Q_X9_give_2, Q_X9_give_3, put_same, va_up, ne_eq, Nat.reduceEqDiff, not_false_eq_true, reduceIte]; exact hg.2.2.at0 (by omega)) rfl ?_
  refine j_iconst (x := 1) C dX9_give_95 (by decide) ?_
  refine j_iand C dX9_give_96 ?_
  refine j_if_ne (tgt := 110) C dX9_give_97 (by decide) (fun c_1 => ?_) (fun c_1 => ?_)
  · have hs : S_X9_give u g b q = (Q_X9_give_3 u g b q) := by unfold S_X9_give; rw [if_neg c_1]
    exact j_vret C hQ rfl dX9_give_110 (dt_nfM hs)
  · refine j_aload_n (i := 0) C dX9_give_100 rfl 1 rfl ?_
    refine g_22_signals C dX9_give_101 lf_X9_21 ?_
    refine j_iload_n (i := 1) C dX9_give_104 rfl 2 rfl ?_
    refine j_dup2 C dX9_give_105 rfl rfl ?_
    refine aln_31 (q := q) (F := ((Q_X9_give_3 u g b q) 31)) C dX9_give_106 (by omega) rfl rfl ?_
    refine j_iconst (x := 1) C dX9_give_107 (by decide) ?_
    refine j_iadd C dX9_give_108 ?_
    refine asn_31 (q := q) (F2 := ((Q_X9_give_3 u g b q) 31)) (F := (upd ((Q_X9_give_3 u g b q) 31) q ((((Q_X9_give_3 u g b q) 31) q) + 1))) C dX9_give_109 (by omega) rfl rfl rfl ?_
    have hs : S_X9_give u g b q = (va_up (Q_X9_give_3 u g b q) 31 (upd ((Q_X9_give_3 u g b q) 31) q ((((Q_X9_give_3 u g b q) 31) q) + 1))) := by unfold S_X9_give; rw [if_pos c_1]
    exact j_vret C hQ rfl dX9_give_110 (dt_nfM hs)

