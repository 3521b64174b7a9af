/-- what the reference keeps true of a QUEUE -/
def QU (g : Nat → Nat → Int32) (q : Nat) : Prop := g 25 q = 0 ∨ ∃ n : Nat, g 25 q = nI n ∧ 1 ≤ n ∧ n ≤ 16 ∧ MA (g 26 q) (16 * n) ∧ MA (g 27 q) (4 + 2 * n) ∧ MA (g 28 q) (4 + 8 * n)
def CN (x : Int32) : Prop := ∃ t : Nat, x = nI t ∧ t < 65536
/-- the reference's own invariant -/
def MInv (u : Nat → Int32) (g : Nat → Nat → Int32) : Prop := (∀ q : Nat, q < 3 → QU g q ∧ CN (g 29 q) ∧ CN (g 30 q) ∧ CN (g 40 q) ∧ CN (g 41 q)) ∧ 0 ≤ (u 9).toInt ∧ ∀ j : Nat, j < 16 → 0 ≤ ((g 37) j).toInt ∧ ((g 37) j).toInt ≤ 80
theorem MInv.tq {u : Nat → Int32} {g : Nat → Nat → Int32} {q : Nat} (h : MInv u g) (hq : q < 3) (hz : ¬ g 25 q = 0) : TQ g q := by
  obtain ⟨h1, ⟨t, et, ht⟩, -⟩ := h.1 q hq
  obtain ⟨n, e, a1, a2, a3, a4, a5⟩ := h1.resolve_left hz
  exact ⟨n, t, e, a1, a2, et, ht, a3, a4⟩
theorem MInv.gv {u : Nat → Int32} {g : Nat → Nat → Int32} {q : Nat} (h : MInv u g) (hq : q < 3) (hz : ¬ g 25 q = 0) : GV g q := by
  obtain ⟨h1, -, ht, -⟩ := h.1 q hq
  obtain ⟨n, e, a1, a2, a3, a4, a5⟩ := h1.resolve_left hz
  exact ⟨⟨n, e, a1, a2, a5⟩, ht, a4.le (by omega)⟩
theorem MInv.av {u : Nat → Int32} {g : Nat → Nat → Int32} {q : Nat} (h : MInv u g) (hq : q < 3) (hz : ¬ g 25 q = 0) : MA (g 27 q) 4 := by
  obtain ⟨h1, -⟩ := h.1 q hq
  obtain ⟨n, e, a1, a2, a3, a4, a5⟩ := h1.resolve_left hz
  exact a4.le (by omega)
theorem GV.of {g g' : Nat → Nat → Int32} {q : Nat} (h : GV g q) (h1 : g' 25 = g 25) (h2 : g' 27 = g 27) (h3 : g' 28 = g 28) (h4 : g' 30 = g 30) : GV g' q := by
  unfold GV
  rw [h1, h2, h3, h4]
  exact h
theorem hs_ok {u : Nat → Int32} {g : Nat → Nat → Int32} {q : Nat} (h : ¬ (S_X9_hasSomething u g q).1 = 0) : ¬ g 25 q = 0 ∧ (S_X9_hasSomething u g q).2 = u := by
  revert h
  unfold S_X9_hasSomething
  repeat' split
  all_goals intro h
  all_goals first | exact absurd rfl h | (refine ⟨by assumption, rfl⟩)
theorem tk_01 (u : Nat → Int32) (g : Nat → Nat → Int32) (q : Nat) : ∀ (d i : Nat) (tb mn num inT aW more : Int32) (u1 : Nat → Int32) (g1 : Nat → Nat → Int32), (L_X9_take u g q d i tb mn num inT aW more u1 g1).1 = 0 ∨ (L_X9_take u g q d i tb mn num inT aW more u1 g1).1 = 1 := by
  intro d
  induction d with
  | zero => intro i tb mn num inT aW more u1 g1; rw [L_X9_take]; exact Or.inl rfl
  | succ d ih =>
    intro i tb mn num inT aW more u1 g1
    rw [L_X9_take]
    repeat' split
    all_goals first | with_reducible exact ih _ _ _ _ _ _ _ _ _ | exact Or.inl rfl | exact Or.inr rfl
theorem tk_ok {u : Nat → Int32} {g : Nat → Nat → Int32} {q : Nat} (hm : TQ g q) (h : ¬ (S_X9_take u g q).1 = 0) : DI (S_X9_take u g q).2.1 (S_X9_take u g q).2.2 ∧ (∀ j : Nat, j ≠ 29 → j ≠ 32 → j ≠ 33 → j ≠ 34 → j ≠ 35 → (S_X9_take u g q).2.2 j = g j) ∧ ∀ j : Nat, (j < 3 ∨ 8 < j) → (S_X9_take u g q).2.1 j = u j := by
  unfold S_X9_take at h ⊢
  generalize hU : upd (upd (upd (upd (upd (upd u 4 0) 5 0) 6 0) 7 0) 3 (((Q_X9_take_1 u g q) : Int64).toInt32)) 8 0 = U at h ⊢
  have h4 : U 4 = 0 := by rw [← hU]; rfl
  have h5 : U 5 = 0 := by rw [← hU]; rfl
  have h6 : U 6 = 0 := by rw [← hU]; rfl
  have h7 : U 7 = 0 := by rw [← hU]; rfl
  have hT : TK U 0 ((g 26) q) ((g 25) q) (((Q_X9_take_1 u g q) : Int64).toInt32) := by
    unfold Q_X9_take_1
    exact tk0 hm h4 h6
  have hD : DI U g := ⟨0, 0, 0, 0, h4, h5, h6, h7, by decide, rfl, rfl⟩
  have hF : FR U g U g := ⟨fun _ _ _ _ _ _ => rfl, fun _ _ => rfl⟩
  have h1 := (tk_01 u g q 37 0 ((g 26) q) ((g 25) q) (((Q_X9_take_1 u g q) : Int64).toInt32) 0 0 1 U g).resolve_left h
  obtain ⟨a1, a2, a3⟩ := tk_post u g q U g 37 0 ((g 26) q) ((g 25) q) (((Q_X9_take_1 u g q) : Int64).toInt32) 0 0 1 U g hT hD hF h1
  refine ⟨a1, a2, fun j hj => (a3 j (by omega)).trans ?_⟩
  rw [← hU, pk_un (by omega), pk_un (by omega), pk_un (by omega), pk_un (by omega), pk_un (by omega), pk_un (by omega)]
theorem dk_same (u : Nat → Int32) (g : Nat → Nat → Int32) (j : Nat) (h1 : j ≠ 23) (h2 : j ≠ 24) : (S_X9_doDisk u g).2 j = g j := by
  unfold S_X9_doDisk Q_X9_doDisk_3 Q_X9_doDisk_4 Q_X9_doDisk_5
  repeat' split
  all_goals (try dsimp only)
  all_goals first | with_reducible rfl | rw [wb_same _ _ _ _ _ h1] | skip
  all_goals first | done | with_reducible rfl | with_reducible exact d1_same _ _ _ _ h1 | exact d2_same _ _ _ _ h2 | exact d3_same _ _ _ _ h1
theorem dw_same2 (u : Nat → Int32) (g : Nat → Nat → Int32) (j : Nat) (h1 : j ≠ 36) (h2 : j ≠ 37) : (S_X9_doWire u g).2 j = g j := by
  unfold S_X9_doWire
  split
  · rfl
  · show va_up _ 37 _ j = _
    unfold va_up
    rw [if_neg h2]
    exact dw_same _ _ _ _ h1
theorem st_ok {u : Nat → Int32} {g : Nat → Nat → Int32} {q : Nat} (hM : MInv u g) (hq : q < 3) (h : ¬ (S_X9_hasSomething u g q).1 = 0) (h2 : ¬ (S_X9_take (S_X9_hasSomething u g q).2 g q).1 = 0) : DI (S_X9_take (S_X9_hasSomething u g q).2 g q).2.1 (S_X9_take (S_X9_hasSomething u g q).2 g q).2.2 ∧ GV (S_X9_take (S_X9_hasSomething u g q).2 g q).2.2 q ∧ 0 ≤ ((S_X9_take (S_X9_hasSomething u g q).2 g q).2.1 9).toInt := by
  obtain ⟨h3, h4⟩ := hs_ok h
  obtain ⟨a1, a2, a3⟩ := tk_ok (hM.tq hq h3) h2
  refine ⟨a1, (hM.gv hq h3).of (a2 25 (by decide) (by decide) (by decide) (by decide) (by decide)) (a2 27 (by decide) (by decide) (by decide) (by decide) (by decide)) (a2 28 (by decide) (by decide) (by decide) (by decide) (by decide)) (a2 30 (by decide) (by decide) (by decide) (by decide) (by decide)), ?_⟩
  rw [a3 9 (by omega), h4]
  exact hM.2.1
theorem GV.dk {u : Nat → Int32} {g : Nat → Nat → Int32} {q : Nat} (h : GV g q) : GV (S_X9_doDisk u g).2 q := h.of (dk_same _ _ 25 (by decide) (by decide)) (dk_same _ _ 27 (by decide) (by decide)) (dk_same _ _ 28 (by decide) (by decide)) (dk_same _ _ 30 (by decide) (by decide))
theorem GV.dw {u : Nat → Int32} {g : Nat → Nat → Int32} {q : Nat} (h : GV g q) : GV (S_X9_doWire u g).2 q := h.of (dw_same2 _ _ 25 (by decide) (by decide)) (dw_same2 _ _ 27 (by decide) (by decide)) (dw_same2 _ _ 28 (by decide) (by decide)) (dw_same2 _ _ 30 (by decide) (by decide))
theorem DP.at {u : Nat → Int32} {g : Nat → Nat → Int32} {x : Int32} {i : Nat} (h : DP u g) (hx : x ≤ u 7) (hi : i < x.toNatClampNeg) : RV (g 35) (g 34) 0 (nI i) := by
  obtain ⟨n, m, e5, hn, e7, hm, h1, h2⟩ := h
  refine h2 i ?_
  rw [e7, Int32.le_iff_toInt_le, nI_toInt (by omega)] at hx
  have h3 : i < x.toInt.toNat := hi
  omega
