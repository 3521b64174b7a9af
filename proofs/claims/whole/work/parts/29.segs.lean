/-- r rows of places A and lengths S, n bytes in all; those with a length lie in MEMORY -/
def SGM (S A : Nat → Int32) : Nat → Nat → Prop
  | 0, n => n = 0
  | r + 1, n => ∃ z m : Nat, S r = nI z ∧ z ≤ 4096 ∧ n = m + z ∧ (z = 0 ∨ MA (A r) z) ∧ SGM S A r m
theorem SGM.le {S A : Nat → Int32} : ∀ {r n : Nat}, SGM S A r n → n ≤ 4096 * r
  | 0, n, h => by rw [show n = 0 from h]; omega
  | r + 1, n, ⟨z, m, _, hz, e, _, h⟩ => by have := SGM.le h; omega
theorem SGM.congr {S A S' A' : Nat → Int32} : ∀ {r n : Nat}, SGM S A r n → (∀ j, j < r → S' j = S j ∧ A' j = A j) → SGM S' A' r n
  | 0, n, h, _ => h
  | r + 1, n, ⟨z, m, e1, hz, e, h1, h⟩, hc => ⟨z, m, by rw [(hc r (by omega)).1]; exact e1, hz, e, by rw [(hc r (by omega)).2]; exact h1, SGM.congr h (fun j hj => hc j (by omega))⟩
theorem SGM.push {S A : Nat → Int32} {r n z : Nat} {x y : Int32} (h : SGM S A r n) (hx : x = nI z) (hz : z ≤ 4096) (hy : z = 0 ∨ MA y z) : SGM (upd S r x) (upd A r y) (r + 1) (n + z) := by
  refine ⟨z, n, by rw [pk_us]; exact hx, hz, rfl, by rw [pk_us]; exact hy, h.congr (fun j hj => ⟨pk_un (by omega), pk_un (by omega)⟩)⟩
theorem RB_mono {S A : Nat → Int32} : ∀ (n i k : Nat), RB S A i n k → RB S A i (n + 1) k
  | 0, _, _, h => h.elim
  | n + 1, i, k, ⟨z, e, hz, h⟩ => ⟨z, e, hz, h.imp id (fun h => ⟨h.1, RB_mono n (i + 1) (k - z) h.2⟩)⟩
theorem SGM.rb {S A : Nat → Int32} : ∀ {r m : Nat}, SGM S A r m → ∀ (n j : Nat), RB S A r n j → RB S A 0 (r + n) (m + j)
  | 0, m, h, n, j, hb => by rw [show m = 0 from h, Nat.zero_add, Nat.zero_add]; exact hb
  | r + 1, m, ⟨z, m', e, hz, em, h1, h⟩, n, j, hb => by
    have h2 : RB S A r (n + 1) (z + j) := ⟨z, e, by omega, Or.inr ⟨by omega, by rw [Nat.add_sub_cancel_left]; exact hb⟩⟩
    have h3 := SGM.rb h (n + 1) (z + j) h2
    rw [show r + (n + 1) = r + 1 + n by omega, show m' + (z + j) = m + j by omega] at h3
    exact h3
/-- every byte of it is found -/
theorem SGM.at {S A : Nat → Int32} : ∀ {r n : Nat}, SGM S A r n → ∀ k : Nat, k < n → RB S A 0 r k
  | 0, n, h, k, hk => by rw [show n = 0 from h] at hk; omega
  | r + 1, n, ⟨z, m, e, hz, em, h1, h⟩, k, hk => by
    rcases Nat.lt_or_ge k m with q | q
    · exact RB_mono _ _ _ (h.at k q)
    · have hz0 : z ≠ 0 := by omega
      have hm : MA (A r) z := h1.resolve_left hz0
      have h2 := h.rb 1 (k - m) ⟨z, e, by omega, Or.inl ⟨by omega, hm.at (by omega)⟩⟩
      rw [show m + (k - m) = k by omega] at h2
      exact h2
theorem SGM.rv {S A : Nat → Int32} {r n : Nat} (h : SGM S A r n) (hr : r ≤ 20) (k : Nat) (hk : k < n) : RV S A 0 (nI k) :=
  ⟨k, r, rfl, by have := h.le; omega, by omega, h.at k hk⟩
/-- the chain that the reference keeps -/
def DI (u : Nat → Int32) (g : Nat → Nat → Int32) : Prop := ∃ r w n m : Nat, u 4 = nI r ∧ u 5 = nI n ∧ u 6 = nI w ∧ u 7 = nI m ∧ r + w ≤ 16 ∧ SGM (g 33) (g 32) r n ∧ SGM (g 35) (g 34) w m
theorem DI.dp {u : Nat → Int32} {g : Nat → Nat → Int32} (h : DI u g) : DP u g := by
  obtain ⟨r, w, n, m, e4, e5, e6, e7, hrw, h1, h2⟩ := h
  exact ⟨n, m, e5, by have := h1.le; omega, e7, by have := h2.le; omega, fun k hk => h1.rv (by omega) k hk, fun k hk => h2.rv (by omega) k hk⟩
/-- what take leaves as it was -/
def FR (u0 : Nat → Int32) (g0 : Nat → Nat → Int32) (u : Nat → Int32) (g : Nat → Nat → Int32) : Prop := (∀ j : Nat, j ≠ 29 → j ≠ 32 → j ≠ 33 → j ≠ 34 → j ≠ 35 → g j = g0 j) ∧ ∀ j : Nat, (j < 4 ∨ 8 < j) → u j = u0 j
theorem DI.keep {u : Nat → Int32} {g : Nat → Nat → Int32} {i : Nat} {tb mn num x y c : Int32} {z : Nat} (hT : TK u i tb mn num) (h16 : ¬ (nI i) = 16) (h : DI u g) (hx : x = nI z) (hz : z ≤ 4096) (hy : z = 0 ∨ MA y z) : DI ((S_X9_keep u g y x c).1) ((S_X9_keep u g y x c).2) := by
  have h15 := tk15 hT h16
  obtain ⟨-, -, -, r9, w9, er9, ew9, e9⟩ := hT
  obtain ⟨r, w, n, m, e4, e5, e6, e7, hrw, h1, h2⟩ := h
  have hr : r = r9 := (nI_eq (by omega) (by omega)).mp (e4.symm.trans er9)
  have hw : w = w9 := (nI_eq (by omega) (by omega)).mp (e6.symm.trans ew9)
  unfold S_X9_keep
  split
  · refine ⟨r + 1, w, n + z, m, by show (u 4) + 1 = _; rw [e4]; exact nI_1 r, by show (u 5) + x = _; rw [e5, hx]; exact nI_add n z, e6, e7, by omega, ?_, h2⟩
    show SGM (upd (g 33) _ x) (upd (g 32) _ y) _ _
    rw [e4, nI_clamp (by omega)]
    exact h1.push hx hz hy
  · refine ⟨r, w + 1, n, m + z, e4, e5, by show (u 6) + 1 = _; rw [e6]; exact nI_1 w, by show (u 7) + x = _; rw [e7, hx]; exact nI_add m z, by omega, h1, ?_⟩
    show SGM (upd (g 35) _ x) (upd (g 34) _ y) _ _
    rw [e6, nI_clamp (by omega)]
    exact h2.push hx hz hy
theorem FR.keep {u0 : Nat → Int32} {g0 : Nat → Nat → Int32} {u : Nat → Int32} {g : Nat → Nat → Int32} {x y c : Int32} (h : FR u0 g0 u g) : FR u0 g0 ((S_X9_keep u g y x c).1) ((S_X9_keep u g y x c).2) := by
  unfold S_X9_keep
  split
  · refine ⟨fun j h1 h2 h3 h4 h5 => ?_, fun j hj => ?_⟩
    · show va_up (va_up g 32 _) 33 _ j = _
      unfold va_up
      rw [if_neg h3, if_neg h2]
      exact h.1 j h1 h2 h3 h4 h5
    · show upd (upd u 4 _) 5 _ j = _
      rw [pk_un (by omega), pk_un (by omega)]
      exact h.2 j hj
  · refine ⟨fun j h1 h2 h3 h4 h5 => ?_, fun j hj => ?_⟩
    · show va_up (va_up g 34 _) 35 _ j = _
      unfold va_up
      rw [if_neg h5, if_neg h4]
      exact h.1 j h1 h2 h3 h4 h5
    · show upd (upd u 6 _) 7 _ j = _
      rw [pk_un (by omega), pk_un (by omega)]
      exact h.2 j hj
/-- the length that is kept, and its place -/
theorem lies {u : Nat → Int32} {g : Nat → Nat → Int32} {q i : Nat} {tb mn num inT aW more : Int32} {u1 : Nat → Int32} {g1 : Nat → Nat → Int32} (hI : TK u1 i tb mn num) (hl : ¬ mn ≤ num) (h7 : ¬ (Q_X9_take_7 u g q i tb mn num inT aW more u1 g1) = 0) :
    ∃ z : Nat, ((Q_X9_take_2 u g q i tb mn num inT aW more u1 g1) : Int64).toInt32 = nI z ∧ z ≤ 4096 ∧ (z = 0 ∨ MA (((S_X9_number u1 g1 (tb + (16 * num)) 8) : Int64).toInt32) z) := by
  have hpl := hI.pl hl
  unfold Q_X9_take_7 at h7
  generalize hN : S_X9_number u1 g1 (tb + (16 * num)) 8 = N8 at h7 ⊢
  have hQ : ∃ l : Nat, l < 4294967296 ∧ Q_X9_take_2 u g q i tb mn num inT aW more u1 g1 = lN l := by
    unfold Q_X9_take_2
    obtain ⟨p, ep, hp⟩ := hpl.sub 8 (M := 4) (by omega)
    rw [show (8 : Int32) = nI 8 from rfl, ep, num_M u1 g1 p 4 hp (by decide)]
    exact ⟨_, nb_lt (g1 23) p 4, rfl⟩
  obtain ⟨l, hl4, el⟩ := hQ
  rw [el] at h7 ⊢
  split at h7
  · rename_i hz
    rw [lg_cmp_eq] at hz
    rw [hz]
    exact ⟨0, rfl, by omega, Or.inl rfl⟩
  · split at h7
    · exact absurd rfl h7
    · rename_i hneg
      split at h7
      · exact absurd rfl h7
      · rename_i hhi
        rw [lg_cmp_lt, Int64.lt_iff_toInt_lt] at hneg
        have e0 : (0 : Int64).toInt = 0 := rfl
        have el9 : (lN l).toInt = (l : Int) := pk_lT (by omega)
        have e2 : ((4096 : Int64) - lN l).toInt = 4096 - (l : Int) := by
          rw [Int64.toInt_sub, el9, show (4096 : Int64).toInt = 4096 from rfl, Int.bmod_eq_of_le] <;> omega
        rw [lg_cmp_gt, Int64.lt_iff_toInt_lt, e2] at hhi
        have hk : N8 = lN N8.toInt.toNat := Int64.toInt_inj.mp (by rw [pk_lT (by omega)]; omega)
        rw [lN_i, hk, lN_i]
        exact ⟨l, rfl, by omega, Or.inr ⟨_, rfl, by omega⟩⟩
theorem tk_post (u : Nat → Int32) (g : Nat → Nat → Int32) (q : Nat) (u0 : Nat → Int32) (g0 : Nat → Nat → Int32) : ∀ (d i : Nat) (tb mn num inT aW more : Int32) (u1 : Nat → Int32) (g1 : Nat → Nat → Int32), TK u1 i tb mn num → DI u1 g1 → FR u0 g0 u1 g1 → (L_X9_take u g q d i tb mn num inT aW more u1 g1).1 = 1 → DI (L_X9_take u g q d i tb mn num inT aW more u1 g1).2.1 (L_X9_take u g q d i tb mn num inT aW more u1 g1).2.2 ∧ FR u0 g0 (L_X9_take u g q d i tb mn num inT aW more u1 g1).2.1 (L_X9_take u g q d i tb mn num inT aW more u1 g1).2.2 := by
  intro d
  induction d with
  | zero => intro i tb mn num inT aW more u1 g1 hT hD hF h; rw [L_X9_take] at h; exact absurd (show (0 : Int32) = 1 from h) (by decide)
  | succ d ih =>
    intro i tb mn num inT aW more u1 g1 hT hD hF
    have hb : FR u0 g0 (upd u1 8 1) g1 := ⟨hF.1, fun j hj => by rw [pk_un (by omega)]; exact hF.2 j hj⟩
    have hTb : TK (upd u1 8 1) i tb mn num := hT.bad
    rw [L_X9_take]
    repeat' split
    all_goals intro h
    all_goals first
      | exact absurd (show (0 : Int32) = 1 from h) (by decide)
      | exact ih i tb mn num inT aW more (upd u1 8 1) g1 hTb hD hb h
      | exact ih _ _ _ _ _ _ _ _ _ (tk_t hT (by assumption) (by assumption) (by assumption) (by assumption)).2 hD hF h
      | (obtain ⟨z9, hz1, hz2, hz3⟩ := lies hT (by assumption) (by assumption)
         exact ih _ _ _ _ _ _ _ _ _ (tk_k hT (by assumption) (by assumption) _) (hD.keep hT (by assumption) hz1 hz2 hz3) hF.keep h)
      | exact ⟨hD, fun j h1 h2 h3 h4 h5 => by show va_up g1 29 _ j = _; unfold va_up; rw [if_neg h1]; exact hF.1 j h1 h2 h3 h4 h5, hF.2⟩
