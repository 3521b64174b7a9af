/-- how many of the first i are not lent -/
def fz (G : Nat → Int32) (q : Nat) : Nat → Nat
  | 0 => 0
  | i + 1 => fz G q i + (if G (8 * q + i) = 0 then 1 else 0)
theorem fz_le (G : Nat → Int32) (q i : Nat) : fz G q i ≤ i := by
  induction i with
  | zero => exact Nat.le_refl 0
  | succ i ih => show fz G q i + _ ≤ _; split <;> omega
theorem fo_fz (u : Nat → Int32) (g : Nat → Nat → Int32) (q : Nat) : S_X9_freeOnes u g q = nI (fz (g 38) q 8) := by
  have h : ∀ i : Nat, L_X9_freeOnes u g q i = nI (fz (g 38) q i) := by
    intro i
    induction i with
    | zero => rfl
    | succ i ih =>
      rw [L_X9_freeOnes]
      show _ = nI (fz (g 38) q i + _)
      split
      · rw [ih, nI_1]
      · exact ih
  exact h 8
theorem fz_ex {G : Nat → Int32} {q : Nat} : ∀ {n : Nat}, 0 < fz G q n → ∃ d : Nat, d < n ∧ G (8 * q + d) = 0
  | 0, h => absurd h (Nat.lt_irrefl 0)
  | n + 1, h => by
    by_cases e : G (8 * q + n) = 0
    · exact ⟨n, by omega, e⟩
    · have h2 : fz G q n + (if G (8 * q + n) = 0 then 1 else 0) = fz G q n := by rw [if_neg e]; rfl
      obtain ⟨d, h3, h4⟩ := fz_ex (n := n) (by rw [← h2]; exact h)
      exact ⟨d, by omega, h4⟩
theorem fz_upd {G : Nat → Int32} {q d : Nat} (hd : G (8 * q + d) = 0) : ∀ n : Nat, fz (upd G (8 * q + d) 1) q n + (if d < n then 1 else 0) = fz G q n
  | 0 => by rw [if_neg (by omega)]; rfl
  | n + 1 => by
    have ih := fz_upd hd n
    show fz (upd G (8 * q + d) 1) q n + (if upd G (8 * q + d) 1 (8 * q + n) = 0 then 1 else 0) + _ = fz G q n + (if G (8 * q + n) = 0 then 1 else 0)
    by_cases e : n = d
    · subst e
      rw [pk_us, if_neg (by decide), if_pos hd, if_pos (by omega)]
      rw [if_neg (by omega)] at ih
      omega
    · rw [pk_un (by omega)]
      by_cases h : d < n
      · rw [if_pos h] at ih
        rw [if_pos (show d < n + 1 by omega)]
        omega
      · rw [if_neg h] at ih
        rw [if_neg (show ¬ d < n + 1 by omega)]
        omega
def LD (g : Nat → Nat → Int32) (q d : Nat) (b : Int32) : Nat → Nat → Int32 := va_up (va_up g 38 (upd (g 38) (8 * q + d) 1)) 39 (upd (g 39) (8 * q + d) (if 0 ≤ b then b else nI d))
theorem LD_same {g : Nat → Nat → Int32} {q d : Nat} {b : Int32} {j : Nat} (h1 : j ≠ 38) (h2 : j ≠ 39) : LD g q d b j = g j := by
  unfold LD va_up
  rw [if_neg h2, if_neg h1]
theorem LD_38 {g : Nat → Nat → Int32} {q d : Nat} {b : Int32} : LD g q d b 38 = upd (g 38) (8 * q + d) 1 := rfl
/-- the least that is free is lent -/
theorem ld_spec {u : Nat → Int32} {g : Nat → Nat → Int32} {q : Nat} (b : Int32) (hf : ∃ d : Nat, d < 8 ∧ (g 38) (8 * q + d) = 0) : ∃ d : Nat, d < 8 ∧ (∀ j : Nat, j < d → ¬ (g 38) (8 * q + j) = 0) ∧ (g 38) (8 * q + d) = 0 ∧ S_X9_lend u g b q = (nI d, LD g q d b) := by
  have h : ∀ (n i : Nat), (∃ d : Nat, i ≤ d ∧ d < 8 ∧ (g 38) (8 * q + d) = 0) → 8 - i < n → ∃ d : Nat, i ≤ d ∧ d < 8 ∧ (∀ j : Nat, i ≤ j → j < d → ¬ (g 38) (8 * q + j) = 0) ∧ (g 38) (8 * q + d) = 0 ∧ L_X9_lend u g b q n i = (nI d, LD g q d b) := by
    intro n
    induction n with
    | zero => intro i _ h; exact absurd h (Nat.not_lt_zero _)
    | succ n ih =>
      intro i hi hn
      by_cases e : (g 38) (8 * q + i) = 0
      · refine ⟨i, Nat.le_refl i, by obtain ⟨d, h1, h2, -⟩ := hi; omega, fun j h1 h2 => by omega, e, ?_⟩
        rw [L_X9_lend, if_pos e]
        unfold LD
        split <;> rfl
      · obtain ⟨d, h1, h2, h3⟩ := hi
        have hne : d ≠ i := fun q9 => e (q9 ▸ h3)
        obtain ⟨d', a1, a2, a3, a4, a5⟩ := ih (i + 1) ⟨d, by omega, h2, h3⟩ (by omega)
        refine ⟨d', by omega, a2, fun j b1 b2 => ?_, a4, ?_⟩
        · by_cases q9 : j = i
          · rw [q9]; exact e
          · exact a3 j (by omega) b2
        · rw [L_X9_lend, if_neg e]
          exact a5
  obtain ⟨d, h1, h2⟩ := hf
  obtain ⟨d', a1, a2, a3, a4, a5⟩ := h 9 0 ⟨d, by omega, h1, h2⟩ (by omega)
  exact ⟨d', a2, fun j hj => a3 j (by omega) hj, a4, a5⟩
theorem ld_J {u : Nat → Int32} {g : Nat → Nat → Int32} {q : Nat} {b : Int32} (hf : ∃ d : Nat, d < 8 ∧ (g 38) (8 * q + d) = 0) : ∃ d : Nat, d < 8 ∧ (S_X9_lend u g b q).1 = nI d := by
  obtain ⟨d, h1, -, -, e⟩ := ld_spec (u := u) b hf
  exact ⟨d, h1, by rw [e]⟩
theorem ld_same {u : Nat → Int32} {g : Nat → Nat → Int32} {q : Nat} {b : Int32} (hf : ∃ d : Nat, d < 8 ∧ (g 38) (8 * q + d) = 0) {j : Nat} (h1 : j ≠ 38) (h2 : j ≠ 39) : (S_X9_lend u g b q).2 j = g j := by
  obtain ⟨d, -, -, -, e⟩ := ld_spec (u := u) b hf
  rw [e]
  exact LD_same h1 h2
/-- one less is free behind it -/
theorem ld_fz {u : Nat → Int32} {g : Nat → Nat → Int32} {q : Nat} {b : Int32} (hf : ∃ d : Nat, d < 8 ∧ (g 38) (8 * q + d) = 0) : fz ((S_X9_lend u g b q).2 38) q 8 + 1 = fz (g 38) q 8 := by
  obtain ⟨d, h1, -, h3, e⟩ := ld_spec (u := u) b hf
  rw [e]
  have := fz_upd h3 8
  rw [if_pos h1] at this
  exact this
theorem ma_l {J : Int32} {d n : Nat} (c k : Nat) (hJ : J = nI d) (h : c + k * d + n ≤ 4096) : MA (nI c + nI k * J) n := by
  rw [hJ, pk_mul, nI_add]
  exact ⟨_, rfl, by omega⟩
theorem ma_m {J : Int32} {d n : Nat} (k : Nat) (hJ : J = nI d) (h : k * d + n ≤ 4096) : MA (nI k * J) n := by
  rw [hJ, pk_mul]
  exact ⟨_, rfl, by omega⟩
theorem de_same (u : Nat → Int32) (g : Nat → Nat → Int32) (a b c d e : Int32) (j : Nat) (h : j ≠ 23) : (S_X9_describe u g a b c d e) j = g j := by
  unfold S_X9_describe
  try unfold Q_X9_describe_3
  try unfold Q_X9_describe_2
  try unfold Q_X9_describe_1
  rw [put_same _ _ _ _ _ _ h, put_same _ _ _ _ _ _ h, put_same _ _ _ _ _ _ h, put_same _ _ _ _ _ _ h]
