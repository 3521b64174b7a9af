def v0n : Nat → Int32 := upd (upd (upd (fun _ => 0) 44 (-1)) 48 (-1)) 52 (-1)
theorem v0n_0 (j : Nat) (h1 : j ≠ 44) (h2 : j ≠ 48) (h3 : j ≠ 52) : v0n j = 0 := by unfold v0n; rw [pk_un h3, pk_un h2, pk_un h1]
/-- a new class and a new reference hold the same -/
theorem sim_new : SIM 0 v0n (fun _ _ => 0) (fun _ => 0) (S_X9_clear (fun _ => 0) (fun _ _ => 0)) := by
  generalize hG : S_X9_clear (fun _ => 0) (fun _ _ => 0) = G
  have hq : ∀ q : Nat, q < 3 → G 25 q = 0 ∧ G 29 q = 0 ∧ G 30 q = 0 ∧ G 31 q = 0 ∧ G 40 q = 0 ∧ G 41 q = 0 ∧ G 42 q = -1 := by rw [← hG]; exact cl_q _ _
  have hl : ∀ e : Nat, e < 24 → G 38 e = 0 := by rw [← hG]; exact cl_l _ _
  have ho : ∀ j : Nat, (j < 25 ∨ (25 < j ∧ j < 29) ∨ (31 < j ∧ j < 38) ∨ 42 < j) → G j = fun _ => 0 := by rw [← hG]; exact cl_c _ _
  have z : ∀ j : Nat, j ≠ 44 → j ≠ 48 → j ≠ 52 → v0n j = 0 := v0n_0
  refine ⟨⟨z 0 (by decide) (by decide) (by decide), z 1 (by decide) (by decide) (by decide), z 2 (by decide) (by decide) (by decide), z 3 (by decide) (by decide) (by decide), z 38 (by decide) (by decide) (by decide), z 40 (by decide) (by decide) (by decide), Or.inl rfl, Or.inl rfl, Or.inl rfl, fun h => absurd (show (0 : Int32) = 1 from h) (by decide)⟩, ?_, ?_, ?_, ?_, ?_, ?_, by decide⟩
  · intro p hp; rw [ho 23 (by decide)]
  · intro p hp; rw [ho 24 (by decide)]
  · intro q hq9
    obtain ⟨c1, c2, c3, c4, c5, c6, c7⟩ := hq q hq9
    unfold RING
    rw [c1, c2, c3, c4, ho 26 (by decide), ho 27 (by decide), ho 28 (by decide), if_pos rfl]
    exact ⟨z _ (by omega) (by omega) (by omega), z _ (by omega) (by omega) (by omega), z _ (by omega) (by omega) (by omega), z _ (by omega) (by omega) (by omega), z _ (by omega) (by omega) (by omega), z _ (by omega) (by omega) (by omega), z _ (by omega) (by omega) (by omega), z _ (by omega) (by omega) (by omega)⟩
  · unfold WIRE
    rw [ho 36 (by decide), ho 37 (by decide)]
    exact ⟨⟨0, rfl, Nat.le_refl 0, z 37 (by decide) (by decide) (by decide), fun _ _ _ => rfl⟩, fun _ _ => ⟨rfl, fun _ _ => rfl⟩⟩
  · intro q hq9
    obtain ⟨c1, c2, c3, c4, c5, c6, c7⟩ := hq q hq9
    refine ⟨?_, ⟨fun h => absurd (show (0 : Int32) = 1 from h) (by decide), fun _ => ⟨z _ (by omega) (by omega) (by omega), fun _ _ => rfl⟩, fun e he => Or.inl (hl _ (by omega))⟩⟩
    unfold DRIV
    rw [c5, c6, c7]
    refine ⟨z _ (by omega) (by omega) (by omega), z _ (by omega) (by omega) (by omega), ?_⟩
    clear c1 c2 c3 c4 c5 c6 c7
    revert q
    refine all3 ?_ ?_ ?_
    all_goals rfl
  · refine ⟨fun q hq9 => ?_, by decide, fun j hj => ?_⟩
    · obtain ⟨c1, c2, c3, c4, c5, c6, c7⟩ := hq q hq9
      rw [c2, c3, c5, c6]
      exact ⟨Or.inl c1, cn0, cn0, cn0, cn0⟩
    · rw [ho 37 (by decide)]; show 0 ≤ (0 : Int32).toInt ∧ (0 : Int32).toInt ≤ 80; decide
