theorem ls_o (u : Nat → Int32) (g : Nat → Nat → Int32) (a : Int32) (j : Nat) (h : j ≠ 23) : ∀ n : Nat, L_X9_start u g a n j = S_X9_clear u g j := by
  intro n
  induction n with
  | zero => rfl
  | succ n ih => rw [L_X9_start, va_up_ne _ _ h, ih]
theorem ls_s (u : Nat → Int32) (g : Nat → Nat → Int32) (a : Int32) : ∀ n e : Nat, e < n → L_X9_start u g a n 23 e = vp_nar .byte 0 := by
  intro n
  induction n with
  | zero => intro e he; omega
  | succ n ih =>
    intro e he
    rw [L_X9_start, va_up_self]
    by_cases h : e = n
    · subst h; rw [pk_us]
    · rw [pk_un h]; exact ih e (by omega)
set_option maxRecDepth 4096 in
theorem sim_start {c9 : Nat} {v : Nat → Int32} {f : Nat → Nat → Int32} {u : Nat → Int32} {g : Nat → Nat → Int32} (h : SIM c9 v f u g) (hc : c9 + 1 ≤ 512) (a : Int32) (ha : a = 0 ∨ a = 1) : (S_X8_start v f a).1 = (S_X9_start u g a).1 ∧ SIM (c9 + 1) ((S_X8_start v f a).2.1) ((S_X8_start v f a).2.2) ((S_X9_start u g a).2.1) ((S_X9_start u g a).2.2) := by
  unfold S_X8_start S_X9_start
  refine ⟨rfl, ?_⟩
  obtain ⟨⟨a1, a2, a3, a4, a5, a6, a7, a8, a9, a10⟩, b1, b2, h4, h5, h6, h7, h8⟩ := h
  dsimp only
  have hF : ∀ j : Nat, j ≠ 2 → j ≠ 17 → j ≠ 19 → j ≠ 21 → Q_X8_start_14 v f a j = f j := by
    intro j h0 h1 h2 h3
    unfold Q_X8_start_14 S_X3_begin Q_X3_begin_6 S_X4_begin_20 S_X4_forget_20
    dsimp only
    rw [fi21_o _ _ _ _ h3]
    unfold Q_X3_begin_4 S_X4_begin_18 S_X4_forget_18
    dsimp only
    rw [fi19_o _ _ _ _ h2]
    unfold Q_X3_begin_2 S_X4_begin_16 S_X4_forget_16
    dsimp only
    rw [fi17_o _ _ _ _ h1]
    unfold S_X5_clear
    rw [fb_o _ _ _ _ h0]
  have hM : ∀ p : Nat, p < 4096 → Q_X8_start_14 v f a 2 p = vp_nar .byte 0 := by
    intro p hp
    unfold Q_X8_start_14 S_X3_begin Q_X3_begin_6 S_X4_begin_20 S_X4_forget_20
    dsimp only
    rw [fi21_o _ _ _ _ (by decide)]
    unfold Q_X3_begin_4 S_X4_begin_18 S_X4_forget_18
    dsimp only
    rw [fi19_o _ _ _ _ (by decide)]
    unfold Q_X3_begin_2 S_X4_begin_16 S_X4_forget_16
    dsimp only
    rw [fi17_o _ _ _ _ (by decide)]
    unfold S_X5_clear
    rw [fb_s _ _ _ _ hp]
  have hL : ∀ q : Nat, q < 3 → ∀ d : Nat, d < 8 → Q_X8_start_14 v f a (17 + 2 * q) d = 0 := by
    unfold Q_X8_start_14 S_X3_begin Q_X3_begin_6 S_X4_begin_20 S_X4_forget_20
    dsimp only
    refine all3 (fun d hd => ?_) (fun d hd => ?_) (fun d hd => ?_)
    · rw [fi21_o _ _ _ _ (by decide)]
      unfold Q_X3_begin_4 S_X4_begin_18 S_X4_forget_18
      dsimp only
      rw [fi19_o _ _ _ _ (by decide)]
      unfold Q_X3_begin_2 S_X4_begin_16 S_X4_forget_16
      dsimp only
      rw [show 17 + 2 * 0 = 17 from rfl, fi17_s _ _ _ _ hd]
    · rw [fi21_o _ _ _ _ (by decide)]
      unfold Q_X3_begin_4 S_X4_begin_18 S_X4_forget_18
      dsimp only
      rw [show 17 + 2 * 1 = 19 from rfl, fi19_s _ _ _ _ hd]
    · rw [show 17 + 2 * 2 = 21 from rfl, fi21_s _ _ _ _ hd]
  have hGo : ∀ j : Nat, j ≠ 23 → L_X9_start u g a 4096 j = S_X9_clear u g j := fun j hj => ls_o u g a j hj _
  have hGs : ∀ p : Nat, p < 4096 → L_X9_start u g a 4096 23 p = vp_nar .byte 0 := fun p hp => ls_s u g a _ p hp
  generalize L_X9_start u g a 4096 = G at hGo hGs ⊢
  have hq : ∀ q : Nat, q < 3 → G 29 q = 0 ∧ G 30 q = 0 ∧ G 31 q = 0 ∧ G 40 q = 0 ∧ G 41 q = 0 ∧ G 42 q = -1 := by
    rw [hGo 29 (by decide), hGo 30 (by decide), hGo 31 (by decide), hGo 40 (by decide), hGo 41 (by decide), hGo 42 (by decide)]
    exact fun q hq => (cl_q u g q hq).2
  have hl : ∀ e : Nat, e < 24 → G 38 e = 0 := by rw [hGo 38 (by decide)]; exact cl_l u g
  have ho : ∀ j : Nat, j ≠ 23 → (j < 25 ∨ (25 < j ∧ j < 29) ∨ (31 < j ∧ j < 38) ∨ 42 < j) → G j = g j := fun j h1 h2 => by rw [hGo j h1]; exact cl_c u g j h2
  generalize Q_X8_start_14 v f a = H at hF hM hL ⊢
  refine ⟨⟨rfl, rfl, a3, a4, a5, rfl, Or.inr (Or.inl rfl), ha, Or.inr rfl, fun _ => rfl⟩, ?_, ?_, ?_, ?_, ?_, ?_, hc⟩
  · intro p hp
    rw [hM p hp]
    simp (disch := omega) only [va_up_ne]
    exact (hGs p hp).symm
  · rw [hF 11 (by decide) (by decide) (by decide) (by decide)]
    simp (disch := omega) only [va_up_ne]
    rw [ho 24 (by decide) (by decide)]; exact b2
  · intro q hq9
    have h8 : ∀ x : Int32, x = 8 → (if x = 0 then (0 : Int32) else 1) = 1 := fun x hx => by rw [hx, if_neg (by decide)]
    clear hF hM hL hGo hGs hl ho
    revert q
    refine all3 ?_ ?_ ?_
    · refine ⟨?_, ?_, ?_, ?_, ?_, ?_, ?_, ?_⟩
      · exact (h8 _ rfl).symm
      · exact (show (8 : Int32) = _ from rfl)
      · simp (disch := omega) only [va_up_self, va_up_ne, pk_us, pk_un]; rfl
      · simp (disch := omega) only [va_up_self, va_up_ne, pk_us, pk_un]; rfl
      · simp (disch := omega) only [va_up_self, va_up_ne, pk_us, pk_un]; rfl
      · simp (disch := omega) only [va_up_self, va_up_ne, pk_us, pk_un]; rw [(hq 0 (by decide)).1]; rfl
      · simp (disch := omega) only [va_up_self, va_up_ne, pk_us, pk_un]; rw [(hq 0 (by decide)).2.1]; rfl
      · simp (disch := omega) only [va_up_self, va_up_ne, pk_us, pk_un]; rw [(hq 0 (by decide)).2.2.1]; rfl
    · refine ⟨?_, ?_, ?_, ?_, ?_, ?_, ?_, ?_⟩
      · exact (h8 _ rfl).symm
      · exact (show (8 : Int32) = _ from rfl)
      · simp (disch := omega) only [va_up_self, va_up_ne, pk_us, pk_un]; rfl
      · simp (disch := omega) only [va_up_self, va_up_ne, pk_us, pk_un]; rfl
      · simp (disch := omega) only [va_up_self, va_up_ne, pk_us, pk_un]; rfl
      · simp (disch := omega) only [va_up_self, va_up_ne, pk_us, pk_un]; rw [(hq 1 (by decide)).1]; rfl
      · simp (disch := omega) only [va_up_self, va_up_ne, pk_us, pk_un]; rw [(hq 1 (by decide)).2.1]; rfl
      · simp (disch := omega) only [va_up_self, va_up_ne, pk_us, pk_un]; rw [(hq 1 (by decide)).2.2.1]; rfl
    · refine ⟨?_, ?_, ?_, ?_, ?_, ?_, ?_, ?_⟩
      · exact (h8 _ rfl).symm
      · exact (show (8 : Int32) = _ from rfl)
      · simp (disch := omega) only [va_up_self, va_up_ne, pk_us, pk_un]; rfl
      · simp (disch := omega) only [va_up_self, va_up_ne, pk_us, pk_un]; rfl
      · simp (disch := omega) only [va_up_self, va_up_ne, pk_us, pk_un]; rfl
      · simp (disch := omega) only [va_up_self, va_up_ne, pk_us, pk_un]; rw [(hq 2 (by decide)).1]; rfl
      · simp (disch := omega) only [va_up_self, va_up_ne, pk_us, pk_un]; rw [(hq 2 (by decide)).2.1]; rfl
      · simp (disch := omega) only [va_up_self, va_up_ne, pk_us, pk_un]; rw [(hq 2 (by decide)).2.2.1]; rfl
  · unfold WIRE at h5 ⊢
    simp (disch := omega) only [va_up_ne]
    rw [hF 13 (by decide) (by decide) (by decide) (by decide), hF 14 (by decide) (by decide) (by decide) (by decide), ho 36 (by decide) (by decide), ho 37 (by decide) (by decide)]
    obtain ⟨⟨n, e1, e2, e3, e4⟩, h5⟩ := h5
    exact ⟨⟨n, e1, by omega, e3, e4⟩, h5⟩
  · intro q hq9
    refine ⟨?_, ⟨fun _ => ⟨?_, fun d hd => ?_⟩, fun h => absurd (show (1 : Int32) = 0 from h) (by decide), fun e he => Or.inl ?_⟩⟩
    · unfold DRIV
      simp (disch := omega) only [va_up_ne]
      rw [(hq q hq9).2.2.2.1, (hq q hq9).2.2.2.2.1, (hq q hq9).2.2.2.2.2]
      revert q
      refine all3 ?_ ?_ ?_
      all_goals exact ⟨rfl, rfl, rfl⟩
    · simp (disch := omega) only [va_up_ne]
      rw [fm_all (n := 8) (fun e he => hl _ (by omega))]
      revert q
      refine all3 ?_ ?_ ?_
      all_goals rfl
    · simp (disch := omega) only [va_up_ne]
      rw [cm_all (n := 8) (fun e he => hl _ (by omega))]
      exact hL q hq9 d hd
    · simp (disch := omega) only [va_up_ne]
      exact hl _ (by omega)
  · unfold MInv
    refine ⟨fun q hq9 => ⟨Or.inr ?_, ?_⟩, ?_⟩
    · refine ⟨8, ?_, by decide, by decide, ?_⟩
      · revert q
        refine all3 ?_ ?_ ?_
        all_goals rfl
      · revert q
        refine all3 ?_ ?_ ?_
        · exact ⟨⟨0, rfl, by decide⟩, ⟨128, rfl, by decide⟩, ⟨152, rfl, by decide⟩⟩
        · exact ⟨⟨256, rfl, by decide⟩, ⟨384, rfl, by decide⟩, ⟨408, rfl, by decide⟩⟩
        · exact ⟨⟨512, rfl, by decide⟩, ⟨640, rfl, by decide⟩, ⟨664, rfl, by decide⟩⟩
    · simp (disch := omega) only [va_up_ne]
      rw [(hq q hq9).1, (hq q hq9).2.1, (hq q hq9).2.2.2.1, (hq q hq9).2.2.2.2.1]
      exact ⟨cn0, cn0, cn0, cn0⟩
    · simp (disch := omega) only [va_up_ne]
      rw [ho 37 (by decide) (by decide)]
      exact h7.2
