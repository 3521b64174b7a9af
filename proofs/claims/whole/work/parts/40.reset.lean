theorem all3 {P : Nat → Prop} (h0 : P 0) (h1 : P 1) (h2 : P 2) : ∀ q : Nat, q < 3 → P q := fun q hq => by
  match q, hq with
  | 0, _ => exact h0
  | 1, _ => exact h1
  | 2, _ => exact h2
  | q + 3, hq => omega
theorem fm_all {G : Nat → Int32} {q : Nat} : ∀ {n : Nat}, (∀ e : Nat, e < n → G (8 * q + e) = 0) → fm G q n = 2 ^ n - 1
  | 0, _ => rfl
  | n + 1, h => by
    show fm G q n + (if G (8 * q + n) = 0 then 2 ^ n else 0) = _
    rw [fm_all (fun e he => h e (by omega)), if_pos (h n (by omega)), Nat.pow_succ]
    have := Nat.two_pow_pos n
    omega
theorem cm_all {G K : Nat → Int32} {q d : Nat} : ∀ {n : Nat}, (∀ e : Nat, e < n → G (8 * q + e) = 0) → cm G K q d n = 0
  | 0, _ => rfl
  | n + 1, h => by
    show cm G K q d n + (if G (8 * q + n) = 0 then 0 else _) = _
    rw [cm_all (fun e he => h e (by omega)), if_pos (h n (by omega))]
theorem cl_o (u : Nat → Int32) (g : Nat → Nat → Int32) (j : Nat) (h1 : j ≠ 38) (h2 : j ≠ 39) : ∀ n : Nat, L_X9_clear u g n j = L_X9_clear u g 0 j := by
  intro n
  generalize hX : L_X9_clear u g 0 j = X
  induction n with
  | zero => exact hX
  | succ n ih => rw [L_X9_clear, va_up_ne _ _ h2, va_up_ne _ _ h1, ih]
theorem cl_38 (u : Nat → Int32) (g : Nat → Nat → Int32) : ∀ n e : Nat, e < n → L_X9_clear u g n 38 e = 0 := by
  intro n
  induction n with
  | zero => intro e he; omega
  | succ n ih =>
    intro e he
    rw [L_X9_clear, va_up_ne _ _ (by decide), va_up_self]
    by_cases h : e = n
    · subst h; rw [pk_us]; rfl
    · rw [pk_un h]; exact ih e (by omega)
theorem cl_0 (u : Nat → Int32) (g : Nat → Nat → Int32) (j : Nat) (h : j < 25 ∨ (25 < j ∧ j < 29) ∨ (31 < j ∧ j < 40) ∨ 42 < j) : L_X9_clear u g 0 j = g j := by
  rw [L_X9_clear]
  simp (disch := omega) only [va_up_ne]
theorem cl_c (u : Nat → Int32) (g : Nat → Nat → Int32) (j : Nat) (h : j < 25 ∨ (25 < j ∧ j < 29) ∨ (31 < j ∧ j < 38) ∨ 42 < j) : S_X9_clear u g j = g j := by
  unfold S_X9_clear
  rw [cl_o u g j (by omega) (by omega), cl_0 u g j (by omega)]
theorem cl_q (u : Nat → Int32) (g : Nat → Nat → Int32) : ∀ q : Nat, q < 3 → S_X9_clear u g 25 q = 0 ∧ S_X9_clear u g 29 q = 0 ∧ S_X9_clear u g 30 q = 0 ∧ S_X9_clear u g 31 q = 0 ∧ S_X9_clear u g 40 q = 0 ∧ S_X9_clear u g 41 q = 0 ∧ S_X9_clear u g 42 q = -1 := by
  unfold S_X9_clear
  rw [cl_o u g 25 (by decide) (by decide), cl_o u g 29 (by decide) (by decide), cl_o u g 30 (by decide) (by decide), cl_o u g 31 (by decide) (by decide), cl_o u g 40 (by decide) (by decide), cl_o u g 41 (by decide) (by decide), cl_o u g 42 (by decide) (by decide)]
  rw [L_X9_clear]
  exact all3 ⟨rfl, rfl, rfl, rfl, rfl, rfl, rfl⟩ ⟨rfl, rfl, rfl, rfl, rfl, rfl, rfl⟩ ⟨rfl, rfl, rfl, rfl, rfl, rfl, rfl⟩
theorem cl_l (u : Nat → Int32) (g : Nat → Nat → Int32) (e : Nat) (he : e < 24) : S_X9_clear u g 38 e = 0 := cl_38 u g 24 e he
theorem fi17_o (v : Nat → Int32) (f : Nat → Nat → Int32) (b : Int32) (j : Nat) (h : j ≠ 17) : S_J7_fillI17 v f b j = f j := by
  have h9 : ∀ n : Nat, L_J7_fillI17 v f b n j = f j := by
    intro n
    induction n with
    | zero => rfl
    | succ n ih => rw [L_J7_fillI17, va_up_ne _ _ h, ih]
  exact h9 8
theorem fi17_s (v : Nat → Int32) (f : Nat → Nat → Int32) (b : Int32) (e : Nat) (he : e < 8) : S_J7_fillI17 v f b 17 e = b := by
  have h9 : ∀ n : Nat, n ≤ 8 → ∀ e : Nat, e < n → L_J7_fillI17 v f b n 17 e = b := by
    intro n
    induction n with
    | zero => intro _ e he; omega
    | succ n ih =>
      intro hn e he
      rw [L_J7_fillI17, va_up_self, nI_clamp (by omega)]
      by_cases h : e = n
      · subst h; rw [pk_us]
      · rw [pk_un h]; exact ih (by omega) e (by omega)
  exact h9 8 (Nat.le_refl 8) e he
theorem fi19_o (v : Nat → Int32) (f : Nat → Nat → Int32) (b : Int32) (j : Nat) (h : j ≠ 19) : S_J7_fillI19 v f b j = f j := by
  have h9 : ∀ n : Nat, L_J7_fillI19 v f b n j = f j := by
    intro n
    induction n with
    | zero => rfl
    | succ n ih => rw [L_J7_fillI19, va_up_ne _ _ h, ih]
  exact h9 8
theorem fi19_s (v : Nat → Int32) (f : Nat → Nat → Int32) (b : Int32) (e : Nat) (he : e < 8) : S_J7_fillI19 v f b 19 e = b := by
  have h9 : ∀ n : Nat, n ≤ 8 → ∀ e : Nat, e < n → L_J7_fillI19 v f b n 19 e = b := by
    intro n
    induction n with
    | zero => intro _ e he; omega
    | succ n ih =>
      intro hn e he
      rw [L_J7_fillI19, va_up_self, nI_clamp (by omega)]
      by_cases h : e = n
      · subst h; rw [pk_us]
      · rw [pk_un h]; exact ih (by omega) e (by omega)
  exact h9 8 (Nat.le_refl 8) e he
theorem fi21_o (v : Nat → Int32) (f : Nat → Nat → Int32) (b : Int32) (j : Nat) (h : j ≠ 21) : S_J7_fillI21 v f b j = f j := by
  have h9 : ∀ n : Nat, L_J7_fillI21 v f b n j = f j := by
    intro n
    induction n with
    | zero => rfl
    | succ n ih => rw [L_J7_fillI21, va_up_ne _ _ h, ih]
  exact h9 8
theorem fi21_s (v : Nat → Int32) (f : Nat → Nat → Int32) (b : Int32) (e : Nat) (he : e < 8) : S_J7_fillI21 v f b 21 e = b := by
  have h9 : ∀ n : Nat, n ≤ 8 → ∀ e : Nat, e < n → L_J7_fillI21 v f b n 21 e = b := by
    intro n
    induction n with
    | zero => intro _ e he; omega
    | succ n ih =>
      intro hn e he
      rw [L_J7_fillI21, va_up_self, nI_clamp (by omega)]
      by_cases h : e = n
      · subst h; rw [pk_us]
      · rw [pk_un h]; exact ih (by omega) e (by omega)
  exact h9 8 (Nat.le_refl 8) e he
theorem fb_o (v : Nat → Int32) (f : Nat → Nat → Int32) (b : Int32) (j : Nat) (h : j ≠ 2) : S_J7_fillB2 v f b j = f j := by
  have h9 : ∀ n : Nat, L_J7_fillB2 v f b n j = f j := by
    intro n
    induction n with
    | zero => rfl
    | succ n ih => rw [L_J7_fillB2, va_up_ne _ _ h, ih]
  unfold S_J7_fillB2
  generalize 4096 = n
  exact h9 n
theorem fb_s (v : Nat → Int32) (f : Nat → Nat → Int32) (b : Int32) (e : Nat) (he : e < 4096) : S_J7_fillB2 v f b 2 e = vp_nar .byte b := by
  have h9 : ∀ n : Nat, n ≤ 4096 → ∀ e : Nat, e < n → L_J7_fillB2 v f b n 2 e = vp_nar .byte b := by
    intro n
    induction n with
    | zero => intro _ e he; omega
    | succ n ih =>
      intro hn e he
      rw [L_J7_fillB2, va_up_self, nI_clamp (by omega)]
      by_cases h : e = n
      · subst h; rw [pk_us]
      · rw [pk_un h]; exact ih (by omega) e (by omega)
  unfold S_J7_fillB2
  exact h9 4096 (Nat.le_refl _) e he
theorem cn0 : CN 0 := ⟨0, rfl, by decide⟩
set_option maxRecDepth 4096 in
theorem sim_reset {c9 : Nat} {v : Nat → Int32} {f : Nat → Nat → Int32} {u : Nat → Int32} {g : Nat → Nat → Int32} (h : SIM c9 v f u g) (hc : c9 + 1 ≤ 512) (a : Int32) (ha : a = 0 ∨ a = 1) : (S_X8_reset v f a).1 = (S_X9_reset u g a).1 ∧ SIM (c9 + 1) ((S_X8_reset v f a).2.1) ((S_X8_reset v f a).2.2) ((S_X9_reset u g a).2.1) ((S_X9_reset u g a).2.2) := by
  unfold S_X8_reset S_X9_reset
  refine ⟨rfl, ?_⟩
  obtain ⟨⟨a1, a2, a3, a4, a5, a6, a7, a8, a9, a10⟩, b1, b2, h4, h5, h6, h7, h8⟩ := h
  dsimp only
  have hF : ∀ j : Nat, j ≠ 17 → j ≠ 19 → j ≠ 21 → (S_X3_stop (S_X1_switchOff v f a) f).2 j = f j := by
    intro j h1 h2 h3
    unfold S_X3_stop Q_X3_stop_4 S_X4_forget_20
    dsimp only
    rw [fi21_o _ _ _ _ h3]
    unfold Q_X3_stop_2 S_X4_forget_18
    dsimp only
    rw [fi19_o _ _ _ _ h2]
    unfold S_X4_forget_16
    dsimp only
    rw [fi17_o _ _ _ _ h1]
  have hL : ∀ q : Nat, q < 3 → ∀ d : Nat, d < 8 → (S_X3_stop (S_X1_switchOff v f a) f).2 (17 + 2 * q) d = 0 := by
    refine all3 (fun d hd => ?_) (fun d hd => ?_) (fun d hd => ?_)
    · unfold S_X3_stop Q_X3_stop_4 S_X4_forget_20
      dsimp only
      rw [fi21_o _ _ _ _ (by decide)]
      unfold Q_X3_stop_2 S_X4_forget_18
      dsimp only
      rw [fi19_o _ _ _ _ (by decide)]
      unfold S_X4_forget_16
      dsimp only
      rw [show 17 + 2 * 0 = 17 from rfl, fi17_s _ _ _ _ hd]
    · unfold S_X3_stop Q_X3_stop_4 S_X4_forget_20
      dsimp only
      rw [fi21_o _ _ _ _ (by decide)]
      unfold Q_X3_stop_2 S_X4_forget_18
      dsimp only
      rw [show 17 + 2 * 1 = 19 from rfl, fi19_s _ _ _ _ hd]
    · unfold S_X3_stop Q_X3_stop_4 S_X4_forget_20
      dsimp only
      rw [show 17 + 2 * 2 = 21 from rfl, fi21_s _ _ _ _ hd]
  generalize hG : S_X9_clear u g = G
  have hq : ∀ q : Nat, q < 3 → G 25 q = 0 ∧ G 29 q = 0 ∧ G 30 q = 0 ∧ G 31 q = 0 ∧ G 40 q = 0 ∧ G 41 q = 0 ∧ G 42 q = -1 := by rw [← hG]; exact cl_q u g
  have hl : ∀ e : Nat, e < 24 → G 38 e = 0 := by rw [← hG]; exact cl_l u g
  have ho : ∀ j : Nat, (j < 25 ∨ (25 < j ∧ j < 29) ∨ (31 < j ∧ j < 38) ∨ 42 < j) → G j = g j := by rw [← hG]; exact cl_c u g
  generalize hH : (S_X3_stop (S_X1_switchOff v f a) f).2 = H at hF hL ⊢
  have r : ∀ q : Nat, q < 3 → v (6 + 8 * q) = g 26 q ∧ v (7 + 8 * q) = g 27 q ∧ v (8 + 8 * q) = g 28 q := fun q hq => ⟨(h4 q hq).2.2.1, (h4 q hq).2.2.2.1, (h4 q hq).2.2.2.2.1⟩
  refine ⟨⟨rfl, rfl, a3, a4, a5, rfl, Or.inl rfl, ha, Or.inl rfl, fun h => absurd (show (0 : Int32) = 1 from h) (by decide)⟩, ?_, ?_, ?_, ?_, ?_, ?_, hc⟩
  · rw [hF 2 (by decide) (by decide) (by decide), ho 23 (by decide)]; exact b1
  · rw [hF 11 (by decide) (by decide) (by decide), ho 24 (by decide)]; exact b2
  · intro q hq9
    obtain ⟨c1, c2, c3, c4, c5, c6, c7⟩ := hq q hq9
    unfold RING
    rw [c1, c2, c3, c4, ho 26 (by decide), ho 27 (by decide), ho 28 (by decide), if_pos rfl, ← (r q hq9).1, ← (r q hq9).2.1, ← (r q hq9).2.2]
    clear c1 c2 c3 c4 c5 c6 c7
    revert q
    refine all3 ?_ ?_ ?_
    all_goals exact ⟨rfl, rfl, rfl, rfl, rfl, rfl, rfl, rfl⟩
  · unfold WIRE at h5 ⊢
    rw [hF 13 (by decide) (by decide) (by decide), hF 14 (by decide) (by decide) (by decide), ho 36 (by decide), ho 37 (by decide)]
    obtain ⟨⟨n, e1, e2, e3, e4⟩, h5⟩ := h5
    exact ⟨⟨n, e1, by omega, e3, e4⟩, h5⟩
  · intro q hq9
    obtain ⟨c1, c2, c3, c4, c5, c6, c7⟩ := hq q hq9
    refine ⟨?_, ⟨fun h => absurd (show (0 : Int32) = 1 from h) (by decide), fun _ => ⟨?_, hL q hq9⟩, fun e he => Or.inl (hl _ (by omega))⟩⟩
    · unfold DRIV
      rw [c5, c6, c7]
      clear c1 c2 c3 c4 c5 c6 c7
      revert q
      refine all3 ?_ ?_ ?_
      all_goals exact ⟨rfl, rfl, rfl⟩
    · clear c1 c2 c3 c4 c5 c6 c7
      revert q
      refine all3 ?_ ?_ ?_
      all_goals rfl
  · unfold MInv
    rw [ho 37 (by decide)]
    refine ⟨fun q hq9 => ?_, h7.2⟩
    obtain ⟨c1, c2, c3, c4, c5, c6, c7⟩ := hq q hq9
    rw [c2, c3, c5, c6]
    exact ⟨Or.inl c1, cn0, cn0, cn0, cn0⟩
