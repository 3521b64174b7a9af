theorem sim_step {c9 : Nat} {v : Nat → Int32} {f : Nat → Nat → Int32} {u : Nat → Int32} {g : Nat → Nat → Int32} (h : SIM c9 v f u g) (hc : c9 + 1 ≤ 512) (a : Int32) : (S_X8_step v f a).1 = (S_X9_step u g a).1 ∧ SIM (c9 + 1) ((S_X8_step v f a).2.1) ((S_X8_step v f a).2.2) ((S_X9_step u g a).2.1) ((S_X9_step u g a).2.2) := by
  by_cases c0 : a = 0
  · unfold S_X8_step S_X9_step
    rw [if_pos c0, if_pos c0]
    unfold S_X1_doChain_0 Q_X1_doChain_0_4 Q_X1_doChain_0_5 Q_X1_doChain_0_3 Q_X1_doChain_0_2 Q_X1_doChain_0_1 Q_X9_step_6 Q_X9_step_5 Q_X9_step_4 Q_X9_step_3 Q_X9_step_2 Q_X9_step_1
    rcases tf_0 h with ⟨z0, hX⟩ | ⟨z0, ⟨u', hs, z2, v', hX, hS⟩ | ⟨hs, z2, hX⟩ | ⟨hs, z2, v', f', u', g', ht, hX, hS⟩ | ⟨hs, z2, v', f', u', g', r, w, n, m, hd, ht, hX, hS, hC, h34, h3, hh, zg⟩⟩
    · rw [if_pos z0, hX]
      dsimp only
      rw [if_neg (show ¬ (-4 : Int32) = 1 by decide)]
      exact ⟨rfl, h.up hc⟩
    · rw [if_neg z0, hs, hX]
      dsimp only
      rw [if_pos rfl, if_pos z2, if_neg (show ¬ (-5 : Int32) = 1 by decide)]
      exact ⟨rfl, hS.up hc⟩
    · rw [if_neg z0, hs, hX]
      dsimp only
      rw [if_pos rfl, if_neg z2, if_neg (show ¬ (0 : Int32) = 1 by decide)]
      exact ⟨rfl, h.up hc⟩
    · rw [if_neg z0, hs, hX]
      dsimp only
      rw [ht]
      dsimp only
      rw [if_neg (show ¬ (1 : Int32) = 0 by decide), if_pos rfl, if_neg (show ¬ (-5 : Int32) = 1 by decide)]
      exact ⟨rfl, hS.up hc⟩
    · obtain ⟨b, v2, f2, g2, x1, x2, x3, x4, x5, x6⟩ := answer_sim hS hC
      have hg := gb_0 (b := b) x4 (by rw [x6]; exact zg) h3 hh x3
      rw [if_neg z0, hs, hX]
      dsimp only
      rw [ht, x1]
      dsimp only
      rw [x2]
      dsimp only
      rw [if_neg (show ¬ (1 : Int32) = 0 by decide), if_neg (show ¬ (1 : Int32) = 0 by decide), if_pos rfl, x5, h34]
      exact ⟨rfl, hg.up hc⟩
  · by_cases c2 : a = 2
    · unfold S_X8_step S_X9_step
      rw [if_neg c0, if_neg c0, if_pos c2, if_pos c2]
      unfold S_X1_doChain_2 Q_X1_doChain_2_4 Q_X1_doChain_2_3 Q_X1_doChain_2_2 Q_X1_doChain_2_1 Q_X9_step_12 Q_X9_step_11 Q_X9_step_10 Q_X9_step_9 Q_X9_step_8 Q_X9_step_7
      rcases tf_2 h with ⟨z0, hX⟩ | ⟨z0, ⟨u', hs, z2, v', hX, hS⟩ | ⟨hs, z2, hX⟩ | ⟨hs, z2, v', f', u', g', ht, hX, hS⟩ | ⟨hs, z2, v', f', u', g', r, w, n, m, hd, ht, hX, hS, hC, h34, h3, hh, zg⟩⟩
      · rw [if_pos z0, hX]
        dsimp only
        rw [if_neg (show ¬ (-4 : Int32) = 1 by decide)]
        exact ⟨rfl, h.up hc⟩
      · rw [if_neg z0, hs, hX]
        dsimp only
        rw [if_pos rfl, if_pos z2, if_neg (show ¬ (-5 : Int32) = 1 by decide)]
        exact ⟨rfl, hS.up hc⟩
      · rw [if_neg z0, hs, hX]
        dsimp only
        rw [if_pos rfl, if_neg z2, if_neg (show ¬ (0 : Int32) = 1 by decide)]
        exact ⟨rfl, h.up hc⟩
      · rw [if_neg z0, hs, hX]
        dsimp only
        rw [ht]
        dsimp only
        rw [if_neg (show ¬ (1 : Int32) = 0 by decide), if_pos rfl, if_neg (show ¬ (-5 : Int32) = 1 by decide)]
        exact ⟨rfl, hS.up hc⟩
      · obtain ⟨v2, f2, u2, g2, x1, x2, x3, x4, x5, x6⟩ := carry_sim hS hc hC
        have hg := gb_2 (b := 0) x3 (by rw [x6]; exact zg) (x5.trans h3) hh (by decide)
        rw [nI_0] at hg
        rw [if_neg z0, hs, hX]
        dsimp only
        rw [ht, x1]
        dsimp only
        rw [x2]
        dsimp only
        rw [if_neg (show ¬ (1 : Int32) = 0 by decide), if_neg (show ¬ (1 : Int32) = 0 by decide), if_pos rfl, x4, h34]
        exact ⟨rfl, hg⟩
    · unfold S_X8_step S_X9_step
      rw [if_neg c0, if_neg c0, if_neg c2, if_neg c2]
      exact ⟨rfl, h.up hc⟩
