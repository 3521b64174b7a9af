theorem eqk_iff {T k : Nat} (hT : T < 2 ^ 32) (hk : k < 2 ^ 31) : lg_cmp (lN T) (lN k) = 0 ↔ T = k := by
  rw [lg_cmp_eq, pk_lEQ (by omega) (by omega)]
theorem eq1_iff {T : Nat} (hT : T < 2 ^ 32) : lg_cmp (lN T) 1 = 0 ↔ T = 1 := eqk_iff (k := 1) hT (by decide)
theorem eq8_iff {T : Nat} (hT : T < 2 ^ 32) : lg_cmp (lN T) 8 = 0 ↔ T = 8 := eqk_iff (k := 8) hT (by decide)
theorem eq4_iff {T : Nat} (hT : T < 2 ^ 32) : lg_cmp (lN T) 4 = 0 ↔ T = 4 := eqk_iff (k := 4) hT (by decide)
/-- the disk answers a chain -/
theorem answer_sim0 {c r w n m : Nat} {v : Nat → Int32} {f : Nat → Nat → Int32} {u : Nat → Int32} {g : Nat → Nat → Int32} (h : SIM c v f u g) (hC : CH r w n m v f u g) : ∃ (b : Nat) (v' : Nat → Int32) (f' : Nat → Nat → Int32) (g' : Nat → Nat → Int32), S_X2_answer v f = (nI b, v', f') ∧ S_X9_doDisk u g = (nI b, g') ∧ b < 2 ^ 31 ∧ SIM c v' f' u g' ∧ v' 34 = v 34 := by
  have hW := hC.2.2.2.2.1
  have hR := hC.2.2.2.1
  have h0 := hC.1
  have hle := hW.le
  have hlr := hR.le
  have a35 : v 35 = nI n := hC.2.1.2.2.1
  have a36 : v 36 = nI m := hC.2.1.2.2.2
  have b5 : u 5 = nI n := hC.2.2.1.2.1
  have b7 : u 7 = nI m := hC.2.2.1.2.2.2
  unfold S_X2_answer S_X9_doDisk
  rw [a35, a36, b5, b7]
  by_cases c1 : n < 16
  · rw [if_pos (show nI n < 16 from nI_lt (b := 16) c1 (by decide)), if_pos (show nI n < 16 from nI_lt (b := 16) c1 (by decide))]
    exact ⟨0, v, f, g, rfl, rfl, by decide, h, rfl⟩
  · rw [if_neg (show ¬ nI n < 16 from nI_nlt (b := 16) (by omega) (by omega)), if_neg (show ¬ nI n < 16 from nI_nlt (b := 16) (by omega) (by omega))]
    by_cases c2 : m = 0
    · rw [c2, if_neg (show ¬ (1 : Int32) ≤ nI 0 by decide), if_pos (show nI 0 = 0 from rfl)]
      exact ⟨0, v, f, g, rfl, rfl, by decide, h, rfl⟩
    · have hm : 0 < m := by omega
      rw [if_pos (show (1 : Int32) ≤ nI m from nI_le (a := 1) (by omega) (by omega)), if_neg (nI_ne0 hm (by omega))]
      obtain ⟨T, S, hT, hS, q1, q3, hv, hCU, m1, m2⟩ := an_rd h hC (by omega)
      have e36 : Q_X2_answer_4 v f 36 = nI m := (hv 36 (by decide) (by decide) (by decide)).trans a36
      have e35 : Q_X2_answer_4 v f 35 = nI n := (hv 35 (by decide) (by decide) (by decide)).trans a35
      have e34 : Q_X2_answer_4 v f 34 = v 34 := hv 34 (by decide) (by decide) (by decide)
      have ez : nI m - 1 = nI (m - 1) := pk_sub (a := m) (b := 1) (by omega)
      have ey : nI n - 16 = nI (n - 16) := pk_sub (a := n) (b := 16) (by omega)
      have q5 : Q_X2_answer_5 v f = S_X2_resultOf (Q_X2_answer_4 v f) f (nI T) (lN S) := by unfold Q_X2_answer_5; rw [q1, q3, lN_i]
      have q6 : Q_X2_answer_6 v f = S_X0_putLast (Q_X2_answer_4 v f) f (Q_X2_answer_5 v f) := by unfold Q_X2_answer_6; rfl
      have q7 : Q_X2_answer_7 v f = (S_X2_carryOut (Q_X2_answer_4 v f) f (nI T) (nI S)).1 := by unfold Q_X2_answer_7; rw [q1, q3, lN_i, lN_i]
      have q8 : Q_X2_answer_8 v f = (S_X2_carryOut (Q_X2_answer_4 v f) f (nI T) (nI S)).2.1 := by unfold Q_X2_answer_8; rw [q1, q3, lN_i, lN_i]
      have q10 : Q_X2_answer_10 v f = S_X0_putLast (S_X2_carryOut (Q_X2_answer_4 v f) f (nI T) (nI S)).2.1 (S_X2_carryOut (Q_X2_answer_4 v f) f (nI T) (nI S)).2.2 (Q_X2_answer_5 v f) := by unfold Q_X2_answer_10; rw [q8]; unfold Q_X2_answer_9; rw [q1, q3, lN_i, lN_i]
      have hr : ((S_X9_readNumber u g 8 8) : Int64).toInt32 = nI S := by rw [m2, lN_i]
      rw [m1, ez, q6, q7, q8, q10]
      clear q6 q7 q8 q10 q1 q3
      generalize Q_X2_answer_4 v f = v4 at *
      generalize Q_X2_answer_5 v f = R at *
      have k0 : ∀ k : Nat, k < 2 ^ 31 → ¬ T = k → ¬ nI T = nI k := fun k hk q => fun e => q ((nI_eqW hT (by omega)).mp e)
      by_cases t0 : T = 0
      · subst t0
        have d1 : Q_X9_doDisk_1 u g = nI (m - 1) := by unfold Q_X9_doDisk_1; rw [m1, if_pos ((eq0_iff hT).mpr rfl), b7, ez]
        have d2 : Q_X9_doDisk_2 u g = S_X2_areThere v4 f (lN S) (nI (m - 1)) := by unfold Q_X9_doDisk_2 S_X2_areThere; rw [d1, m2]
        have q5' : R = if S_X2_areThere v4 f (lN S) (nI (m - 1)) = 0 then 1 else 0 := by rw [q5]; unfold S_X2_resultOf; rw [if_pos (show nI 0 = 0 from rfl), e36, ez]
        rw [if_pos ((eq0_iff hT).mpr rfl), d2]
        by_cases ca : S_X2_areThere v4 f (lN S) (nI (m - 1)) = 0
        · rw [if_pos ca] at q5'
          rw [if_pos ca, q5', if_neg (show ¬ (1 : Int32) = 0 by decide)]
          exact ⟨1, v4, _, _, rfl, rfl, by decide, an_10 h hC hm hv 1, e34⟩
        · rw [if_neg ca] at q5'
          obtain ⟨v', F, G, x1, x2, x3, x4⟩ := an_out h hC hm hv (there hS (by omega) ca) hr
          have hco : S_X2_carryOut v4 f (nI 0) (nI S) = (nI (m - 1), v', va_up f 2 F) := by unfold S_X2_carryOut; rw [if_pos (show nI 0 = 0 from rfl), x1]
          have hd5 : Q_X9_doDisk_5 u g = S_X9_writeByte u (va_up g 23 G) (nI (m - 1)) 0 := by unfold Q_X9_doDisk_5; rw [d1, nI_clamp (by omega), x2, b7, ez]
          rw [if_neg ca, q5', if_pos rfl, hco, d1, hd5]
          dsimp only
          rw [nI_1]
          exact ⟨m - 1 + 1, v', _, _, rfl, rfl, by omega, an_1 h hC hm x3 x4 0, x3 34 (by decide) (by decide) (by decide)⟩
      · rw [if_neg (fun e => t0 ((eq0_iff hT).mp e))]
        by_cases t1 : T = 1
        · subst t1
          have d1 : Q_X9_doDisk_1 u g = nI (n - 16) := by unfold Q_X9_doDisk_1; rw [m1, if_neg (fun e => t0 ((eq0_iff hT).mp e)), b5, ey]
          have d2 : Q_X9_doDisk_2 u g = S_X2_areThere v4 f (lN S) (nI (n - 16)) := by unfold Q_X9_doDisk_2 S_X2_areThere; rw [d1, m2]
          have q5' : R = if S_X2_areThere v4 f (lN S) (nI (n - 16)) = 0 then 1 else 0 := by rw [q5]; unfold S_X2_resultOf; rw [if_neg (show ¬ nI 1 = 0 by decide), if_pos (show nI 1 = 1 from rfl), e35, ey]
          rw [if_pos ((eq1_iff hT).mpr rfl), d2]
          by_cases ca : S_X2_areThere v4 f (lN S) (nI (n - 16)) = 0
          · rw [if_pos ca] at q5'
            rw [if_pos ca, q5', if_neg (show ¬ (1 : Int32) = 0 by decide)]
            have hif : ∀ X : Int32 × (Nat → Nat → Int32), (if Q_X9_doDisk_1 u g ≤ 0 then X else X) = X := fun X => by split <;> rfl
            rw [hif]
            exact ⟨1, v4, _, _, rfl, rfl, by decide, an_10 h hC hm hv 1, e34⟩
          · rw [if_neg ca] at q5'
            obtain ⟨v', F, G, x1, x2, x3, x4⟩ := an_in h hC (by omega) hv hCU (there hS (by omega) ca) hr
            have hco : S_X2_carryOut v4 f (nI 1) (nI S) = (0, v', va_up f 11 F) := by unfold S_X2_carryOut; rw [if_neg (show ¬ nI 1 = 0 by decide), if_pos (show nI 1 = 1 from rfl), x1]
            have hd4 : Q_X9_doDisk_4 u g = S_X9_writeByte u (va_up g 24 G) (nI (m - 1)) 0 := by unfold Q_X9_doDisk_4; rw [d1, nI_clamp (by omega), x2, b7, ez]
            rw [if_neg ca, q5', if_pos rfl, hco, hd4]
            dsimp only
            have hS2 : SIM c v' (va_up f 11 F) u (va_up g 24 G) := h.fr (fun j hj => x3 j (by omega) (by omega) (by omega)) (fun _ _ => rfl) (fun j y1 y2 y3 y4 => va_up_ne _ _ y4) (fun j y1 y2 y3 => va_up_ne _ _ y2) (by rw [va_up_ne _ _ (by decide), va_up_ne _ _ (by decide)]; exact h.mem) (by rw [va_up_self, va_up_self]; exact x4)
            have hC2 : CH r w n m v' (va_up f 11 F) u (va_up g 24 G) := (hC.of x3).cg rfl rfl rfl rfl rfl (va_up_ne _ _ (by decide)) (va_up_ne _ _ (by decide)) rfl rfl rfl rfl (va_up_ne _ _ (by decide)) (va_up_ne _ _ (by decide)) (va_up_ne _ _ (by decide)) (va_up_ne _ _ (by decide))
            exact ⟨1, v', _, _, rfl, rfl, by decide, an_10 hS2 hC2 hm (CF.rfl' _) 0, x3 34 (by decide) (by decide) (by decide)⟩
        · rw [if_neg (fun e => t1 ((eq1_iff hT).mp e))]
          have n0 : ¬ nI T = 0 := k0 0 (by decide) t0
          have n1 : ¬ nI T = 1 := k0 1 (by decide) t1
          by_cases t8 : T = 8
          · subst t8
            have q5' : R = 0 := by rw [q5]; rfl
            rw [if_pos ((eq8_iff hT).mpr rfl), q5', if_pos rfl]
            obtain ⟨K, hK1, hK2, eK⟩ : ∃ K : Nat, K ≤ 20 ∧ K ≤ m - 1 ∧ (if (nI (m - 1) : Int32) < 20 then nI (m - 1) else 20) = nI K := by
              by_cases cK : m - 1 < 20
              · exact ⟨m - 1, by omega, by omega, by rw [if_pos (show nI (m - 1) < 20 from nI_lt (b := 20) cK (by decide))]⟩
              · exact ⟨20, by omega, by omega, by rw [if_neg (show ¬ nI (m - 1) < 20 from nI_nlt (b := 20) (by omega) (by omega))]; rfl⟩
            obtain ⟨v', F, G, x1, x2, x3, x4⟩ := an_name h hC hm hv hK1 hK2 (by rw [ez]; exact eK)
            have hco : S_X2_carryOut v4 f (nI 8) (nI S) = (nI K, v', va_up f 2 F) := by unfold S_X2_carryOut; rw [if_neg n0, if_neg n1, if_pos (show nI 8 = 8 from rfl), x1]
            have hd3 : Q_X9_doDisk_3 u g = S_X9_writeByte u (va_up g 23 G) (nI (m - 1)) 0 := by unfold Q_X9_doDisk_3; rw [b7, ez, eK, nI_clamp (by omega), x2]
            rw [hco, hd3, eK]
            dsimp only
            rw [nI_1]
            exact ⟨K + 1, v', _, _, rfl, rfl, by omega, an_1 h hC hm x3 x4 0, x3 34 (by decide) (by decide) (by decide)⟩
          · rw [if_neg (fun e => t8 ((eq8_iff hT).mp e))]
            have n8 : ¬ nI T = 8 := k0 8 (by decide) t8
            have hco : S_X2_carryOut v4 f (nI T) (nI S) = (0, v4, f) := by unfold S_X2_carryOut; rw [if_neg n0, if_neg n1, if_neg n8]
            by_cases t4 : T = 4
            · subst t4
              have q5' : R = 0 := by rw [q5]; rfl
              rw [if_pos ((eq4_iff hT).mpr rfl), q5', if_pos rfl, hco]
              exact ⟨1, v4, _, _, rfl, rfl, by decide, an_10 h hC hm hv 0, e34⟩
            · rw [if_neg (fun e => t4 ((eq4_iff hT).mp e))]
              have n4 : ¬ nI T = 4 := k0 4 (by decide) t4
              have q5' : R = 2 := by
                rw [q5]
                unfold S_X2_resultOf
                rw [if_neg n0, if_neg n1, if_neg n4, if_neg n8]
                repeat' split
                all_goals rfl
              rw [q5', if_neg (show ¬ (2 : Int32) = 0 by decide)]
              exact ⟨1, v4, _, _, rfl, rfl, by decide, an_10 h hC hm hv 2, e34⟩
theorem answer_sim {c r w n m : Nat} {v : Nat → Int32} {f : Nat → Nat → Int32} {u : Nat → Int32} {g : Nat → Nat → Int32} (h : SIM c v f u g) (hC : CH r w n m v f u g) : ∃ (b : Nat) (v' : Nat → Int32) (f' : Nat → Nat → Int32) (g' : Nat → Nat → Int32), S_X2_answer v f = (nI b, v', f') ∧ S_X9_doDisk u g = (nI b, g') ∧ b < 2 ^ 31 ∧ SIM c v' f' u g' ∧ v' 34 = v 34 ∧ g' 25 = g 25 := by
  obtain ⟨b, v', f', g', e1, e2, e3, e4, e5⟩ := answer_sim0 h hC
  have := dk_same u g 25 (by decide) (by decide)
  rw [e2] at this
  exact ⟨b, v', f', g', e1, e2, e3, e4, e5, this⟩
