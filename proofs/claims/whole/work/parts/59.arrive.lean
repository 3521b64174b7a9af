/-- the bytes of what comes -/
def abB (nn i : Nat) : Int32 := if i < 12 then 0 else nI (px nn (i - 12))
theorem dl_run {c r w n m z nn : Nat} {v : Nat → Int32} {f : Nat → Nat → Int32} {u : Nat → Int32} {g : Nat → Nat → Int32} (h : SIM c v f u g) (hC : CH r w n m v f u g) (hz : z ≤ 80) (hm : 12 + z ≤ m) (hn : nn < 2 ^ 64) {u0 : Nat → Int32} {g0 : Nat → Nat → Int32} (e2 : Q_X9_arrive_2 u0 g0 (nI z) (lN nn) = u) (e3 : Q_X9_arrive_3 u0 g0 (nI z) (lN nn) = g) : ∃ v' : Nat → Int32, ∃ F G : Nat → Int32, L_X1_deliver2 v f (nI z) (lN nn) z = (v', va_up f 2 F) ∧ L_X9_arrive u0 g0 (nI z) (lN nn) (12 + z) = va_up g 23 G ∧ CF v v' ∧ EQ F G := by
  obtain ⟨cw, cv⟩ := hC.cw
  have hW := hC.2.2.2.2.1
  have h0 := hC.1
  rw [show m = (m - (12 + z)) + (12 + z) by omega] at cw
  obtain ⟨v', a1, a2, a3⟩ := putrun cw (fun i => if i < 12 then L_X1_deliver v f (nI z) (lN nn) i else L_X1_deliver2 v f (nI z) (lN nn) (i - 12)) (abB nn) (by rw [if_pos (by decide), L_X1_deliver]) (by
    intro i F v9 hi e
    unfold abB
    by_cases c1 : i < 12
    · rw [if_pos c1] at e ⊢
      have e9 : L_X1_deliver v f (nI z) (lN nn) (i + 1) = S_X0_putByte v9 (va_up f 2 F) 0 := by rw [L_X1_deliver, e]
      by_cases c2 : i + 1 < 12
      · rw [if_pos c2, e9]
      · have hi11 : i = 11 := by omega
        subst hi11
        have e12 : L_X1_deliver v f (nI z) (lN nn) 12 = S_X0_putByte v9 (va_up f 2 F) 0 := e9
        rw [if_neg c2, show 11 + 1 - 12 = 0 from rfl, L_X1_deliver2, e12]
    · rw [if_neg c1] at e ⊢
      rw [if_neg (show ¬ i + 1 < 12 by omega), show i + 1 - 12 = (i - 12) + 1 by omega, L_X1_deliver2, e]
      dsimp only
      rw [pat_C _ _ _ _ hn (by omega)]) (12 + z) (Nat.le_refl _)
  have hd := wrun (u := u) hW (by omega) (K := 12 + z) hm (L_X9_arrive u0 g0 (nI z) (lN nn)) (abB nn) (by rw [L_X9_arrive, e3]) (by
    intro i G hi e
    rw [L_X9_arrive, e, e2]
    unfold abB
    by_cases c1 : i < 12
    · rw [if_pos c1, if_neg (show ¬ (12 : Int32) ≤ nI i from nI_ge (b := 12) c1 (by decide))]
    · rw [if_neg c1, if_pos (show (12 : Int32) ≤ nI i from nI_le (a := 12) (by omega) (by omega)), show nI i - 12 = nI (i - 12) from pk_sub (b := 12) (by omega), pat_M _ _ _ _ hn (by omega)]) (12 + z) (Nat.le_refl _)
  refine ⟨v', WB (f 2) (PL (g 35) (g 34) 0 w) (abB nn) (12 + z), _, ?_, hd, cv.tr a2, EQ.wb h.mem _ _ _⟩
  rw [if_neg (by omega), show 12 + z - 12 = z by omega] at a1
  exact a1
theorem dl_sim {c r w n m z nn hd : Nat} {v : Nat → Int32} {f : Nat → Nat → Int32} {u : Nat → Int32} {g : Nat → Nat → Int32} (h : SIM c v f u g) (hC : CH r w n m v f u g) (hz : z ≤ 80) (hn : nn < 2 ^ 64) {u0 : Nat → Int32} {g0 : Nat → Nat → Int32} (e2 : Q_X9_arrive_2 u0 g0 (nI z) (lN nn) = u) (e3 : Q_X9_arrive_3 u0 g0 (nI z) (lN nn) = g) (h34 : v 34 = nI hd) (h3 : u 3 = nI hd) (hh : hd < 65536) (zg : ¬ g 25 1 = 0) : ∃ (v' : Nat → Int32) (f' : Nat → Nat → Int32), ((0 < u 5 ∨ (¬ 0 < u 5 ∧ ¬ 12 + nI z ≤ u 7)) ∧ S_X1_deliver v f (nI z) (lN nn) = (0, v', f') ∧ SIM c v' f' u (S_X9_give u g 0 1)) ∨ ((¬ 0 < u 5 ∧ 12 + nI z ≤ u 7) ∧ S_X1_deliver v f (nI z) (lN nn) = (1, v', f') ∧ SIM c v' f' u (S_X9_give u (L_X9_arrive u0 g0 (nI z) (lN nn) (12 + nI z).toNatClampNeg) (12 + nI z) 1)) := by
  have hW := hC.2.2.2.2.1
  have hR := hC.2.2.2.1
  have h0 := hC.1
  have hle := hW.le
  have hlr := hR.le
  have a35 : v 35 = nI n := hC.2.1.2.2.1
  have a36 : v 36 = nI m := hC.2.1.2.2.2
  have b5 : u 5 = nI n := hC.2.2.1.2.1
  have b7 : u 7 = nI m := hC.2.2.1.2.2.2
  have e12 : (12 : Int32) + nI z = nI (12 + z) := nI_add 12 z
  have hg := gb_1 (b := 0) h zg h3 hh (by decide)
  rw [nI_0] at hg
  unfold S_X1_deliver
  rw [a35, a36, b5, b7, e12, h34]
  by_cases c1 : n = 0
  · rw [c1, if_pos (show nI 0 = 0 from rfl)]
    by_cases c2 : m < 12 + z
    · rw [if_pos (nI_lt c2 (by omega))]
      exact ⟨_, _, Or.inl ⟨Or.inr ⟨by decide, nI_ge c2 (by omega)⟩, rfl, hg⟩⟩
    · rw [if_neg (nI_nlt (by omega) (by omega))]
      obtain ⟨v', F, G, x1, x2, x3, x4⟩ := dl_run h hC hz (by omega) hn e2 e3
      have hS : SIM c v' (va_up f 2 F) u (va_up g 23 G) := (h.fr (v' := v') (f' := f) (u' := u) (g' := g) (fun j hj => x3 j (by omega) (by omega) (by omega)) (fun _ _ => rfl) (fun _ _ _ _ _ => rfl) (fun _ _ _ _ => rfl) h.mem h.dsk).wr x4
      have hg2 := gb_1 (b := 12 + z) hS (by rw [va_up_ne _ _ (by decide)]; exact zg) h3 hh (by omega)
      have h34' : v' 34 = nI hd := (x3 34 (by decide) (by decide) (by decide)).trans h34
      unfold Q_X1_deliver_1 Q_X1_deliver_2
      rw [nI_clamp (by omega), nI_clamp (by omega), x1, x2, e12]
      dsimp only
      rw [h34']
      exact ⟨_, _, Or.inr ⟨⟨by decide, nI_le (by omega) (by omega)⟩, rfl, hg2⟩⟩
  · rw [if_neg (nI_ne0 (by omega) (by omega))]
    exact ⟨_, _, Or.inl ⟨Or.inl (nI_lt (a := 0) (by omega) (by omega)), rfl, hg⟩⟩
theorem sim_arrive {c9 : Nat} {v : Nat → Int32} {f : Nat → Nat → Int32} {u : Nat → Int32} {g : Nat → Nat → Int32} (h : SIM c9 v f u g) (hc : c9 + 1 ≤ 512) (a : Int32) (b : Int64) : (S_X8_arrive v f a b).1 = (S_X9_arrive u g a b).1 ∧ SIM (c9 + 1) ((S_X8_arrive v f a b).2.1) ((S_X8_arrive v f a b).2.2) ((S_X9_arrive u g a b).2.1) ((S_X9_arrive u g a b).2.2) := by
  unfold S_X8_arrive S_X9_arrive
  rw [isin_f v u f g]
  by_cases c0 : S_X8_isFrame v f a = 0
  · rw [if_pos c0, if_pos c0]
    exact ⟨rfl, h.up hc⟩
  rw [if_neg c0, if_neg c0]
  obtain ⟨z, hz1, hz, rfl⟩ := isf c0
  obtain ⟨nn, hn, rfl⟩ := wb_of b
  unfold S_X1_frameComes
  rcases tf_1 h with ⟨z0, hX⟩ | ⟨z0, ⟨u', hs, z2, v', hX, hS⟩ | ⟨hs, z2, hX⟩ | ⟨hs, z2, v', f', u', g', ht, hX, hS⟩ | ⟨hs, z2, v', f', u', g', r, w, n, m, hd, ht, hX, hS, hC, h34, h3, hh, zg⟩⟩
  · rw [if_pos z0, hX]
    dsimp only
    rw [if_neg (show ¬ (0 : Int32) ≤ -4 by decide)]
    exact ⟨rfl, h.up hc⟩
  · rw [if_neg z0, hs, hX]
    dsimp only
    rw [if_pos z2, if_neg (show ¬ (0 : Int32) ≤ -5 by decide)]
    exact ⟨rfl, hS.up hc⟩
  · rw [if_neg z0, hs, hX]
    dsimp only
    rw [if_neg z2, if_pos rfl, if_pos (show (0 : Int32) ≤ 0 by decide), if_neg (show ¬ (0 : Int32) = 1 by decide)]
    exact ⟨rfl, (h.drop (by rw [h.1.2.2.2.1])).up hc⟩
  · have e1 : Q_X9_arrive_1 u g (nI z) (lN nn) = 0 := by unfold Q_X9_arrive_1; rw [hs]; dsimp only; rw [ht]
    have e2 : Q_X9_arrive_2 u g (nI z) (lN nn) = u' := by unfold Q_X9_arrive_2; rw [hs]; dsimp only; rw [ht]
    have e3 : Q_X9_arrive_3 u g (nI z) (lN nn) = g' := by unfold Q_X9_arrive_3; rw [hs]; dsimp only; rw [ht]
    rw [if_neg z0, hs, hX, e1, e2, e3]
    dsimp only
    rw [if_neg z2, if_neg (show ¬ (1 : Int32) = 0 by decide), if_pos rfl, if_neg (show ¬ (0 : Int32) ≤ -5 by decide)]
    exact ⟨rfl, hS.up hc⟩
  · have e1 : Q_X9_arrive_1 u g (nI z) (lN nn) = 1 := by unfold Q_X9_arrive_1; rw [hs]; dsimp only; rw [ht]
    have e2 : Q_X9_arrive_2 u g (nI z) (lN nn) = u' := by unfold Q_X9_arrive_2; rw [hs]; dsimp only; rw [ht]
    have e3 : Q_X9_arrive_3 u g (nI z) (lN nn) = g' := by unfold Q_X9_arrive_3; rw [hs]; dsimp only; rw [ht]
    have d1 : Q_X1_frameComes_1 v f (nI z) (lN nn) = (S_X1_deliver v' f' (nI z) (lN nn)).1 := by unfold Q_X1_frameComes_1; rw [hX]
    have d2 : Q_X1_frameComes_2 v f (nI z) (lN nn) = (S_X1_deliver v' f' (nI z) (lN nn)).2.1 := by unfold Q_X1_frameComes_2; rw [hX]
    have d3 : Q_X1_frameComes_3 v f (nI z) (lN nn) = (S_X1_deliver v' f' (nI z) (lN nn)).2.2 := by unfold Q_X1_frameComes_3; rw [hX]
    have e4 : Q_X9_arrive_4 u g (nI z) (lN nn) = S_X9_give u' g' 0 1 := by unfold Q_X9_arrive_4; rw [e2, e3]
    have e5 : Q_X9_arrive_5 u g (nI z) (lN nn) = S_X9_give u' (L_X9_arrive u g (nI z) (lN nn) (12 + nI z).toNatClampNeg) (12 + nI z) 1 := by unfold Q_X9_arrive_5; rw [e2]
    obtain ⟨v2, f2, hD⟩ := dl_sim hS hC hz hn e2 e3 h34 h3 hh zg
    rw [if_neg z0, hs, hX, e1, e2, e4, e5, d1, d2, d3]
    dsimp only
    rw [if_neg z2, if_neg (show ¬ (1 : Int32) = 0 by decide), if_neg (show ¬ (1 : Int32) = 0 by decide), if_pos (show (0 : Int32) ≤ 1 by decide), if_pos rfl]
    rcases hD with ⟨hk, x1, x2⟩ | ⟨hk, x1, x2⟩
    · rw [x1]
      dsimp only
      rw [if_pos rfl]
      have hS3 := (x2.drop (x := v2 3 + 1) (y := u' 11 + 1) (by rw [x2.1.2.2.2.1])).up hc
      rcases hk with k1 | ⟨k1, k2⟩
      · rw [if_pos k1]
        exact ⟨rfl, hS3⟩
      · rw [if_neg k1, if_neg k2]
        exact ⟨rfl, hS3⟩
    · rw [x1, if_neg hk.1, if_pos hk.2]
      dsimp only
      rw [if_neg (show ¬ (1 : Int32) = 0 by decide)]
      exact ⟨rfl, (x2.came (x := v2 2 + 1) (y := u' 10 + 1) (by rw [x2.1.2.2.1])).up hc⟩
