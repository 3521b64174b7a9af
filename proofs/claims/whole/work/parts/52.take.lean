theorem CH.cg {r w n m : Nat} {v v' : Nat → Int32} {f f' : Nat → Nat → Int32} {u u' : Nat → Int32} {g g' : Nat → Nat → Int32} (h : CH r w n m v f u g) (a1 : v' 28 = v 28) (a2 : v' 29 = v 29) (a3 : v' 33 = v 33) (a4 : v' 35 = v 35) (a5 : v' 36 = v 36) (b1 : f' 8 = f 8) (b2 : f' 9 = f 9) (c1 : u' 4 = u 4) (c2 : u' 5 = u 5) (c3 : u' 6 = u 6) (c4 : u' 7 = u 7) (d1 : g' 32 = g 32) (d2 : g' 33 = g 33) (d3 : g' 34 = g 34) (d4 : g' 35 = g 35) : CH r w n m v' f' u' g' := by
  unfold CH
  rw [a1, a2, a3, a4, a5, b1, b2, c1, c2, c3, c4, d1, d2, d3, d4]
  exact h
/-- how the taking of a chain ends on both sides -/
def TF (c : Nat) (v : Nat → Int32) (f : Nat → Nat → Int32) (u : Nat → Int32) (g : Nat → Nat → Int32) (q : Nat) (X : Int32 × (Nat → Int32) × (Nat → Nat → Int32)) : Prop :=
  (u 0 = 0 ∧ X = (-4, v, f)) ∨ (¬ u 0 = 0 ∧ ((∃ u' : Nat → Int32, S_X9_hasSomething u g q = (0, u') ∧ u' 0 = 2 ∧ ∃ v' : Nat → Int32, X = (-5, v', f) ∧ SIM c v' f u' g) ∨ (S_X9_hasSomething u g q = (0, u) ∧ ¬ u 0 = 2 ∧ X = (0, v, f)) ∨ (S_X9_hasSomething u g q = (1, u) ∧ ¬ u 0 = 2 ∧ ∃ (v' : Nat → Int32) (f' : Nat → Nat → Int32) (u' : Nat → Int32) (g' : Nat → Nat → Int32), S_X9_take u g q = (0, u', g') ∧ X = (-5, v', f') ∧ SIM c v' f' u' g') ∨ (S_X9_hasSomething u g q = (1, u) ∧ ¬ u 0 = 2 ∧ ∃ (v' : Nat → Int32) (f' : Nat → Nat → Int32) (u' : Nat → Int32) (g' : Nat → Nat → Int32) (r w n m hd : Nat), S_X9_take u g q = (1, u', g') ∧ X = (1, v', f') ∧ SIM c v' f' u' g' ∧ CH r w n m v' f' u' g' ∧ v' 34 = nI hd ∧ u' 3 = nI hd ∧ hd < 65536 ∧ ¬ g' 25 q = 0)))
theorem tf_0 {c : Nat} {v : Nat → Int32} {f : Nat → Nat → Int32} {u : Nat → Int32} {g : Nat → Nat → Int32} (h : SIM c v f u g) : TF c v f u g 0 (S_X1_takeFrom_4 v f) := by
  have hN := h.1
  obtain ⟨n0, n1, -, -, -, -, n00, n01, -⟩ := hN
  have hR := h.2.2.2.1 0 (by decide)
  obtain ⟨r4, r5, r6, r7, r8, r9, r10, r11⟩ := hR
  change v 4 = _ at r4
  change v 5 = _ at r5
  change v 6 = _ at r6
  change v 7 = _ at r7
  change v 9 = _ at r9
  unfold S_X1_takeFrom_4 Q_X1_takeFrom_4_1 S_X8_oneMore
  rw [n0]
  by_cases z0 : u 0 = 0
  · rw [if_neg (show ¬ u 0 = 1 by rw [z0]; decide), if_pos z0]
    exact Or.inl ⟨z0, rfl⟩
  refine Or.inr ⟨z0, ?_⟩
  by_cases z1 : u 0 = 1
  · rw [if_pos z1]
    have z2 : ¬ u 0 = 2 := by rw [z1]; decide
    unfold S_X6_waiting_4 S_X9_hasSomething
    rw [if_pos z1, r4]
    by_cases zg : g 25 0 = 0
    · rw [if_pos zg, if_pos zg, if_pos rfl, if_pos rfl]
      exact Or.inr (Or.inl ⟨rfl, z2, rfl⟩)
    · rw [if_neg zg, if_neg zg, if_neg (show ¬ (1 : Int32) = 0 by decide), r7, r9, r5]
      obtain ⟨nn, t, e25, k1, k2, e29, ht, ⟨B, eB, hB⟩, ⟨av, eav, hav⟩⟩ := h.minv.tq (q := 0) (by decide) zg
      have e2 : g 27 0 + 2 = nI (av + 2) := by rw [eav]; exact nI_add av 2
      have cI : S_X5_two v f (g 27 0 + 2) = nI (nb (g 23) (av + 2) 2) := by rw [e2, two_C _ _ _ (by omega), nb_cg (fun j hj => h.mem _ (by omega))]
      have mI : S_X9_number u g (g 27 0 + 2) 2 = lN (nb (g 23) (av + 2) 2) := by rw [e2, num_M _ _ _ _ (by omega) (by decide)]
      rw [cI, mI, lN_i]
      obtain ⟨wt, hwt, ewt⟩ := pk_andE (nI (nb (g 23) (av + 2) 2) - g 29 0) (m := 65535) 16 rfl
      rw [ewt, e25]
      by_cases y0 : wt = 0
      · rw [y0, if_pos (show nI 0 = 0 from rfl), if_pos (nI_le (by omega) (by omega)), if_pos (show nI 0 ≤ 0 by decide)]
        exact Or.inr (Or.inl ⟨rfl, z2, rfl⟩)
      · rw [if_neg (nI_ne0 (by omega) (by omega))]
        by_cases y1 : nn < wt
        · rw [if_pos (nI_lt y1 (by omega)), if_neg (nI_ge y1 (by omega))]
          exact Or.inl ⟨_, rfl, pk_us, _, rfl, h.st 2 (Or.inr (Or.inr rfl))⟩
        · rw [if_neg (nI_nlt (by omega) (by omega)), if_pos (nI_le (by omega) (by omega)), if_neg (nI_nle (by omega) (by omega))]
          refine Or.inr (Or.inr ?_)
          unfold S_X0_gather_4 S_X9_take
          rw [gg_4]
          have e5 : ∀ x : Int32, (upd (S_X0_forget v f) 34 x) 5 = nI nn := fun x => by unfold S_X0_forget; simp (disch := omega) only [pk_un]; rw [r5, e25]
          have e6 : ∀ x : Int32, (upd (S_X0_forget v f) 34 x) 6 = nI B := fun x => by unfold S_X0_forget; simp (disch := omega) only [pk_un]; rw [r6, eB]
          have f5 : (S_X0_forget v f) 5 = nI nn := by unfold S_X0_forget; simp (disch := omega) only [pk_un]; rw [r5, e25]
          have f7 : (S_X0_forget v f) 7 = nI av := by unfold S_X0_forget; simp (disch := omega) only [pk_un]; rw [r7, eav]
          have f9 : (S_X0_forget v f) 9 = nI t := by unfold S_X0_forget; simp (disch := omega) only [pk_un]; rw [r9, e29]
          have eH : nI av + 4 + 2 * nI (t % nn) = nI (av + 4 + 2 * (t % nn)) := by rw [show (4 : Int32) = nI 4 from rfl, show (2 : Int32) = nI 2 from rfl, pk_mul, nI_add, nI_add]
          have hlt : t % nn < nn := Nat.mod_lt _ (by omega)
          have cH : S_X6_nextHead_4 (S_X0_forget v f) f = nI (nb (g 23) (av + 4 + 2 * (t % nn)) 2) := by
            unfold S_X6_nextHead_4 Q_X6_nextHead_4_1 S_X6_placeOf_4
            rw [f5, f7, f9, if_neg (nI_nle (by omega) (by omega)), pk_rem (by omega) (by omega) (by omega), eH, two_C _ _ _ (by omega), nb_cg (fun j hj => h.mem _ (by omega))]
          have mH : Q_X9_take_1 u g 0 = lN (nb (g 23) (av + 4 + 2 * (t % nn)) 2) := by
            unfold Q_X9_take_1
            rw [eav, e29, e25, pk_rem (by omega) (by omega) (by omega), eH, num_M _ _ _ _ (by omega) (by decide)]
          have hH : nb (g 23) (av + 4 + 2 * (t % nn)) 2 < 65536 := nb_lt _ _ 2
          generalize nb (g 23) (av + 4 + 2 * (t % nn)) 2 = hd at *
          rw [cH, mH, lN_i, e5, e6, eB, e25]
          have hXv : ∀ j : Nat, (j < 28 ∨ 36 < j) → (upd (S_X0_forget v f) 34 (nI hd)) j = v j := fun j hj => by unfold S_X0_forget; simp (disch := omega) only [pk_un]
          have hX34 : (upd (S_X0_forget v f) 34 (nI hd)) 34 = nI hd := pk_us
          have hUu : ∀ j : Nat, (j < 3 ∨ 8 < j) → (upd (upd (upd (upd (upd (upd u 4 0) 5 0) 6 0) 7 0) 3 (nI hd)) 8 0) j = u j := fun j hj => by simp (disch := omega) only [pk_un]
          have hU3 : (upd (upd (upd (upd (upd (upd u 4 0) 5 0) 6 0) 7 0) 3 (nI hd)) 8 0) 3 = nI hd := by simp (disch := omega) only [pk_un, pk_us]
          have hU8 : (upd (upd (upd (upd (upd (upd u 4 0) 5 0) 6 0) 7 0) 3 (nI hd)) 8 0) 8 = 0 := pk_us
          have hCH : CH 0 0 0 0 (upd (S_X0_forget v f) 34 (nI hd)) f (upd (upd (upd (upd (upd (upd u 4 0) 5 0) 6 0) 7 0) 3 (nI hd)) 8 0) g := by
            refine ⟨by decide, ⟨?_, ?_, ?_, ?_⟩, ⟨?_, ?_, ?_, ?_⟩, rfl, rfl, fun j hj => by omega, fun j hj => by omega, fun q => by omega⟩
            · unfold S_X0_forget; simp (disch := omega) only [pk_un, pk_us]; rfl
            · unfold S_X0_forget; simp (disch := omega) only [pk_un, pk_us]; rfl
            · unfold S_X0_forget; simp (disch := omega) only [pk_un, pk_us]; rfl
            · unfold S_X0_forget; simp (disch := omega) only [pk_un, pk_us]; rfl
            · simp (disch := omega) only [pk_un, pk_us]; rfl
            · simp (disch := omega) only [pk_un, pk_us]; rfl
            · simp (disch := omega) only [pk_un, pk_us]; rfl
            · simp (disch := omega) only [pk_un, pk_us]; rfl
          generalize upd (S_X0_forget v f) 34 (nI hd) = X at *
          generalize upd (upd (upd (upd (upd (upd u 4 0) 5 0) 6 0) 7 0) 3 (nI hd)) 8 0 = U at *
          have hO := lock (v 1) u g 0 18 37 0 0 0 0 0 0 hd B nn 0 0 X f U g hCH rfl (by decide) ⟨fun _ => rfl, fun _ => rfl⟩ h.mem hU8 (by rw [hUu 1 (by decide), n1]) hH (by omega) ⟨fun _ => rfl, fun _ => rfl⟩ (by decide) (by decide)
          rw [show (0 : Nat) + 0 = 0 from rfl] at hO
          rcases hO with ⟨v', f', u', g', o1, o2, o3, o4⟩ | ⟨v', f', u', g', r, w, n, m, o1, o2, o3, o4, o5⟩
          · left
            have hS : SIM c v' f' u' g' := h.fr (fun j hj => (o3.1 j (by omega) (by omega) (by omega) (by omega) (by omega)).trans (hXv j hj)) (fun j hj => (o4.1 j (by omega) (by omega) (by omega) (by omega) (by omega)).trans (hUu j hj)) (fun j q1 q2 q3 q4 => o3.2 j q2 q3) (fun j q1 q2 q3 => o4.2 j (by omega) (by omega) (by omega) (by omega)) (by rw [o3.2 2 (by decide) (by decide), o4.2 23 (by decide) (by decide) (by decide) (by decide)]; exact h.mem) (by rw [o3.2 11 (by decide) (by decide), o4.2 24 (by decide) (by decide) (by decide) (by decide)]; exact h.dsk)
            rw [o1, o2]
            dsimp only
            rw [if_pos rfl]
            exact ⟨rfl, z2, _, _, _, _, rfl, rfl, hS.st 2 (Or.inr (Or.inr rfl))⟩
          · right
            have hS : SIM c v' f' u' g' := h.fr (fun j hj => (o3.1 j (by omega) (by omega) (by omega) (by omega) (by omega)).trans (hXv j hj)) (fun j hj => (o4.1 j (by omega) (by omega) (by omega) (by omega) (by omega)).trans (hUu j hj)) (fun j q1 q2 q3 q4 => o3.2 j q2 q3) (fun j q1 q2 q3 => o4.2 j (by omega) (by omega) (by omega) (by omega)) (by rw [o3.2 2 (by decide) (by decide), o4.2 23 (by decide) (by decide) (by decide) (by decide)]; exact h.mem) (by rw [o3.2 11 (by decide) (by decide), o4.2 24 (by decide) (by decide) (by decide) (by decide)]; exact h.dsk)
            have hx : (v' 9 + 1) &&& 65535 = (g' 29 0 + 1) &&& 65535 := by rw [o3.1 9 (by decide) (by decide) (by decide) (by decide) (by decide), hXv 9 (by decide), r9, o4.2 29 (by decide) (by decide) (by decide) (by decide)]
            obtain ⟨t2, ht2, et2⟩ := pk_andE (g' 29 0 + 1) (m := 65535) 16 rfl
            have hS2 := hS.taken 0 hx (by decide) ⟨t2, et2, ht2⟩
            rw [o1, o2]
            dsimp only
            rw [if_neg (show ¬ (1 : Int32) = 0 by decide)]
            refine ⟨rfl, z2, _, _, _, _, r, w, n, m, hd, rfl, rfl, hS2, ?_, ?_, ?_, hH, ?_⟩
            · exact o5.cg (pk_un (by decide)) (pk_un (by decide)) (pk_un (by decide)) (pk_un (by decide)) (pk_un (by decide)) rfl rfl rfl rfl rfl rfl (va_up_ne _ _ (by decide)) (va_up_ne _ _ (by decide)) (va_up_ne _ _ (by decide)) (va_up_ne _ _ (by decide))
            · rw [pk_un (by decide), o3.1 34 (by decide) (by decide) (by decide) (by decide) (by decide), hX34]
            · rw [o4.1 3 (by decide) (by decide) (by decide) (by decide) (by decide), hU3]
            · rw [va_up_ne _ _ (by decide), o4.2 25 (by decide) (by decide) (by decide) (by decide)]; exact zg
  · have z2 : u 0 = 2 := by
      rcases n00 with x | x | x
      · exact absurd x z0
      · exact absurd x z1
      · exact x
    rw [if_neg z1, if_neg z0]
    have hs : S_X9_hasSomething u g 0 = (0, u) := by unfold S_X9_hasSomething; rw [if_neg z1]
    exact Or.inl ⟨u, hs, z2, v, rfl, h⟩
theorem tf_1 {c : Nat} {v : Nat → Int32} {f : Nat → Nat → Int32} {u : Nat → Int32} {g : Nat → Nat → Int32} (h : SIM c v f u g) : TF c v f u g 1 (S_X1_takeFrom_5 v f) := by
  have hN := h.1
  obtain ⟨n0, n1, -, -, -, -, n00, n01, -⟩ := hN
  have hR := h.2.2.2.1 1 (by decide)
  obtain ⟨r4, r5, r6, r7, r8, r9, r10, r11⟩ := hR
  change v 12 = _ at r4
  change v 13 = _ at r5
  change v 14 = _ at r6
  change v 15 = _ at r7
  change v 17 = _ at r9
  unfold S_X1_takeFrom_5 Q_X1_takeFrom_5_1 S_X8_oneMore
  rw [n0]
  by_cases z0 : u 0 = 0
  · rw [if_neg (show ¬ u 0 = 1 by rw [z0]; decide), if_pos z0]
    exact Or.inl ⟨z0, rfl⟩
  refine Or.inr ⟨z0, ?_⟩
  by_cases z1 : u 0 = 1
  · rw [if_pos z1]
    have z2 : ¬ u 0 = 2 := by rw [z1]; decide
    unfold S_X6_waiting_5 S_X9_hasSomething
    rw [if_pos z1, r4]
    by_cases zg : g 25 1 = 0
    · rw [if_pos zg, if_pos zg, if_pos rfl, if_pos rfl]
      exact Or.inr (Or.inl ⟨rfl, z2, rfl⟩)
    · rw [if_neg zg, if_neg zg, if_neg (show ¬ (1 : Int32) = 0 by decide), r7, r9, r5]
      obtain ⟨nn, t, e25, k1, k2, e29, ht, ⟨B, eB, hB⟩, ⟨av, eav, hav⟩⟩ := h.minv.tq (q := 1) (by decide) zg
      have e2 : g 27 1 + 2 = nI (av + 2) := by rw [eav]; exact nI_add av 2
      have cI : S_X5_two v f (g 27 1 + 2) = nI (nb (g 23) (av + 2) 2) := by rw [e2, two_C _ _ _ (by omega), nb_cg (fun j hj => h.mem _ (by omega))]
      have mI : S_X9_number u g (g 27 1 + 2) 2 = lN (nb (g 23) (av + 2) 2) := by rw [e2, num_M _ _ _ _ (by omega) (by decide)]
      rw [cI, mI, lN_i]
      obtain ⟨wt, hwt, ewt⟩ := pk_andE (nI (nb (g 23) (av + 2) 2) - g 29 1) (m := 65535) 16 rfl
      rw [ewt, e25]
      by_cases y0 : wt = 0
      · rw [y0, if_pos (show nI 0 = 0 from rfl), if_pos (nI_le (by omega) (by omega)), if_pos (show nI 0 ≤ 0 by decide)]
        exact Or.inr (Or.inl ⟨rfl, z2, rfl⟩)
      · rw [if_neg (nI_ne0 (by omega) (by omega))]
        by_cases y1 : nn < wt
        · rw [if_pos (nI_lt y1 (by omega)), if_neg (nI_ge y1 (by omega))]
          exact Or.inl ⟨_, rfl, pk_us, _, rfl, h.st 2 (Or.inr (Or.inr rfl))⟩
        · rw [if_neg (nI_nlt (by omega) (by omega)), if_pos (nI_le (by omega) (by omega)), if_neg (nI_nle (by omega) (by omega))]
          refine Or.inr (Or.inr ?_)
          unfold S_X0_gather_5 S_X9_take
          rw [gg_5]
          have e5 : ∀ x : Int32, (upd (S_X0_forget v f) 34 x) 13 = nI nn := fun x => by unfold S_X0_forget; simp (disch := omega) only [pk_un]; rw [r5, e25]
          have e6 : ∀ x : Int32, (upd (S_X0_forget v f) 34 x) 14 = nI B := fun x => by unfold S_X0_forget; simp (disch := omega) only [pk_un]; rw [r6, eB]
          have f5 : (S_X0_forget v f) 13 = nI nn := by unfold S_X0_forget; simp (disch := omega) only [pk_un]; rw [r5, e25]
          have f7 : (S_X0_forget v f) 15 = nI av := by unfold S_X0_forget; simp (disch := omega) only [pk_un]; rw [r7, eav]
          have f9 : (S_X0_forget v f) 17 = nI t := by unfold S_X0_forget; simp (disch := omega) only [pk_un]; rw [r9, e29]
          have eH : nI av + 4 + 2 * nI (t % nn) = nI (av + 4 + 2 * (t % nn)) := by rw [show (4 : Int32) = nI 4 from rfl, show (2 : Int32) = nI 2 from rfl, pk_mul, nI_add, nI_add]
          have hlt : t % nn < nn := Nat.mod_lt _ (by omega)
          have cH : S_X6_nextHead_5 (S_X0_forget v f) f = nI (nb (g 23) (av + 4 + 2 * (t % nn)) 2) := by
            unfold S_X6_nextHead_5 Q_X6_nextHead_5_1 S_X6_placeOf_5
            rw [f5, f7, f9, if_neg (nI_nle (by omega) (by omega)), pk_rem (by omega) (by omega) (by omega), eH, two_C _ _ _ (by omega), nb_cg (fun j hj => h.mem _ (by omega))]
          have mH : Q_X9_take_1 u g 1 = lN (nb (g 23) (av + 4 + 2 * (t % nn)) 2) := by
            unfold Q_X9_take_1
            rw [eav, e29, e25, pk_rem (by omega) (by omega) (by omega), eH, num_M _ _ _ _ (by omega) (by decide)]
          have hH : nb (g 23) (av + 4 + 2 * (t % nn)) 2 < 65536 := nb_lt _ _ 2
          generalize nb (g 23) (av + 4 + 2 * (t % nn)) 2 = hd at *
          rw [cH, mH, lN_i, e5, e6, eB, e25]
          have hXv : ∀ j : Nat, (j < 28 ∨ 36 < j) → (upd (S_X0_forget v f) 34 (nI hd)) j = v j := fun j hj => by unfold S_X0_forget; simp (disch := omega) only [pk_un]
          have hX34 : (upd (S_X0_forget v f) 34 (nI hd)) 34 = nI hd := pk_us
          have hUu : ∀ j : Nat, (j < 3 ∨ 8 < j) → (upd (upd (upd (upd (upd (upd u 4 0) 5 0) 6 0) 7 0) 3 (nI hd)) 8 0) j = u j := fun j hj => by simp (disch := omega) only [pk_un]
          have hU3 : (upd (upd (upd (upd (upd (upd u 4 0) 5 0) 6 0) 7 0) 3 (nI hd)) 8 0) 3 = nI hd := by simp (disch := omega) only [pk_un, pk_us]
          have hU8 : (upd (upd (upd (upd (upd (upd u 4 0) 5 0) 6 0) 7 0) 3 (nI hd)) 8 0) 8 = 0 := pk_us
          have hCH : CH 0 0 0 0 (upd (S_X0_forget v f) 34 (nI hd)) f (upd (upd (upd (upd (upd (upd u 4 0) 5 0) 6 0) 7 0) 3 (nI hd)) 8 0) g := by
            refine ⟨by decide, ⟨?_, ?_, ?_, ?_⟩, ⟨?_, ?_, ?_, ?_⟩, rfl, rfl, fun j hj => by omega, fun j hj => by omega, fun q => by omega⟩
            · unfold S_X0_forget; simp (disch := omega) only [pk_un, pk_us]; rfl
            · unfold S_X0_forget; simp (disch := omega) only [pk_un, pk_us]; rfl
            · unfold S_X0_forget; simp (disch := omega) only [pk_un, pk_us]; rfl
            · unfold S_X0_forget; simp (disch := omega) only [pk_un, pk_us]; rfl
            · simp (disch := omega) only [pk_un, pk_us]; rfl
            · simp (disch := omega) only [pk_un, pk_us]; rfl
            · simp (disch := omega) only [pk_un, pk_us]; rfl
            · simp (disch := omega) only [pk_un, pk_us]; rfl
          generalize upd (S_X0_forget v f) 34 (nI hd) = X at *
          generalize upd (upd (upd (upd (upd (upd u 4 0) 5 0) 6 0) 7 0) 3 (nI hd)) 8 0 = U at *
          have hO := lock (v 1) u g 1 18 37 0 0 0 0 0 0 hd B nn 0 0 X f U g hCH rfl (by decide) ⟨fun _ => rfl, fun _ => rfl⟩ h.mem hU8 (by rw [hUu 1 (by decide), n1]) hH (by omega) ⟨fun _ => rfl, fun _ => rfl⟩ (by decide) (by decide)
          rw [show (0 : Nat) + 0 = 0 from rfl] at hO
          rcases hO with ⟨v', f', u', g', o1, o2, o3, o4⟩ | ⟨v', f', u', g', r, w, n, m, o1, o2, o3, o4, o5⟩
          · left
            have hS : SIM c v' f' u' g' := h.fr (fun j hj => (o3.1 j (by omega) (by omega) (by omega) (by omega) (by omega)).trans (hXv j hj)) (fun j hj => (o4.1 j (by omega) (by omega) (by omega) (by omega) (by omega)).trans (hUu j hj)) (fun j q1 q2 q3 q4 => o3.2 j q2 q3) (fun j q1 q2 q3 => o4.2 j (by omega) (by omega) (by omega) (by omega)) (by rw [o3.2 2 (by decide) (by decide), o4.2 23 (by decide) (by decide) (by decide) (by decide)]; exact h.mem) (by rw [o3.2 11 (by decide) (by decide), o4.2 24 (by decide) (by decide) (by decide) (by decide)]; exact h.dsk)
            rw [o1, o2]
            dsimp only
            rw [if_pos rfl]
            exact ⟨rfl, z2, _, _, _, _, rfl, rfl, hS.st 2 (Or.inr (Or.inr rfl))⟩
          · right
            have hS : SIM c v' f' u' g' := h.fr (fun j hj => (o3.1 j (by omega) (by omega) (by omega) (by omega) (by omega)).trans (hXv j hj)) (fun j hj => (o4.1 j (by omega) (by omega) (by omega) (by omega) (by omega)).trans (hUu j hj)) (fun j q1 q2 q3 q4 => o3.2 j q2 q3) (fun j q1 q2 q3 => o4.2 j (by omega) (by omega) (by omega) (by omega)) (by rw [o3.2 2 (by decide) (by decide), o4.2 23 (by decide) (by decide) (by decide) (by decide)]; exact h.mem) (by rw [o3.2 11 (by decide) (by decide), o4.2 24 (by decide) (by decide) (by decide) (by decide)]; exact h.dsk)
            have hx : (v' 17 + 1) &&& 65535 = (g' 29 1 + 1) &&& 65535 := by rw [o3.1 17 (by decide) (by decide) (by decide) (by decide) (by decide), hXv 17 (by decide), r9, o4.2 29 (by decide) (by decide) (by decide) (by decide)]
            obtain ⟨t2, ht2, et2⟩ := pk_andE (g' 29 1 + 1) (m := 65535) 16 rfl
            have hS2 := hS.taken 1 hx (by decide) ⟨t2, et2, ht2⟩
            rw [o1, o2]
            dsimp only
            rw [if_neg (show ¬ (1 : Int32) = 0 by decide)]
            refine ⟨rfl, z2, _, _, _, _, r, w, n, m, hd, rfl, rfl, hS2, ?_, ?_, ?_, hH, ?_⟩
            · exact o5.cg (pk_un (by decide)) (pk_un (by decide)) (pk_un (by decide)) (pk_un (by decide)) (pk_un (by decide)) rfl rfl rfl rfl rfl rfl (va_up_ne _ _ (by decide)) (va_up_ne _ _ (by decide)) (va_up_ne _ _ (by decide)) (va_up_ne _ _ (by decide))
            · rw [pk_un (by decide), o3.1 34 (by decide) (by decide) (by decide) (by decide) (by decide), hX34]
            · rw [o4.1 3 (by decide) (by decide) (by decide) (by decide) (by decide), hU3]
            · rw [va_up_ne _ _ (by decide), o4.2 25 (by decide) (by decide) (by decide) (by decide)]; exact zg
  · have z2 : u 0 = 2 := by
      rcases n00 with x | x | x
      · exact absurd x z0
      · exact absurd x z1
      · exact x
    rw [if_neg z1, if_neg z0]
    have hs : S_X9_hasSomething u g 1 = (0, u) := by unfold S_X9_hasSomething; rw [if_neg z1]
    exact Or.inl ⟨u, hs, z2, v, rfl, h⟩
theorem tf_2 {c : Nat} {v : Nat → Int32} {f : Nat → Nat → Int32} {u : Nat → Int32} {g : Nat → Nat → Int32} (h : SIM c v f u g) : TF c v f u g 2 (S_X1_takeFrom_6 v f) := by
  have hN := h.1
  obtain ⟨n0, n1, -, -, -, -, n00, n01, -⟩ := hN
  have hR := h.2.2.2.1 2 (by decide)
  obtain ⟨r4, r5, r6, r7, r8, r9, r10, r11⟩ := hR
  change v 20 = _ at r4
  change v 21 = _ at r5
  change v 22 = _ at r6
  change v 23 = _ at r7
  change v 25 = _ at r9
  unfold S_X1_takeFrom_6 Q_X1_takeFrom_6_1 S_X8_oneMore
  rw [n0]
  by_cases z0 : u 0 = 0
  · rw [if_neg (show ¬ u 0 = 1 by rw [z0]; decide), if_pos z0]
    exact Or.inl ⟨z0, rfl⟩
  refine Or.inr ⟨z0, ?_⟩
  by_cases z1 : u 0 = 1
  · rw [if_pos z1]
    have z2 : ¬ u 0 = 2 := by rw [z1]; decide
    unfold S_X6_waiting_6 S_X9_hasSomething
    rw [if_pos z1, r4]
    by_cases zg : g 25 2 = 0
    · rw [if_pos zg, if_pos zg, if_pos rfl, if_pos rfl]
      exact Or.inr (Or.inl ⟨rfl, z2, rfl⟩)
    · rw [if_neg zg, if_neg zg, if_neg (show ¬ (1 : Int32) = 0 by decide), r7, r9, r5]
      obtain ⟨nn, t, e25, k1, k2, e29, ht, ⟨B, eB, hB⟩, ⟨av, eav, hav⟩⟩ := h.minv.tq (q := 2) (by decide) zg
      have e2 : g 27 2 + 2 = nI (av + 2) := by rw [eav]; exact nI_add av 2
      have cI : S_X5_two v f (g 27 2 + 2) = nI (nb (g 23) (av + 2) 2) := by rw [e2, two_C _ _ _ (by omega), nb_cg (fun j hj => h.mem _ (by omega))]
      have mI : S_X9_number u g (g 27 2 + 2) 2 = lN (nb (g 23) (av + 2) 2) := by rw [e2, num_M _ _ _ _ (by omega) (by decide)]
      rw [cI, mI, lN_i]
      obtain ⟨wt, hwt, ewt⟩ := pk_andE (nI (nb (g 23) (av + 2) 2) - g 29 2) (m := 65535) 16 rfl
      rw [ewt, e25]
      by_cases y0 : wt = 0
      · rw [y0, if_pos (show nI 0 = 0 from rfl), if_pos (nI_le (by omega) (by omega)), if_pos (show nI 0 ≤ 0 by decide)]
        exact Or.inr (Or.inl ⟨rfl, z2, rfl⟩)
      · rw [if_neg (nI_ne0 (by omega) (by omega))]
        by_cases y1 : nn < wt
        · rw [if_pos (nI_lt y1 (by omega)), if_neg (nI_ge y1 (by omega))]
          exact Or.inl ⟨_, rfl, pk_us, _, rfl, h.st 2 (Or.inr (Or.inr rfl))⟩
        · rw [if_neg (nI_nlt (by omega) (by omega)), if_pos (nI_le (by omega) (by omega)), if_neg (nI_nle (by omega) (by omega))]
          refine Or.inr (Or.inr ?_)
          unfold S_X0_gather_6 S_X9_take
          rw [gg_6]
          have e5 : ∀ x : Int32, (upd (S_X0_forget v f) 34 x) 21 = nI nn := fun x => by unfold S_X0_forget; simp (disch := omega) only [pk_un]; rw [r5, e25]
          have e6 : ∀ x : Int32, (upd (S_X0_forget v f) 34 x) 22 = nI B := fun x => by unfold S_X0_forget; simp (disch := omega) only [pk_un]; rw [r6, eB]
          have f5 : (S_X0_forget v f) 21 = nI nn := by unfold S_X0_forget; simp (disch := omega) only [pk_un]; rw [r5, e25]
          have f7 : (S_X0_forget v f) 23 = nI av := by unfold S_X0_forget; simp (disch := omega) only [pk_un]; rw [r7, eav]
          have f9 : (S_X0_forget v f) 25 = nI t := by unfold S_X0_forget; simp (disch := omega) only [pk_un]; rw [r9, e29]
          have eH : nI av + 4 + 2 * nI (t % nn) = nI (av + 4 + 2 * (t % nn)) := by rw [show (4 : Int32) = nI 4 from rfl, show (2 : Int32) = nI 2 from rfl, pk_mul, nI_add, nI_add]
          have hlt : t % nn < nn := Nat.mod_lt _ (by omega)
          have cH : S_X6_nextHead_6 (S_X0_forget v f) f = nI (nb (g 23) (av + 4 + 2 * (t % nn)) 2) := by
            unfold S_X6_nextHead_6 Q_X6_nextHead_6_1 S_X6_placeOf_6
            rw [f5, f7, f9, if_neg (nI_nle (by omega) (by omega)), pk_rem (by omega) (by omega) (by omega), eH, two_C _ _ _ (by omega), nb_cg (fun j hj => h.mem _ (by omega))]
          have mH : Q_X9_take_1 u g 2 = lN (nb (g 23) (av + 4 + 2 * (t % nn)) 2) := by
            unfold Q_X9_take_1
            rw [eav, e29, e25, pk_rem (by omega) (by omega) (by omega), eH, num_M _ _ _ _ (by omega) (by decide)]
          have hH : nb (g 23) (av + 4 + 2 * (t % nn)) 2 < 65536 := nb_lt _ _ 2
          generalize nb (g 23) (av + 4 + 2 * (t % nn)) 2 = hd at *
          rw [cH, mH, lN_i, e5, e6, eB, e25]
          have hXv : ∀ j : Nat, (j < 28 ∨ 36 < j) → (upd (S_X0_forget v f) 34 (nI hd)) j = v j := fun j hj => by unfold S_X0_forget; simp (disch := omega) only [pk_un]
          have hX34 : (upd (S_X0_forget v f) 34 (nI hd)) 34 = nI hd := pk_us
          have hUu : ∀ j : Nat, (j < 3 ∨ 8 < j) → (upd (upd (upd (upd (upd (upd u 4 0) 5 0) 6 0) 7 0) 3 (nI hd)) 8 0) j = u j := fun j hj => by simp (disch := omega) only [pk_un]
          have hU3 : (upd (upd (upd (upd (upd (upd u 4 0) 5 0) 6 0) 7 0) 3 (nI hd)) 8 0) 3 = nI hd := by simp (disch := omega) only [pk_un, pk_us]
          have hU8 : (upd (upd (upd (upd (upd (upd u 4 0) 5 0) 6 0) 7 0) 3 (nI hd)) 8 0) 8 = 0 := pk_us
          have hCH : CH 0 0 0 0 (upd (S_X0_forget v f) 34 (nI hd)) f (upd (upd (upd (upd (upd (upd u 4 0) 5 0) 6 0) 7 0) 3 (nI hd)) 8 0) g := by
            refine ⟨by decide, ⟨?_, ?_, ?_, ?_⟩, ⟨?_, ?_, ?_, ?_⟩, rfl, rfl, fun j hj => by omega, fun j hj => by omega, fun q => by omega⟩
            · unfold S_X0_forget; simp (disch := omega) only [pk_un, pk_us]; rfl
            · unfold S_X0_forget; simp (disch := omega) only [pk_un, pk_us]; rfl
            · unfold S_X0_forget; simp (disch := omega) only [pk_un, pk_us]; rfl
            · unfold S_X0_forget; simp (disch := omega) only [pk_un, pk_us]; rfl
            · simp (disch := omega) only [pk_un, pk_us]; rfl
            · simp (disch := omega) only [pk_un, pk_us]; rfl
            · simp (disch := omega) only [pk_un, pk_us]; rfl
            · simp (disch := omega) only [pk_un, pk_us]; rfl
          generalize upd (S_X0_forget v f) 34 (nI hd) = X at *
          generalize upd (upd (upd (upd (upd (upd u 4 0) 5 0) 6 0) 7 0) 3 (nI hd)) 8 0 = U at *
          have hO := lock (v 1) u g 2 18 37 0 0 0 0 0 0 hd B nn 0 0 X f U g hCH rfl (by decide) ⟨fun _ => rfl, fun _ => rfl⟩ h.mem hU8 (by rw [hUu 1 (by decide), n1]) hH (by omega) ⟨fun _ => rfl, fun _ => rfl⟩ (by decide) (by decide)
          rw [show (0 : Nat) + 0 = 0 from rfl] at hO
          rcases hO with ⟨v', f', u', g', o1, o2, o3, o4⟩ | ⟨v', f', u', g', r, w, n, m, o1, o2, o3, o4, o5⟩
          · left
            have hS : SIM c v' f' u' g' := h.fr (fun j hj => (o3.1 j (by omega) (by omega) (by omega) (by omega) (by omega)).trans (hXv j hj)) (fun j hj => (o4.1 j (by omega) (by omega) (by omega) (by omega) (by omega)).trans (hUu j hj)) (fun j q1 q2 q3 q4 => o3.2 j q2 q3) (fun j q1 q2 q3 => o4.2 j (by omega) (by omega) (by omega) (by omega)) (by rw [o3.2 2 (by decide) (by decide), o4.2 23 (by decide) (by decide) (by decide) (by decide)]; exact h.mem) (by rw [o3.2 11 (by decide) (by decide), o4.2 24 (by decide) (by decide) (by decide) (by decide)]; exact h.dsk)
            rw [o1, o2]
            dsimp only
            rw [if_pos rfl]
            exact ⟨rfl, z2, _, _, _, _, rfl, rfl, hS.st 2 (Or.inr (Or.inr rfl))⟩
          · right
            have hS : SIM c v' f' u' g' := h.fr (fun j hj => (o3.1 j (by omega) (by omega) (by omega) (by omega) (by omega)).trans (hXv j hj)) (fun j hj => (o4.1 j (by omega) (by omega) (by omega) (by omega) (by omega)).trans (hUu j hj)) (fun j q1 q2 q3 q4 => o3.2 j q2 q3) (fun j q1 q2 q3 => o4.2 j (by omega) (by omega) (by omega) (by omega)) (by rw [o3.2 2 (by decide) (by decide), o4.2 23 (by decide) (by decide) (by decide) (by decide)]; exact h.mem) (by rw [o3.2 11 (by decide) (by decide), o4.2 24 (by decide) (by decide) (by decide) (by decide)]; exact h.dsk)
            have hx : (v' 25 + 1) &&& 65535 = (g' 29 2 + 1) &&& 65535 := by rw [o3.1 25 (by decide) (by decide) (by decide) (by decide) (by decide), hXv 25 (by decide), r9, o4.2 29 (by decide) (by decide) (by decide) (by decide)]
            obtain ⟨t2, ht2, et2⟩ := pk_andE (g' 29 2 + 1) (m := 65535) 16 rfl
            have hS2 := hS.taken 2 hx (by decide) ⟨t2, et2, ht2⟩
            rw [o1, o2]
            dsimp only
            rw [if_neg (show ¬ (1 : Int32) = 0 by decide)]
            refine ⟨rfl, z2, _, _, _, _, r, w, n, m, hd, rfl, rfl, hS2, ?_, ?_, ?_, hH, ?_⟩
            · exact o5.cg (pk_un (by decide)) (pk_un (by decide)) (pk_un (by decide)) (pk_un (by decide)) (pk_un (by decide)) rfl rfl rfl rfl rfl rfl (va_up_ne _ _ (by decide)) (va_up_ne _ _ (by decide)) (va_up_ne _ _ (by decide)) (va_up_ne _ _ (by decide))
            · rw [pk_un (by decide), o3.1 34 (by decide) (by decide) (by decide) (by decide) (by decide), hX34]
            · rw [o4.1 3 (by decide) (by decide) (by decide) (by decide) (by decide), hU3]
            · rw [va_up_ne _ _ (by decide), o4.2 25 (by decide) (by decide) (by decide) (by decide)]; exact zg
  · have z2 : u 0 = 2 := by
      rcases n00 with x | x | x
      · exact absurd x z0
      · exact absurd x z1
      · exact x
    rw [if_neg z1, if_neg z0]
    have hs : S_X9_hasSomething u g 2 = (0, u) := by unfold S_X9_hasSomething; rw [if_neg z1]
    exact Or.inl ⟨u, hs, z2, v, rfl, h⟩
