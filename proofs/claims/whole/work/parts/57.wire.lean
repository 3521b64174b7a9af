/-- a FRAME went out, on both sides -/
theorem SIM.went {c N : Nat} {v v' : Nat → Int32} {f f' : Nat → Nat → Int32} {u u' : Nat → Int32} {g g' : Nat → Nat → Int32} (h : SIM c v f u g) (hc : c + 1 ≤ 512) (hN : u 9 = nI N) (hNc : N ≤ c) (hv : ∀ j : Nat, (j < 28 ∨ 36 < j) → j ≠ 37 → j ≠ 38 → v' j = v j) (hu : ∀ j : Nat, j ≠ 9 → u' j = u j) (hf : ∀ j : Nat, j ≠ 13 → j ≠ 14 → f' j = f j) (hg : ∀ j : Nat, j ≠ 36 → j ≠ 37 → g' j = g j) (h37 : v' 37 = nI ((N + 1) % 16)) (h38 : v' 38 = nI (N + 1)) (h9 : u' 9 = nI (N + 1)) (hz : ∀ s : Nat, s < 16 → N + 1 ≤ s → g' 37 s = 0) (hw : ∀ s : Nat, s < 16 → f' 14 ((s + 1) % 16) = g' 37 s ∧ ∀ k : Nat, k < 80 → f' 13 (80 * ((s + 1) % 16) + k) = g' 36 (80 * s + k)) (hl : ∀ j : Nat, j < 16 → 0 ≤ ((g' 37) j).toInt ∧ ((g' 37) j).toInt ≤ 80) : SIM (c + 1) v' f' u' g' := by
  obtain ⟨⟨a1, a2, a3, a4, a5, a6, a7, a8, a9, a10⟩, b1, b2, h4, h5, h6, h7, h8⟩ := h
  have k23 := hg 23 (by decide) (by decide)
  have k24 := hg 24 (by decide) (by decide)
  have k25 := hg 25 (by decide) (by decide)
  have k26 := hg 26 (by decide) (by decide)
  have k27 := hg 27 (by decide) (by decide)
  have k28 := hg 28 (by decide) (by decide)
  have k29 := hg 29 (by decide) (by decide)
  have k30 := hg 30 (by decide) (by decide)
  have k31 := hg 31 (by decide) (by decide)
  have k38 := hg 38 (by decide) (by decide)
  have k39 := hg 39 (by decide) (by decide)
  have k40 := hg 40 (by decide) (by decide)
  have k41 := hg 41 (by decide) (by decide)
  have k42 := hg 42 (by decide) (by decide)
  have j0 := hu 0 (by decide)
  have j1 := hu 1 (by decide)
  have j2 := hu 2 (by decide)
  have j10 := hu 10 (by decide)
  have j11 := hu 11 (by decide)
  refine ⟨?_, ?_, ?_, ?_, ⟨⟨N + 1, h9, by omega, h37, hz⟩, hw⟩, ?_, ?_, hc⟩
  · unfold NUMS
    rw [hv 0 (by decide) (by decide) (by decide), hv 1 (by decide) (by decide) (by decide), hv 2 (by decide) (by decide) (by decide), hv 3 (by decide) (by decide) (by decide), h38, h9, hv 40 (by decide) (by decide) (by decide), hv 39 (by decide) (by decide) (by decide), j0, j1, j2, j10, j11]
    exact ⟨a1, a2, a3, a4, rfl, a6, a7, a8, a9, a10⟩
  · rw [hf 2 (by decide) (by decide), k23]; exact b1
  · rw [hf 11 (by decide) (by decide), k24]; exact b2
  · intro q hq
    have h9 := h4 q hq
    unfold RING at h9 ⊢
    rw [hv _ (by omega) (by omega) (by omega), hv _ (by omega) (by omega) (by omega), hv _ (by omega) (by omega) (by omega), hv _ (by omega) (by omega) (by omega), hv _ (by omega) (by omega) (by omega), hv _ (by omega) (by omega) (by omega), hv _ (by omega) (by omega) (by omega), hv _ (by omega) (by omega) (by omega), k25, k26, k27, k28, k29, k30, k31]
    exact h9
  · intro q hq
    obtain ⟨h9, h10⟩ := h6 q hq
    unfold DRIV at h9 ⊢
    unfold LOAN at h10 ⊢
    rw [hv _ (by omega) (by omega) (by omega), hv _ (by omega) (by omega) (by omega), hv _ (by omega) (by omega) (by omega), hv _ (by omega) (by omega) (by omega), k38, k39, k40, k41, k42, j2, hf (17 + 2 * q) (by omega) (by omega)]
    exact ⟨h9, h10⟩
  · obtain ⟨m1, m2, m3⟩ := h7
    refine ⟨?_, ?_, hl⟩
    · unfold QU at m1 ⊢
      rw [k25, k26, k27, k28, k29, k30, k40, k41]
      exact m1
    · rw [h9, nI_toInt (by omega)]; omega
theorem fr_of {v : Nat → Int32} {f : Nat → Nat → Int32} {n : Nat} (hn : n ≤ 65536) (h : ¬ S_X8_isFrame v f (nI n - 12) = 0) : ∃ z : Nat, 1 ≤ z ∧ z ≤ 80 ∧ n = 12 + z ∧ nI n - 12 = nI z := by
  revert h
  unfold S_X8_isFrame
  by_cases c : n < 12
  · have e : (nI n - 12 : Int32).toInt = (n : Int) - 12 := pk_sub_toInt (a := n) (b := 12) (by omega) (by decide)
    rw [if_pos (show nI n - 12 < 1 by rw [Int32.lt_iff_toInt_lt, e, show (1 : Int32).toInt = 1 from rfl]; omega)]
    exact fun h => absurd rfl h
  · have e : nI n - 12 = nI (n - 12) := pk_sub (a := n) (b := 12) (by omega)
    rw [e]
    by_cases c1 : n - 12 < 1
    · rw [if_pos (show nI (n - 12) < 1 from nI_lt (b := 1) c1 (by decide))]; exact fun h => absurd rfl h
    · by_cases c2 : 80 < n - 12
      · rw [if_neg (show ¬ nI (n - 12) < 1 from nI_nlt (b := 1) (by omega) (by omega)), if_pos (show (80 : Int32) < nI (n - 12) from nI_lt (a := 80) c2 (by omega))]; exact fun h => absurd rfl h
      · intro _
        exact ⟨n - 12, by omega, by omega, by omega, rfl⟩
theorem carry_sim {c r w n m : Nat} {v : Nat → Int32} {f : Nat → Nat → Int32} {u : Nat → Int32} {g : Nat → Nat → Int32} (h : SIM c v f u g) (hc : c + 1 ≤ 512) (hC : CH r w n m v f u g) : ∃ (v' : Nat → Int32) (f' : Nat → Nat → Int32) (u' : Nat → Int32) (g' : Nat → Nat → Int32), S_X7_carry v f = (v', f') ∧ S_X9_doWire u g = (u', g') ∧ SIM (c + 1) v' f' u' g' ∧ v' 34 = v 34 ∧ u' 3 = u 3 ∧ g' 25 = g 25 := by
  have hR := hC.2.2.2.1
  have h0 := hC.1
  have hlr := hR.le
  have a35 : v 35 = nI n := hC.2.1.2.2.1
  have b5 : u 5 = nI n := hC.2.2.1.2.1
  unfold S_X7_carry S_X9_doWire
  rw [a35, b5, isin_f v u f g]
  by_cases z0 : S_X8_isFrame v f (nI n - 12) = 0
  · rw [if_pos z0, if_pos z0]
    exact ⟨v, f, u, g, rfl, rfl, h.up hc, rfl, rfl, rfl⟩
  rw [if_neg z0, if_neg z0]
  obtain ⟨z, hz1, hz2, rfl, ez⟩ := fr_of (by omega) z0
  rw [ez, nI_clamp (by omega)]
  obtain ⟨⟨N, eN, hNc, e37, hzr⟩, hw⟩ := h.2.2.2.2.1
  have h8 := h.2.2.2.2.2.2.2
  have hl := h.minv.2.2
  have es : (v 37 + 1) &&& 15 = nI ((N + 1) % 16) := by
    rw [e37, nI_1, pk_andN (by omega) (m := 15) 4 rfl]
    congr 1; omega
  have es2 : u 9 - u 9 / 16 * 16 = nI (N % 16) := by rw [eN]; exact pk_rem (d := 16) (by omega) (by decide) (by decide)
  have e38 : v 38 = nI N := h.1.2.2.2.2.1.trans eN
  generalize hs1 : (N + 1) % 16 = s1 at *
  have hs16 : s1 < 16 := by omega
  -- the class
  have q1 : Q_X7_carry_1 v f = S_X0_toReads (upd (upd v 37 (nI s1)) 38 (nI (N + 1))) (va_up f 14 (upd (f 14) s1 (nI z))) := by
    unfold Q_X7_carry_1
    rw [es, pk_un (by decide), e38, nI_1, a35, ez, nI_clamp (by omega)]
  have hC1 : CH r w (12 + z) m (upd (upd v 37 (nI s1)) 38 (nI (N + 1))) (va_up f 14 (upd (f 14) s1 (nI z))) u g := hC.cg (by simp (disch := omega) only [pk_un]) (by simp (disch := omega) only [pk_un]) (by simp (disch := omega) only [pk_un]) (by simp (disch := omega) only [pk_un]) (by simp (disch := omega) only [pk_un]) (va_up_ne _ _ (by decide)) (va_up_ne _ _ (by decide)) rfl rfl rfl rfl rfl rfl rfl rfl
  obtain ⟨k1, k2⟩ := hC1.cr
  have q2 : Q_X7_carry_2 v f = S_X0_skip (Q_X7_carry_1 v f) (va_up f 14 (upd (f 14) s1 (nI z))) 12 := by
    unfold Q_X7_carry_2
    rw [es, a35, ez, nI_clamp (by omega)]
  rw [Nat.add_comm 12 z] at k1
  obtain ⟨k3, k4⟩ := sk_C 12 k1
  rw [← q1, ← q2] at k3 k4
  have k5 : CF (upd (upd v 37 (nI s1)) 38 (nI (N + 1))) (Q_X7_carry_2 v f) := by rw [← q1] at k2; exact k2.tr k3
  generalize hV1 : upd (upd v 37 (nI s1)) 38 (nI (N + 1)) = V1 at *
  have hV37 : V1 37 = nI s1 := by rw [← hV1, pk_un (by decide), pk_us]
  have hV38 : V1 38 = nI (N + 1) := by rw [← hV1, pk_us]
  have hVj : ∀ j : Nat, j ≠ 37 → j ≠ 38 → V1 j = v j := fun j x y => by rw [← hV1, pk_un y, pk_un x]
  have hi0 : (va_up f 14 (upd (f 14) s1 (nI z))) 13 = f 13 := va_up_ne _ _ (by decide)
  have hi2 : (va_up f 14 (upd (f 14) s1 (nI z))) 2 = f 2 := va_up_ne _ _ (by decide)
  have hi14 : (va_up f 14 (upd (f 14) s1 (nI z))) 14 = upd (f 14) s1 (nI z) := va_up_self _ _ _
  have hio : ∀ j : Nat, j ≠ 14 → (va_up f 14 (upd (f 14) s1 (nI z))) j = f j := fun j x => va_up_ne _ _ x
  have hL0 : L_X7_carry v f 0 = (Q_X7_carry_2 v f, va_up f 14 (upd (f 14) s1 (nI z))) := by rw [L_X7_carry, es, a35, ez, nI_clamp (by omega)]
  generalize va_up f 14 (upd (f 14) s1 (nI z)) = f1 at *
  have hcl : ∀ i : Nat, i ≤ z → ∃ v' : Nat → Int32, L_X7_carry v f i = (v', va_up f1 13 (WB (f 13) (fun i => 80 * s1 + i) (fun i => nI (bt8 (g 23 (PL (g 33) (g 32) 0 r (12 + i))))) i)) ∧ CF V1 v' ∧ CU f1 v' (fun j => PL (g 33) (g 32) 0 r (12 + i + j)) (z - i) := by
    intro i
    induction i with
    | zero => intro _; exact ⟨_, by rw [hL0, WB, ← hi0, up_id], k5, k4⟩
    | succ i ih =>
      intro hi
      obtain ⟨v1, e1, e2, e3⟩ := ih (by omega)
      rw [show z - i = (z - (i + 1)) + 1 by omega] at e3
      have e3' := e3.cg (f' := va_up f1 13 (WB (f 13) (fun i => 80 * s1 + i) (fun i => nI (bt8 (g 23 (PL (g 33) (g 32) 0 r (12 + i))))) i)) (va_up_ne _ _ (by decide)) (va_up_ne _ _ (by decide)) (fun _ _ => rfl)
      obtain ⟨v2, x1, x2, x3, x4⟩ := nby_k e3'
      rw [va_up_ne _ _ (by decide), hi2, h.mem _ x2] at x1
      refine ⟨v2, ?_, e2.tr x3, ?_⟩
      · have e80 : v1 37 * 80 + nI i = nI (80 * s1 + i) := by
          rw [e2 37 (by decide) (by decide) (by decide), hV37, show (80 : Int32) = nI 80 from rfl, pk_mul, nI_add, Nat.mul_comm]
        rw [L_X7_carry, e1]
        dsimp only
        rw [x1, WB_s]
        dsimp only
        rw [e80, nI_clamp (by omega), va_up_self, up_up]
        rfl
      · exact x4.cg (va_up_ne _ _ (by decide)).symm (va_up_ne _ _ (by decide)).symm (fun _ _ => rfl)
  obtain ⟨v', y1, y2, -⟩ := hcl z (Nat.le_refl z)
  -- the reference
  have hd : ∀ i : Nat, i ≤ z → L_X9_doWire u g i = va_up g 36 (WB (g 36) (fun i => 80 * (N % 16) + i) (fun i => nI (bt8 (g 23 (PL (g 33) (g 32) 0 r (12 + i))))) i) := by
    intro i
    induction i with
    | zero => intro _; rw [L_X9_doWire, WB, up_id]
    | succ i ih =>
      intro hi
      have e80 : (80 : Int32) * nI (N % 16) + nI i = nI (80 * (N % 16) + i) := by rw [show (80 : Int32) = nI 80 from rfl, pk_mul, nI_add]
      rw [L_X9_doWire, ih (by omega), es2, e80, nI_clamp (by omega), r1_M (r := r) (n := 12 + z) (by rw [va_up_ne _ _ (by decide), va_up_ne _ _ (by decide)]; exact hR) (by omega) (by omega), va_up_self, up_up, WB_s, va_up_ne _ _ (by decide), va_up_ne _ _ (by decide), va_up_ne _ _ (by decide)]
      rfl
  rw [y1, hd z (Nat.le_refl z), es2, nI_clamp (by omega), eN, nI_1]
  dsimp only
  generalize (fun i => nI (bt8 (g 23 (PL (g 33) (g 32) 0 r (12 + i))))) = B at *
  refine ⟨_, _, _, _, rfl, rfl, ?_, ?_, ?_, ?_⟩
  · refine h.went hc eN hNc (fun j x1 x2 x3 => (y2 j (by omega) (by omega) (by omega)).trans (hVj j x2 x3)) (fun j x => pk_un x) (fun j x1 x2 => ?_) (fun j x1 x2 => ?_) ?_ ?_ ?_ ?_ ?_ ?_
    · rw [va_up_ne _ _ x1, hio j x2]
    · rw [va_up_ne _ _ x2, va_up_ne _ _ x1]
    · rw [y2 37 (by decide) (by decide) (by decide), hV37, hs1]
    · rw [y2 38 (by decide) (by decide) (by decide), hV38]
    · exact pk_us
    · intro s hs hsN
      rw [va_up_self, va_up_ne _ _ (by decide), pk_un (by omega)]
      exact hzr s hs (by omega)
    · intro s hs
      obtain ⟨w1, w2⟩ := hw s hs
      rw [va_up_ne _ _ (by decide), hi14, va_up_self, va_up_self, va_up_ne _ _ (by decide), va_up_ne _ _ (by decide), va_up_self]
      by_cases cs : s = N % 16
      · have e1 : (s + 1) % 16 = s1 := by omega
        rw [e1, cs, pk_us, pk_us]
        refine ⟨rfl, fun k hk => ?_⟩
        by_cases ck : k < z
        · have gen : ∀ (F : Nat → Int32) (o : Nat) (i : Nat), k < i → i ≤ z → WB F (fun i => o + i) B i (o + k) = nB (B k) := by
            intro F o i
            induction i with
            | zero => intro x; omega
            | succ i ih =>
              intro x1 x2
              rw [WB_s]
              by_cases ci : k = i
              · rw [ci, pk_us]
              · rw [pk_un (by omega), ih (by omega) (by omega)]
          rw [gen _ _ z ck (Nat.le_refl z), gen _ _ z ck (Nat.le_refl z)]
        · rw [WB_out (fun i hi => by omega), WB_out (fun i hi => by omega)]
          have := w2 k hk
          rw [e1, cs] at this
          exact this
      · have e1 : (s + 1) % 16 ≠ s1 := by omega
        rw [pk_un e1, pk_un cs]
        refine ⟨w1, fun k hk => ?_⟩
        rw [WB_out (fun i hi => by omega), WB_out (fun i hi => by omega)]
        exact w2 k hk
    · intro j hj
      rw [va_up_self, va_up_ne _ _ (by decide)]
      by_cases cj : j = N % 16
      · rw [cj, pk_us, nI_toInt (by omega)]; omega
      · rw [pk_un cj]; exact hl j hj
  · rw [y2 34 (by decide) (by decide) (by decide), hVj 34 (by decide) (by decide)]
  · exact pk_un (by decide)
  · rw [va_up_ne _ _ (by decide), va_up_ne _ _ (by decide)]
