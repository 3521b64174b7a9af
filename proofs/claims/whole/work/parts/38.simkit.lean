theorem SIM.fr {c : Nat} {v v' : Nat → Int32} {f f' : Nat → Nat → Int32} {u u' : Nat → Int32} {g g' : Nat → Nat → Int32} (h : SIM c v f u g) (hv : ∀ j : Nat, (j < 28 ∨ 36 < j) → v' j = v j) (hu : ∀ j : Nat, (j < 3 ∨ 8 < j) → u' j = u j) (hf : ∀ j : Nat, j ≠ 2 → j ≠ 8 → j ≠ 9 → j ≠ 11 → f' j = f j) (hg : ∀ j : Nat, j ≠ 23 → j ≠ 24 → (j < 32 ∨ 35 < j) → g' j = g j) (hm : ∀ p : Nat, p < 4096 → f' 2 p = g' 23 p) (hd : ∀ p : Nat, p < 2048 → f' 11 p = g' 24 p) : SIM c v' f' u' g' := by
  obtain ⟨⟨a1, a2, a3, a4, a5, a6, a7, a8, a9, a10⟩, -, -, h4, ⟨⟨n, e1, e2, e3, e4⟩, h5⟩, h6, h7, h8⟩ := h
  have k25 := hg 25 (by decide) (by decide) (by decide)
  have k26 := hg 26 (by decide) (by decide) (by decide)
  have k27 := hg 27 (by decide) (by decide) (by decide)
  have k28 := hg 28 (by decide) (by decide) (by decide)
  have k29 := hg 29 (by decide) (by decide) (by decide)
  have k30 := hg 30 (by decide) (by decide) (by decide)
  have k31 := hg 31 (by decide) (by decide) (by decide)
  have k36 := hg 36 (by decide) (by decide) (by decide)
  have k37 := hg 37 (by decide) (by decide) (by decide)
  have k38 := hg 38 (by decide) (by decide) (by decide)
  have k39 := hg 39 (by decide) (by decide) (by decide)
  have k40 := hg 40 (by decide) (by decide) (by decide)
  have k41 := hg 41 (by decide) (by decide) (by decide)
  have k42 := hg 42 (by decide) (by decide) (by decide)
  have j0 := hu 0 (by decide)
  have j1 := hu 1 (by decide)
  have j2 := hu 2 (by decide)
  have j9 := hu 9 (by decide)
  have j10 := hu 10 (by decide)
  have j11 := hu 11 (by decide)
  refine ⟨?_, hm, hd, ?_, ?_, ?_, ?_, h8⟩
  · unfold NUMS
    rw [hv 0 (by decide), hv 1 (by decide), hv 2 (by decide), hv 3 (by decide), hv 38 (by decide), hv 40 (by decide), hv 39 (by decide), j0, j1, j2, j9, j10, j11]
    exact ⟨a1, a2, a3, a4, a5, a6, a7, a8, a9, a10⟩
  · intro q hq
    have h9 := h4 q hq
    unfold RING at h9 ⊢
    rw [hv _ (by omega), hv _ (by omega), hv _ (by omega), hv _ (by omega), hv _ (by omega), hv _ (by omega), hv _ (by omega), hv _ (by omega), k25, k26, k27, k28, k29, k30, k31]
    exact h9
  · unfold WIRE
    rw [j9, hv 37 (by decide), k37, k36, hf 13 (by decide) (by decide) (by decide) (by decide), hf 14 (by decide) (by decide) (by decide) (by decide)]
    exact ⟨⟨n, e1, e2, e3, e4⟩, h5⟩
  · intro q hq
    obtain ⟨h9, h10⟩ := h6 q hq
    unfold DRIV at h9 ⊢
    unfold LOAN at h10 ⊢
    rw [hv _ (by omega), hv _ (by omega), hv _ (by omega), hv _ (by omega), k38, k39, k40, k41, k42, j2, hf (17 + 2 * q) (by omega) (by omega) (by omega) (by omega)]
    exact ⟨h9, h10⟩
  · unfold MInv at h7 ⊢
    unfold QU at h7 ⊢
    rw [j9, k25, k26, k27, k28, k29, k30, k37, k40, k41]
    exact h7
theorem SIM.st {c : Nat} {v : Nat → Int32} {f : Nat → Nat → Int32} {u : Nat → Int32} {g : Nat → Nat → Int32} (h : SIM c v f u g) (x : Int32) (hx : x = 0 ∨ x = 1 ∨ x = 2) : SIM c (upd v 0 x) f (upd u 0 x) g := by
  obtain ⟨⟨a1, a2, a3, a4, a5, a6, a7, a8, a9, a10⟩, b1, b2, h4, h5, h6, h7, h8⟩ := h
  refine ⟨⟨rfl, a2, a3, a4, a5, a6, hx, a8, a9, a10⟩, b1, b2, fun q hq => ?_, h5, fun q hq => ?_, h7, h8⟩
  · have h9 := h4 q hq
    unfold RING at h9 ⊢
    simp (disch := omega) only [pk_un]
    exact h9
  · have h9 := h6 q hq
    unfold DRIV LOAN at h9 ⊢
    simp (disch := omega) only [pk_un]
    exact h9
theorem SIM.came {c : Nat} {v : Nat → Int32} {f : Nat → Nat → Int32} {u : Nat → Int32} {g : Nat → Nat → Int32} (h : SIM c v f u g) {x y : Int32} (hx : x = y) : SIM c (upd v 2 x) f (upd u 10 y) g := by
  obtain ⟨⟨a1, a2, a3, a4, a5, a6, a7, a8, a9, a10⟩, b1, b2, h4, h5, h6, h7, h8⟩ := h
  refine ⟨⟨a1, a2, hx, a4, a5, a6, a7, a8, a9, a10⟩, b1, b2, fun q hq => ?_, h5, fun q hq => ?_, h7, h8⟩
  · have h9 := h4 q hq
    unfold RING at h9 ⊢
    simp (disch := omega) only [pk_un]
    exact h9
  · have h9 := h6 q hq
    unfold DRIV LOAN at h9 ⊢
    simp (disch := omega) only [pk_un]
    exact h9
theorem SIM.drop {c : Nat} {v : Nat → Int32} {f : Nat → Nat → Int32} {u : Nat → Int32} {g : Nat → Nat → Int32} (h : SIM c v f u g) {x y : Int32} (hx : x = y) : SIM c (upd v 3 x) f (upd u 11 y) g := by
  obtain ⟨⟨a1, a2, a3, a4, a5, a6, a7, a8, a9, a10⟩, b1, b2, h4, h5, h6, h7, h8⟩ := h
  refine ⟨⟨a1, a2, a3, hx, a5, a6, a7, a8, a9, a10⟩, b1, b2, fun q hq => ?_, h5, fun q hq => ?_, h7, h8⟩
  · have h9 := h4 q hq
    unfold RING at h9 ⊢
    simp (disch := omega) only [pk_un]
    exact h9
  · have h9 := h6 q hq
    unfold DRIV LOAN at h9 ⊢
    simp (disch := omega) only [pk_un]
    exact h9
theorem SIM.taken {c : Nat} {v : Nat → Int32} {f : Nat → Nat → Int32} {u : Nat → Int32} {g : Nat → Nat → Int32} (h : SIM c v f u g) (q : Nat) {x y : Int32} (hx : x = y) (hq : q < 3) (hc : CN y) : SIM c (upd v (9 + 8 * q) x) f u (va_up g 29 (upd (g 29) q y)) := by
  obtain ⟨⟨a1, a2, a3, a4, a5, a6, a7, a8, a9, a10⟩, b1, b2, h4, h5, h6, h7, h8⟩ := h
  by_cases hq9 : q < 3
  · refine ⟨?_, b1, b2, fun r hr => ?_, ?_, fun r hr => ?_, ?_, h8⟩
    · unfold NUMS
      simp (disch := omega) only [pk_un]
      exact ⟨a1, a2, a3, a4, a5, a6, a7, a8, a9, a10⟩
    · have h9 := h4 r hr
      unfold RING at h9 ⊢
      by_cases e : r = q
      · subst e
        simp (disch := omega) only [pk_un, pk_us, va_up_self, va_up_ne]
        exact ⟨h9.1, h9.2.1, h9.2.2.1, h9.2.2.2.1, h9.2.2.2.2.1, hx, h9.2.2.2.2.2.2.1, h9.2.2.2.2.2.2.2⟩
      · simp (disch := omega) only [pk_un, pk_us, va_up_self, va_up_ne]
        exact h9
    · unfold WIRE at h5 ⊢
      simp (disch := omega) only [pk_un, va_up_ne]
      exact h5
    · have h9 := h6 r hr
      unfold DRIV LOAN at h9 ⊢
      simp (disch := omega) only [pk_un, va_up_ne]
      exact h9
    · unfold MInv QU at h7 ⊢
      simp (disch := omega) only [va_up_ne, va_up_self]
      refine ⟨fun r hr => ?_, h7.2⟩
      obtain ⟨c1, c2, c3, c4, c5⟩ := h7.1 r hr
      by_cases e : r = q
      · subst e
        rw [pk_us]
        exact ⟨c1, hc, c3, c4, c5⟩
      · rw [pk_un e]
        exact ⟨c1, c2, c3, c4, c5⟩
  · exact absurd hq hq9
theorem SIM.given {c : Nat} {v : Nat → Int32} {f : Nat → Nat → Int32} {u : Nat → Int32} {g : Nat → Nat → Int32} (h : SIM c v f u g) (q : Nat) {x y : Int32} (hx : x = y) (hq : q < 3) (hc : CN y) : SIM c (upd v (10 + 8 * q) x) f u (va_up g 30 (upd (g 30) q y)) := by
  obtain ⟨⟨a1, a2, a3, a4, a5, a6, a7, a8, a9, a10⟩, b1, b2, h4, h5, h6, h7, h8⟩ := h
  by_cases hq9 : q < 3
  · refine ⟨?_, b1, b2, fun r hr => ?_, ?_, fun r hr => ?_, ?_, h8⟩
    · unfold NUMS
      simp (disch := omega) only [pk_un]
      exact ⟨a1, a2, a3, a4, a5, a6, a7, a8, a9, a10⟩
    · have h9 := h4 r hr
      unfold RING at h9 ⊢
      by_cases e : r = q
      · subst e
        simp (disch := omega) only [pk_un, pk_us, va_up_self, va_up_ne]
        exact ⟨h9.1, h9.2.1, h9.2.2.1, h9.2.2.2.1, h9.2.2.2.2.1, h9.2.2.2.2.2.1, hx, h9.2.2.2.2.2.2.2⟩
      · simp (disch := omega) only [pk_un, pk_us, va_up_self, va_up_ne]
        exact h9
    · unfold WIRE at h5 ⊢
      simp (disch := omega) only [pk_un, va_up_ne]
      exact h5
    · have h9 := h6 r hr
      unfold DRIV LOAN at h9 ⊢
      simp (disch := omega) only [pk_un, va_up_ne]
      exact h9
    · unfold MInv QU at h7 ⊢
      simp (disch := omega) only [va_up_ne, va_up_self]
      refine ⟨fun r hr => ?_, h7.2⟩
      obtain ⟨c1, c2, c3, c4, c5⟩ := h7.1 r hr
      by_cases e : r = q
      · subst e
        rw [pk_us]
        exact ⟨c1, c2, hc, c4, c5⟩
      · rw [pk_un e]
        exact ⟨c1, c2, c3, c4, c5⟩
  · exact absurd hq hq9
theorem SIM.sig {c : Nat} {v : Nat → Int32} {f : Nat → Nat → Int32} {u : Nat → Int32} {g : Nat → Nat → Int32} (h : SIM c v f u g) (q : Nat) {x y : Int32} (hx : x = y) (hq : q < 3) : SIM c (upd v (11 + 8 * q) x) f u (va_up g 31 (upd (g 31) q y)) := by
  obtain ⟨⟨a1, a2, a3, a4, a5, a6, a7, a8, a9, a10⟩, b1, b2, h4, h5, h6, h7, h8⟩ := h
  by_cases hq9 : q < 3
  · refine ⟨?_, b1, b2, fun r hr => ?_, ?_, fun r hr => ?_, ?_, h8⟩
    · unfold NUMS
      simp (disch := omega) only [pk_un]
      exact ⟨a1, a2, a3, a4, a5, a6, a7, a8, a9, a10⟩
    · have h9 := h4 r hr
      unfold RING at h9 ⊢
      by_cases e : r = q
      · subst e
        simp (disch := omega) only [pk_un, pk_us, va_up_self, va_up_ne]
        exact ⟨h9.1, h9.2.1, h9.2.2.1, h9.2.2.2.1, h9.2.2.2.2.1, h9.2.2.2.2.2.1, h9.2.2.2.2.2.2.1, hx⟩
      · simp (disch := omega) only [pk_un, pk_us, va_up_self, va_up_ne]
        exact h9
    · unfold WIRE at h5 ⊢
      simp (disch := omega) only [pk_un, va_up_ne]
      exact h5
    · have h9 := h6 r hr
      unfold DRIV LOAN at h9 ⊢
      simp (disch := omega) only [pk_un, va_up_ne]
      exact h9
    · unfold MInv QU at h7 ⊢
      simp (disch := omega) only [va_up_ne, va_up_self]
      refine ⟨fun r hr => ?_, h7.2⟩
      obtain ⟨c1, c2, c3, c4, c5⟩ := h7.1 r hr
      by_cases e : r = q
      · subst e
        skip
        exact ⟨c1, c2, c3, c4, c5⟩
      · skip
        exact ⟨c1, c2, c3, c4, c5⟩
  · exact absurd hq hq9
theorem SIM.asked {c : Nat} {v : Nat → Int32} {f : Nat → Nat → Int32} {u : Nat → Int32} {g : Nat → Nat → Int32} (h : SIM c v f u g) (q : Nat) {x y : Int32} (hx : x = y) (hq : q < 3) (hc : CN y) : SIM c (upd v (42 + 4 * q) x) f u (va_up g 40 (upd (g 40) q y)) := by
  obtain ⟨⟨a1, a2, a3, a4, a5, a6, a7, a8, a9, a10⟩, b1, b2, h4, h5, h6, h7, h8⟩ := h
  refine ⟨?_, b1, b2, fun r hr => ?_, ?_, fun r hr => ?_, ?_, h8⟩
  · unfold NUMS
    simp (disch := omega) only [pk_un]
    exact ⟨a1, a2, a3, a4, a5, a6, a7, a8, a9, a10⟩
  · have h9 := h4 r hr
    unfold RING at h9 ⊢
    simp (disch := omega) only [pk_un, va_up_ne]
    exact h9
  · unfold WIRE at h5 ⊢
    simp (disch := omega) only [pk_un, va_up_ne]
    exact h5
  · have h9 := h6 r hr
    unfold DRIV LOAN at h9 ⊢
    by_cases e : r = q
    · subst e
      simp (disch := omega) only [pk_un, pk_us, va_up_self, va_up_ne]
      exact ⟨⟨hx, h9.1.2.1, h9.1.2.2⟩, h9.2⟩
    · simp (disch := omega) only [pk_un, pk_us, va_up_self, va_up_ne]
      exact h9
  · unfold MInv QU at h7 ⊢
    simp (disch := omega) only [va_up_ne, va_up_self]
    refine ⟨fun r hr => ?_, h7.2⟩
    obtain ⟨c1, c2, c3, c4, c5⟩ := h7.1 r hr
    by_cases e : r = q
    · subst e
      rw [pk_us]
      exact ⟨c1, c2, c3, hc, c5⟩
    · rw [pk_un e]
      exact ⟨c1, c2, c3, c4, c5⟩
theorem SIM.saw {c : Nat} {v : Nat → Int32} {f : Nat → Nat → Int32} {u : Nat → Int32} {g : Nat → Nat → Int32} (h : SIM c v f u g) (q : Nat) {x y : Int32} (hx : x = y) (hq : q < 3) (hc : CN y) : SIM c (upd v (43 + 4 * q) x) f u (va_up g 41 (upd (g 41) q y)) := by
  obtain ⟨⟨a1, a2, a3, a4, a5, a6, a7, a8, a9, a10⟩, b1, b2, h4, h5, h6, h7, h8⟩ := h
  refine ⟨?_, b1, b2, fun r hr => ?_, ?_, fun r hr => ?_, ?_, h8⟩
  · unfold NUMS
    simp (disch := omega) only [pk_un]
    exact ⟨a1, a2, a3, a4, a5, a6, a7, a8, a9, a10⟩
  · have h9 := h4 r hr
    unfold RING at h9 ⊢
    simp (disch := omega) only [pk_un, va_up_ne]
    exact h9
  · unfold WIRE at h5 ⊢
    simp (disch := omega) only [pk_un, va_up_ne]
    exact h5
  · have h9 := h6 r hr
    unfold DRIV LOAN at h9 ⊢
    by_cases e : r = q
    · subst e
      simp (disch := omega) only [pk_un, pk_us, va_up_self, va_up_ne]
      exact ⟨⟨h9.1.1, hx, h9.1.2.2⟩, h9.2⟩
    · simp (disch := omega) only [pk_un, pk_us, va_up_self, va_up_ne]
      exact h9
  · unfold MInv QU at h7 ⊢
    simp (disch := omega) only [va_up_ne, va_up_self]
    refine ⟨fun r hr => ?_, h7.2⟩
    obtain ⟨c1, c2, c3, c4, c5⟩ := h7.1 r hr
    by_cases e : r = q
    · subst e
      rw [pk_us]
      exact ⟨c1, c2, c3, c4, hc⟩
    · rw [pk_un e]
      exact ⟨c1, c2, c3, c4, c5⟩
theorem SIM.lat {c : Nat} {v : Nat → Int32} {f : Nat → Nat → Int32} {u : Nat → Int32} {g : Nat → Nat → Int32} (h : SIM c v f u g) (q : Nat) {x y : Int32} (hx : x = y) (hq : q < 3) : SIM c (upd v (44 + 4 * q) x) f u (va_up g 42 (upd (g 42) q y)) := by
  obtain ⟨⟨a1, a2, a3, a4, a5, a6, a7, a8, a9, a10⟩, b1, b2, h4, h5, h6, h7, h8⟩ := h
  refine ⟨?_, b1, b2, fun r hr => ?_, ?_, fun r hr => ?_, ?_, h8⟩
  · unfold NUMS
    simp (disch := omega) only [pk_un]
    exact ⟨a1, a2, a3, a4, a5, a6, a7, a8, a9, a10⟩
  · have h9 := h4 r hr
    unfold RING at h9 ⊢
    simp (disch := omega) only [pk_un, va_up_ne]
    exact h9
  · unfold WIRE at h5 ⊢
    simp (disch := omega) only [pk_un, va_up_ne]
    exact h5
  · have h9 := h6 r hr
    unfold DRIV LOAN at h9 ⊢
    by_cases e : r = q
    · subst e
      simp (disch := omega) only [pk_un, pk_us, va_up_self, va_up_ne]
      exact ⟨⟨h9.1.1, h9.1.2.1, hx⟩, h9.2⟩
    · simp (disch := omega) only [pk_un, pk_us, va_up_self, va_up_ne]
      exact h9
  · unfold MInv QU at h7 ⊢
    simp (disch := omega) only [va_up_ne, va_up_self]
    refine ⟨fun r hr => ?_, h7.2⟩
    obtain ⟨c1, c2, c3, c4, c5⟩ := h7.1 r hr
    by_cases e : r = q
    · subst e
      skip
      exact ⟨c1, c2, c3, c4, c5⟩
    · skip
      exact ⟨c1, c2, c3, c4, c5⟩
