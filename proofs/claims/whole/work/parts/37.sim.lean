/-- the free ones of the reference as bits -/
def fm (G : Nat → Int32) (q : Nat) : Nat → Nat
  | 0 => 0
  | d + 1 => fm G q d + (if G (8 * q + d) = 0 then 2 ^ d else 0)
/-- the DESCRIPTORS that are lent under the head d, as bits -/
def cm (G K : Nat → Int32) (q d : Nat) : Nat → Nat
  | 0 => 0
  | e + 1 => cm G K q d e + (if G (8 * q + e) = 0 then 0 else if K (8 * q + e) = nI d then 2 ^ e else 0)
/-- what the DRIVER keeps of a QUEUE, on both sides -/
def LOAN (v : Nat → Int32) (f : Nat → Nat → Int32) (u : Nat → Int32) (g : Nat → Nat → Int32) (q : Nat) : Prop :=
  (u 2 = 1 → v (41 + 4 * q) = nI (fm (g 38) q 8) ∧ ∀ d : Nat, d < 8 → f (17 + 2 * q) d = nI (cm (g 38) (g 39) q d 8)) ∧ (u 2 = 0 → v (41 + 4 * q) = 0 ∧ ∀ d : Nat, d < 8 → f (17 + 2 * q) d = 0) ∧ ∀ e : Nat, e < 8 → g 38 (8 * q + e) = 0 ∨ (g 38 (8 * q + e) = 1 ∧ ∃ d : Nat, d < 8 ∧ g 39 (8 * q + e) = nI d ∧ g 38 (8 * q + d) = 1 ∧ g 39 (8 * q + d) = nI d)
def RING (v : Nat → Int32) (g : Nat → Nat → Int32) (q : Nat) : Prop := v (4 + 8 * q) = (if g 25 q = 0 then 0 else 1) ∧ v (5 + 8 * q) = g 25 q ∧ v (6 + 8 * q) = g 26 q ∧ v (7 + 8 * q) = g 27 q ∧ v (8 + 8 * q) = g 28 q ∧ v (9 + 8 * q) = g 29 q ∧ v (10 + 8 * q) = g 30 q ∧ v (11 + 8 * q) = g 31 q
def WIRE (c : Nat) (v : Nat → Int32) (f : Nat → Nat → Int32) (u : Nat → Int32) (g : Nat → Nat → Int32) : Prop := (∃ n : Nat, u 9 = nI n ∧ n ≤ c ∧ v 37 = nI (n % 16) ∧ ∀ s : Nat, s < 16 → n ≤ s → g 37 s = 0) ∧ ∀ s : Nat, s < 16 → f 14 ((s + 1) % 16) = g 37 s ∧ ∀ k : Nat, k < 80 → f 13 (80 * ((s + 1) % 16) + k) = g 36 (80 * s + k)
def NUMS (v : Nat → Int32) (u : Nat → Int32) : Prop := v 0 = u 0 ∧ v 1 = u 1 ∧ v 2 = u 10 ∧ v 3 = u 11 ∧ v 38 = u 9 ∧ v 40 = u 2 ∧ (u 0 = 0 ∨ u 0 = 1 ∨ u 0 = 2) ∧ (u 1 = 0 ∨ u 1 = 1) ∧ (u 2 = 0 ∨ u 2 = 1) ∧ (u 2 = 1 → v 39 = u 1)
def DRIV (v : Nat → Int32) (g : Nat → Nat → Int32) (q : Nat) : Prop := v (42 + 4 * q) = g 40 q ∧ v (43 + 4 * q) = g 41 q ∧ v (44 + 4 * q) = g 42 q
/-- class and reference hold the same, c calls having been made -/
def SIM (c : Nat) (v : Nat → Int32) (f : Nat → Nat → Int32) (u : Nat → Int32) (g : Nat → Nat → Int32) : Prop :=
  NUMS v u ∧ (∀ p : Nat, p < 4096 → f 2 p = g 23 p) ∧ (∀ p : Nat, p < 2048 → f 11 p = g 24 p) ∧ (∀ q : Nat, q < 3 → RING v g q) ∧ WIRE c v f u g ∧ (∀ q : Nat, q < 3 → DRIV v g q ∧ LOAN v f u g q) ∧ MInv u g ∧ c ≤ 512
theorem SIM.minv {c : Nat} {v : Nat → Int32} {f : Nat → Nat → Int32} {u : Nat → Int32} {g : Nat → Nat → Int32} (h : SIM c v f u g) : MInv u g := h.2.2.2.2.2.2.1
theorem SIM.hw {c : Nat} {v : Nat → Int32} {f : Nat → Nat → Int32} {u : Nat → Int32} {g : Nat → Nat → Int32} (h : SIM c v f u g) : ∀ j : Nat, j < 16 → (f 14 j).toInt ≤ 80 := by
  intro j hj
  have h1 := (h.2.2.2.2.1.2 ((j + 15) % 16) (Nat.mod_lt _ (by decide))).1
  rw [show ((j + 15) % 16 + 1) % 16 = j by omega] at h1
  rw [h1]
  exact (h.minv.2.2 _ (Nat.mod_lt _ (by decide))).2
theorem SIM.up {c : Nat} {v : Nat → Int32} {f : Nat → Nat → Int32} {u : Nat → Int32} {g : Nat → Nat → Int32} (h : SIM c v f u g) (hc : c + 1 ≤ 512) : SIM (c + 1) v f u g := by
  obtain ⟨h1, h2, h3, h4, ⟨⟨n, e1, e2, e3, e4⟩, h5⟩, h6, h7, h8⟩ := h
  exact ⟨h1, h2, h3, h4, ⟨⟨n, e1, by omega, e3, e4⟩, h5⟩, h6, h7, hc⟩
