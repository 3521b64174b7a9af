def pp (x : Nat) : Nat → Nat
  | 0 => 0
  | d + 1 => pp x d + x / 2 ^ d % 2
theorem bc8 : ∀ x : Nat, x < 256 → S_J6_bitCount_0f7a4 (fun _ => 0) (fun _ _ => 0) (nI x) = nI (pp x 8) := by decide +kernel
theorem bc (v : Nat → Int32) (f : Nat → Nat → Int32) (x : Nat) (hx : x < 256) : S_J6_bitCount_0f7a4 v f (nI x) = nI (pp x 8) := by
  rw [← bc8 x hx]
  unfold S_J6_bitCount_0f7a4
  with_reducible rfl
theorem fm_lt (G : Nat → Int32) (q : Nat) : ∀ n : Nat, fm G q n < 2 ^ n
  | 0 => by show 0 < 1; omega
  | n + 1 => by
    have h := fm_lt G q n
    show fm G q n + (if G (8 * q + n) = 0 then 2 ^ n else 0) < 2 ^ (n + 1)
    rw [Nat.pow_succ]
    split <;> omega
theorem bit_hi {a n b : Nat} (h : a < 2 ^ n) (d : Nat) (hd : d < n) : (a + b * 2 ^ n) / 2 ^ d % 2 = a / 2 ^ d % 2 := by
  have e : 2 ^ n = 2 ^ d * (2 * 2 ^ (n - d - 1)) := by rw [← Nat.pow_succ', ← Nat.pow_add]; congr 1; omega
  rw [e, Nat.mul_comm b, Nat.mul_assoc, Nat.add_mul_div_left _ _ (Nat.two_pow_pos d), Nat.mul_assoc, Nat.add_mul_mod_self_left]
theorem bit_top {a n b : Nat} (h : a < 2 ^ n) : (a + b * 2 ^ n) / 2 ^ n % 2 = b % 2 := by
  rw [Nat.add_mul_div_right _ _ (Nat.two_pow_pos n), Nat.div_eq_of_lt h, Nat.zero_add]
theorem fm_bit (G : Nat → Int32) (q : Nat) : ∀ n d : Nat, d < n → fm G q n / 2 ^ d % 2 = if G (8 * q + d) = 0 then 1 else 0
  | 0, d, h => by omega
  | n + 1, d, h => by
    have e : fm G q (n + 1) = fm G q n + (if G (8 * q + n) = 0 then 1 else 0) * 2 ^ n := by
      show fm G q n + (if G (8 * q + n) = 0 then 2 ^ n else 0) = _
      split <;> omega
    rw [e]
    by_cases hd : d = n
    · subst hd
      rw [bit_top (fm_lt G q d)]
      split <;> rfl
    · rw [bit_hi (fm_lt G q n) d (by omega)]
      exact fm_bit G q n d (by omega)
theorem pp_fm (G : Nat → Int32) (q N : Nat) : ∀ n : Nat, n ≤ N → pp (fm G q N) n = fz G q n
  | 0, _ => rfl
  | n + 1, h => by
    show pp (fm G q N) n + _ = fz G q n + _
    rw [pp_fm G q N n (by omega), fm_bit G q N n (by omega)]
/-- how many are free, on both sides -/
theorem SIM.free {c : Nat} {v : Nat → Int32} {f : Nat → Nat → Int32} {u : Nat → Int32} {g : Nat → Nat → Int32} (h : SIM c v f u g) {q : Nat} (hq : q < 3) : S_J6_bitCount_0f7a4 v f (v (41 + 4 * q)) = if u 2 = 0 then 0 else S_X9_freeOnes u g q := by
  obtain ⟨l1, l2, l3⟩ := (h.2.2.2.2.2.1 q hq).2
  rcases h.1.2.2.2.2.2.2.2.2.1 with e | e
  · rw [if_pos e, (l2 e).1]
    exact bc v f 0 (by decide)
  · rw [if_neg (by rw [e]; decide), (l1 e).1, fo_fz, bc v f _ (fm_lt (g 38) q 8), pp_fm _ _ _ _ (Nat.le_refl 8)]
theorem SIM.le0 {c : Nat} {v : Nat → Int32} {f : Nat → Nat → Int32} {u : Nat → Int32} {g : Nat → Nat → Int32} (h : SIM c v f u g) {q : Nat} (hq : q < 3) : (v (4 + 8 * q) = 0 ↔ g 25 q ≤ 0) := by
  have h1 := (h.2.2.2.1 q hq).1
  rw [h1]
  rcases (h.minv.1 q hq).1 with e | ⟨n, e, n1, n2, -⟩
  · rw [e]; decide
  · rw [e, if_neg (nI_ne0 (by omega) (by omega))]
    exact ⟨fun h => absurd h (by decide), fun h => absurd h (nI_nle (by omega) (by omega))⟩
theorem s7 {b : Int32} (h1 : ¬ b < 0) (h2 : ¬ (7 : Int32) ≤ b) : b = 0 ∨ b = 1 ∨ b = 2 ∨ b = 3 ∨ b = 4 ∨ b = 5 ∨ b = 6 := by
  obtain ⟨j, hj, rfl⟩ := nI_of h1
  rw [show (7 : Int32) = nI 7 from rfl, nI_leI (by decide) hj] at h2
  have : ∀ j : Nat, j < 7 → nI j = 0 ∨ nI j = 1 ∨ nI j = 2 ∨ nI j = 3 ∨ nI j = 4 ∨ nI j = 5 ∨ nI j = 6 := by decide
  exact this j (by omega)
theorem told_q {c : Nat} {v : Nat → Int32} {f : Nat → Nat → Int32} {u : Nat → Int32} {g : Nat → Nat → Int32} (h : SIM c v f u g) {q : Nat} (hq : q < 3) (b : Int32) : (if b = 0 then if (v (4 + 8 * q)) = 0 then 0 else 1 else if b = 1 then v (9 + 8 * q) else if b = 2 then v (10 + 8 * q) else if b = 3 then v (11 + 8 * q) else if b = 4 then v (5 + 8 * q) else if b = 5 then S_J6_bitCount_0f7a4 v f (v (41 + 4 * q)) else if b = 6 then v (43 + 4 * q) else (-2) : Int32)
    = if S_X9_isIn u g b 0 6 = 0 then (-2) else (if b = 0 then if (g 25 q) ≤ 0 then 0 else 1 else if b = 1 then g 29 q else if b = 2 then g 30 q else if b = 3 then g 31 q else if b = 4 then g 25 q else if b = 5 then (if u 2 = 0 then 0 else S_X9_freeOnes u g q) else g 41 q : Int32) := by
  obtain ⟨r1, r2, r3, r4, r5, r6, r7, r8⟩ := h.2.2.2.1 q hq
  have d2 := (h.2.2.2.2.2.1 q hq).1.2.1
  have e5 := h.free hq
  have e0 := h.le0 hq
  rw [r2, r6, r7, r8, d2, e5]
  have e9 : (if v (4 + 8 * q) = 0 then (0 : Int32) else 1) = if g 25 q ≤ 0 then 0 else 1 := by
    by_cases t : v (4 + 8 * q) = 0
    · rw [if_pos t, if_pos (e0.mp t)]
    · rw [if_neg t, if_neg (fun z => t (e0.mpr z))]
  rw [e9]
  generalize (if g 25 q ≤ 0 then (0 : Int32) else 1) = A0
  generalize g 29 q = A1
  generalize g 30 q = A2
  generalize g 31 q = A3
  generalize g 25 q = A4
  generalize (if u 2 = 0 then (0 : Int32) else S_X9_freeOnes u g q) = A5
  generalize g 41 q = A6
  rw [isin u g b (n := 6) (M := 6) (N := 7) rfl rfl (by decide)]
  by_cases h1 : b < 0
  · rw [if_pos h1, if_pos rfl]
    have hne : ∀ k : Nat, k < 7 → ¬ b = nI k := fun k hk e => by rw [e] at h1; exact nI_pos (by omega) h1
    rw [if_neg (show ¬ b = 0 from hne 0 (by decide)), if_neg (show ¬ b = 1 from hne 1 (by decide)), if_neg (show ¬ b = 2 from hne 2 (by decide)), if_neg (show ¬ b = 3 from hne 3 (by decide)), if_neg (show ¬ b = 4 from hne 4 (by decide)), if_neg (show ¬ b = 5 from hne 5 (by decide)), if_neg (show ¬ b = 6 from hne 6 (by decide))]
  · rw [if_neg h1]
    by_cases h2 : (7 : Int32) ≤ b
    · rw [if_pos h2, if_pos rfl]
      have hne : ∀ k : Nat, k < 7 → ¬ b = nI k := fun k hk e => by rw [e] at h2; exact nI_ge (b := 7) hk (by decide) h2
      rw [if_neg (show ¬ b = 0 from hne 0 (by decide)), if_neg (show ¬ b = 1 from hne 1 (by decide)), if_neg (show ¬ b = 2 from hne 2 (by decide)), if_neg (show ¬ b = 3 from hne 3 (by decide)), if_neg (show ¬ b = 4 from hne 4 (by decide)), if_neg (show ¬ b = 5 from hne 5 (by decide)), if_neg (show ¬ b = 6 from hne 6 (by decide))]
    · rw [if_neg h2, if_neg (show ¬ (1 : Int32) = 0 by decide)]
      rcases s7 h1 h2 with e | e | e | e | e | e | e
      all_goals subst e
      all_goals rfl
theorem sim_told {c9 : Nat} {v : Nat → Int32} {f : Nat → Nat → Int32} {u : Nat → Int32} {g : Nat → Nat → Int32} (h : SIM c9 v f u g) (hc : c9 + 1 ≤ 512) (a : Int32) (b : Int32) : (S_X8_told v f a b) = (S_X9_told u g a b) ∧ SIM (c9 + 1) (v) (f) (u) (g) := by
  refine ⟨?_, h.up hc⟩
  have t0 := told_q h (q := 0) (by decide) b
  have t1 := told_q h (q := 1) (by decide) b
  have t2 := told_q h (q := 2) (by decide) b
  unfold S_X8_told S_X9_told
  rw [isin_q v u f g]
  by_cases hz : S_X8_isQueue v f a = 0
  · rw [if_pos hz, if_pos hz]
  · rw [if_neg hz, if_neg hz]
    by_cases hb : S_X9_isIn u g b 0 6 = 0
    · rw [if_pos hb] at t0 t1 t2
      rw [if_pos hb]
      by_cases a0 : a = 0
      · rw [if_pos a0]; exact t0
      · rw [if_neg a0]
        by_cases a1 : a = 1
        · rw [if_pos a1]; exact t1
        · rw [if_neg a1]; exact t2
    · rw [if_neg hb] at t0 t1 t2
      rw [if_neg hb]
      by_cases a0 : a = 0
      · rw [if_pos a0, if_pos a0]; exact t0
      · rw [if_neg a0, if_neg a0]
        by_cases a1 : a = 1
        · rw [if_pos a1, if_pos a1]; exact t1
        · rw [if_neg a1, if_neg a1]; exact t2
theorem sub15 : ∀ x : Nat, x < 16 → ∀ a : Nat, a < 16 → ((nI x - nI a) &&& 15) = nI ((x + 16 - a) % 16) := by decide +kernel
theorem sim_wire {c9 : Nat} {v : Nat → Int32} {f : Nat → Nat → Int32} {u : Nat → Int32} {g : Nat → Nat → Int32} (h : SIM c9 v f u g) (hc : c9 + 1 ≤ 512) (a : Int32) (b : Int32) : (S_X8_wire v f a b) = (S_X9_wire u g a b) ∧ SIM (c9 + 1) (v) (f) (u) (g) := by
  refine ⟨?_, h.up hc⟩
  obtain ⟨⟨n, e1, e2, e3, e4⟩, h5⟩ := h.2.2.2.2.1
  have h8 : c9 ≤ 512 := h.2.2.2.2.2.2.2
  have hs := h.minv.2.2
  unfold S_X8_wire S_X7_byteOf S_X9_wire Q_X9_wire_1 Q_X9_wire_2
  rw [e1, e3]
  have hmin : (if 16 < nI n then 16 else nI n) - 1 = nI (min 16 n) - 1 := by
    by_cases c : 16 < n
    · rw [if_pos (show (16 : Int32) < nI n from nI_lt (a := 16) c (by omega)), Nat.min_eq_left (by omega)]; rfl
    · rw [if_neg (show ¬ (16 : Int32) < nI n from nI_nlt (a := 16) (by omega) (by decide)), Nat.min_eq_right (by omega)]
  rw [hmin]
  by_cases a0 : a < 0
  · rw [if_pos a0]
    unfold S_X9_isIn
    rw [if_pos a0, if_pos rfl]
  · rw [if_neg a0]
    obtain ⟨j, hj, rfl⟩ := nI_of a0
    have hin : S_X9_isIn u g (nI j) 0 (nI (min 16 n) - 1) = if j < min 16 n then 1 else 0 := by
      unfold S_X9_isIn
      rw [if_neg (nI_pos hj)]
      by_cases z : j < min 16 n
      · rw [if_pos z, if_neg]
        rw [show (1 : Int32) = nI 1 from rfl, pk_sub (by omega), nI_ltI (by omega) hj]
        omega
      · rw [if_neg z, if_pos]
        rw [Int32.lt_iff_toInt_lt, show (1 : Int32) = nI 1 from rfl, pk_sub_toInt (by omega) (by decide), nI_toInt hj]
        omega
    rw [hin]
    by_cases j16 : j < 16
    · rw [if_pos (show nI j < 16 from nI_lt (b := 16) j16 (by decide))]
      rw [sub15 _ (Nat.mod_lt n (by decide)) j j16, nI_clamp (by omega)]
      by_cases jn : j < n
      · rw [if_pos (show j < min 16 n by omega), if_neg (show ¬ (1 : Int32) = 0 by decide)]
        have eS : (nI n - 1 - nI j) - (nI n - 1 - nI j) / 16 * 16 = nI ((n - 1 - j) % 16) := by
          rw [show (1 : Int32) = nI 1 from rfl, pk_sub (by omega), pk_sub (by omega)]
          exact pk_rem (d := 16) (by omega) (by decide) (by decide)
        rw [eS, nI_clamp (by omega)]
        have hs1 : (n % 16 + 16 - j) % 16 = ((n - 1 - j) % 16 + 1) % 16 := by omega
        obtain ⟨w1, w2⟩ := h5 ((n - 1 - j) % 16) (Nat.mod_lt _ (by decide))
        rw [hs1, w1]
        obtain ⟨z1, z2⟩ := hs ((n - 1 - j) % 16) (Nat.mod_lt _ (by decide))
        have ez : g 37 ((n - 1 - j) % 16) = nI (g 37 ((n - 1 - j) % 16)).toInt.toNat := Int32.toInt_inj.mp (by rw [nI_toInt (by omega)]; omega)
        generalize hz : (g 37 ((n - 1 - j) % 16)).toInt.toNat = Z at ez
        rw [ez]
        by_cases b0 : b < 0
        · rw [if_pos b0]
          unfold S_X9_isIn
          rw [if_pos b0, if_pos rfl]
        · rw [if_neg b0]
          obtain ⟨k, hk, rfl⟩ := nI_of b0
          unfold S_X9_isIn
          rw [if_neg b0]
          by_cases kz : Z ≤ k
          · have hk9 : nI Z - 1 < nI k := by
              rw [Int32.lt_iff_toInt_lt, show (1 : Int32) = nI 1 from rfl, pk_sub_toInt (by omega) (by decide), nI_toInt hk]
              omega
            rw [if_pos ((nI_leI (by omega) hk).mpr kz), if_pos hk9, if_pos rfl]
          · have hk9 : ¬ nI Z - 1 < nI k := by
              rw [show (1 : Int32) = nI 1 from rfl, pk_sub (by omega), nI_ltI (by omega) hk]
              omega
            rw [if_neg (fun t => kz ((nI_leI (by omega) hk).mp t)), if_neg hk9, if_neg (show ¬ (1 : Int32) = 0 by decide)]
            rw [show (80 : Int32) = nI 80 from rfl, pk_mul, pk_mul, nI_add, nI_add, nI_clamp (by omega), nI_clamp (by omega), Nat.mul_comm _ 80, w2 k (by omega)]
      · rw [if_neg (show ¬ j < min 16 n by omega), if_pos rfl]
        have hs1 : (n % 16 + 16 - j) % 16 = ((n + 15 - j) % 16 + 1) % 16 := by omega
        obtain ⟨w1, w2⟩ := h5 ((n + 15 - j) % 16) (Nat.mod_lt _ (by decide))
        rw [hs1, w1, e4 ((n + 15 - j) % 16) (Nat.mod_lt _ (by decide)) (by omega)]
        by_cases b0 : b < 0
        · rw [if_pos b0]
        · rw [if_neg b0, if_pos]
          rw [Int32.le_iff_toInt_le]; rw [Int32.lt_iff_toInt_lt] at b0
          omega
    · rw [if_neg (show ¬ nI j < 16 from nI_nlt (b := 16) (by omega) hj), if_neg (show ¬ j < min 16 n by omega), if_pos rfl]
