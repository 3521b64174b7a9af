theorem SIM.geq {c : Nat} {v : Nat → Int32} {f : Nat → Nat → Int32} {u : Nat → Int32} {g g' : Nat → Nat → Int32} (h : SIM c v f u g) (hg : ∀ j : Nat, g' j = g j) : SIM c v f u g' := by rw [show g' = g from funext hg]; exact h
theorem or_32 {a b : Nat} (ha : a < 2 ^ 32) (hb : b < 2 ^ 32) : nI a ||| nI b = nI (a ||| b) := by
  apply Int32.toBitVec_inj.mp
  rw [Int32.toBitVec_or]
  apply BitVec.eq_of_toNat_eq
  rw [BitVec.toNat_or, pk_tn ha, pk_tn hb, pk_tn (Nat.or_lt_two_pow ha hb)]
theorem nb_cg {F G : Nat → Int32} {p : Nat} : ∀ {N : Nat}, (∀ k : Nat, k < N → F (p + k) = G (p + k)) → nb F p N = nb G p N
  | 0, _ => rfl
  | N + 1, h => by
    show nb F p N + _ = nb G p N + _
    rw [nb_cg (fun k hk => h k (by omega)), h N (by omega)]
theorem two_C (v : Nat → Int32) (f : Nat → Nat → Int32) (p : Nat) (hp : p + 2 ≤ 4096) : S_X5_two v f (nI p) = nI (nb (f 2) p 2) := by
  unfold S_X5_two
  have b1 := bt8_lt (f 2 p)
  have b2 := bt8_lt (f 2 (p + 1))
  rw [nI_1, at_C v f p (by omega), at_C v f (p + 1) (by omega), pk_shlN (n := bt8 (f 2 (p + 1))) (8 &&& 31) 8 rfl (by omega), or_32 (by omega) (by omega)]
  congr 1
  show _ = 0 + 256 ^ 0 * bt8 (f 2 p) + 256 ^ 1 * bt8 (f 2 (p + 1))
  rw [Nat.or_comm, ← Nat.shiftLeft_eq, ← Nat.shiftLeft_add_eq_or_of_lt (by omega), Nat.shiftLeft_eq]
  omega
theorem cm_z {G K : Nat → Int32} {q r : Nat} : ∀ {n : Nat}, ¬ cm G K q r n = 0 → ∃ e : Nat, e < n ∧ ¬ G (8 * q + e) = 0 ∧ K (8 * q + e) = nI r
  | 0, h => absurd rfl h
  | n + 1, h => by
    by_cases c1 : G (8 * q + n) = 0
    · have e : cm G K q r (n + 1) = cm G K q r n := by
        show cm G K q r n + (if G (8 * q + n) = 0 then 0 else _) = _
        rw [if_pos c1]; rfl
      obtain ⟨e9, a, b⟩ := cm_z (n := n) (by rw [← e]; exact h)
      exact ⟨e9, by omega, b⟩
    · by_cases c2 : K (8 * q + n) = nI r
      · exact ⟨n, by omega, c1, c2⟩
      · have e : cm G K q r (n + 1) = cm G K q r n := by
          show cm G K q r n + (if G (8 * q + n) = 0 then 0 else if K (8 * q + n) = nI r then 2 ^ n else 0) = _
          rw [if_neg c1, if_neg c2]; rfl
        obtain ⟨e9, a, b⟩ := cm_z (n := n) (by rw [← e]; exact h)
        exact ⟨e9, by omega, b⟩
theorem fm_back {G G' K : Nat → Int32} {q r : Nat} (h : ∀ e : Nat, e < 8 → (¬ G (8 * q + e) = 0 ∧ K (8 * q + e) = nI r → G' (8 * q + e) = 0) ∧ (¬ (¬ G (8 * q + e) = 0 ∧ K (8 * q + e) = nI r) → G' (8 * q + e) = G (8 * q + e))) : fm G q 8 ||| cm G K q r 8 = fm G' q 8 := by
  apply Nat.eq_of_testBit_eq
  intro i
  rw [Nat.testBit_or]
  by_cases hi : i < 8
  · rw [Nat.testBit_eq_decide_div_mod_eq, Nat.testBit_eq_decide_div_mod_eq, Nat.testBit_eq_decide_div_mod_eq, fm_bit G q 8 i hi, fm_bit G' q 8 i hi, cm_bit G K q r 8 i hi]
    obtain ⟨h1, h2⟩ := h i hi
    by_cases c1 : G (8 * q + i) = 0
    · rw [h2 (fun t => t.1 c1), if_pos c1, if_pos c1]; rfl
    · by_cases c2 : K (8 * q + i) = nI r
      · rw [h1 ⟨c1, c2⟩, if_neg c1, if_neg c1, if_pos c2, if_pos rfl]; rfl
      · rw [h2 (fun t => c2 t.2), if_neg c1, if_neg c1, if_neg c2]; rfl
  · have hp : (2 : Nat) ^ 8 ≤ 2 ^ i := Nat.pow_le_pow_right (by decide) (by omega)
    rw [Nat.testBit_lt_two_pow (Nat.lt_of_lt_of_le (fm_lt G q 8) hp), Nat.testBit_lt_two_pow (Nat.lt_of_lt_of_le (fm_lt G' q 8) hp), Nat.testBit_lt_two_pow (Nat.lt_of_lt_of_le (cm_lt G K q r 8) hp)]
    rfl
theorem cm_back {G G' K K' : Nat → Int32} {q r d : Nat} (hr : r < 8) (hd : d < 8) (h : ∀ e : Nat, e < 8 → (¬ G (8 * q + e) = 0 ∧ K (8 * q + e) = nI r → G' (8 * q + e) = 0) ∧ (¬ (¬ G (8 * q + e) = 0 ∧ K (8 * q + e) = nI r) → G' (8 * q + e) = G (8 * q + e) ∧ K' (8 * q + e) = K (8 * q + e))) : ∀ n : Nat, n ≤ 8 → cm G' K' q d n = if d = r then 0 else cm G K q d n
  | 0, _ => by split <;> rfl
  | n + 1, hn => by
    have ih := cm_back hr hd h n (by omega)
    show cm G' K' q d n + (if G' (8 * q + n) = 0 then 0 else if K' (8 * q + n) = nI d then 2 ^ n else 0) = if d = r then 0 else cm G K q d n + (if G (8 * q + n) = 0 then 0 else if K (8 * q + n) = nI d then 2 ^ n else 0)
    rw [ih]
    obtain ⟨h1, h2⟩ := h n (by omega)
    by_cases c : ¬ G (8 * q + n) = 0 ∧ K (8 * q + n) = nI r
    · rw [if_pos (h1 c)]
      by_cases e : d = r
      · rw [if_pos e, if_pos e]
      · rw [if_neg e, if_neg e, if_neg c.1, c.2, if_neg (fun t => e ((nI_eq (by omega) (by omega)).mp t).symm)]
    · rw [(h2 c).1, (h2 c).2]
      by_cases e : d = r
      · rw [if_pos e, if_pos e, e]
        by_cases c1 : G (8 * q + n) = 0
        · rw [if_pos c1]
        · rw [if_neg c1, if_neg (fun t => c ⟨c1, t⟩)]
      · rw [if_neg e, if_neg e]
/-- those lent under r come back -/
theorem SIM.back {c : Nat} {v : Nat → Int32} {f : Nat → Nat → Int32} {u : Nat → Int32} {g : Nat → Nat → Int32} (h : SIM c v f u g) (h2 : u 2 = 1) {q r : Nat} (hq : q < 3) (hr : r < 8) {G' K' : Nat → Int32} (hG : ∀ e : Nat, e < 8 → (¬ g 38 (8 * q + e) = 0 ∧ g 39 (8 * q + e) = nI r → G' (8 * q + e) = 0) ∧ (¬ (¬ g 38 (8 * q + e) = 0 ∧ g 39 (8 * q + e) = nI r) → G' (8 * q + e) = g 38 (8 * q + e) ∧ K' (8 * q + e) = g 39 (8 * q + e))) (hO : ∀ x : Nat, (x < 8 * q ∨ 8 * q + 8 ≤ x) → G' x = g 38 x ∧ K' x = g 39 x) : SIM c (upd v (41 + 4 * q) ((v (41 + 4 * q)) ||| (f (17 + 2 * q) r))) (va_up f (17 + 2 * q) (upd (f (17 + 2 * q)) r 0)) u (va_up (va_up g 38 G') 39 K') := by
  obtain ⟨⟨a1, a2, a3, a4, a5, a6, a7, a8, a9, a10⟩, b1, b2, h4, h5, h6, h7, h8⟩ := h
  obtain ⟨l1, l2, l3⟩ := (h6 q hq).2
  obtain ⟨m1, m2⟩ := l1 h2
  have e1 : v (41 + 4 * q) ||| f (17 + 2 * q) r = nI (fm G' q 8) := by
    have w1 := fm_lt (g 38) q 8
    have w2 := cm_lt (g 38) (g 39) q r 8
    rw [m1, m2 r hr, or_32 (by omega) (by omega), fm_back (G := g 38) (G' := G') (K := g 39) (fun e he => ⟨(hG e he).1, fun t => ((hG e he).2 t).1⟩)]
  rw [e1]
  refine ⟨?_, ?_, ?_, fun t ht => ?_, ?_, fun t ht => ?_, ?_, h8⟩
  · unfold NUMS
    simp (disch := omega) only [pk_un]
    exact ⟨a1, a2, a3, a4, a5, a6, a7, a8, a9, a10⟩
  · simp (disch := omega) only [va_up_ne]
    exact b1
  · simp (disch := omega) only [va_up_ne]
    exact b2
  · have h9 := h4 t ht
    unfold RING at h9 ⊢
    simp (disch := omega) only [pk_un, va_up_ne]
    exact h9
  · unfold WIRE at h5 ⊢
    simp (disch := omega) only [pk_un, va_up_ne]
    exact h5
  · obtain ⟨h9, h10⟩ := h6 t ht
    refine ⟨?_, ?_⟩
    · unfold DRIV at h9 ⊢
      simp (disch := omega) only [pk_un, va_up_ne]
      exact h9
    · refine ⟨fun _ => ?_, fun h0 => absurd (h2.symm.trans h0) (by decide), fun e he => ?_⟩
      · simp (disch := omega) only [va_up_ne, va_up_self]
        by_cases e : t = q
        · subst e
          simp (disch := omega) only [pk_us, va_up_self]
          refine ⟨trivial, fun d9 hd9 => ?_⟩
          rw [cm_back hr hd9 hG 8 (Nat.le_refl 8)]
          by_cases e9 : d9 = r
          · rw [e9, pk_us, if_pos rfl]; rfl
          · rw [pk_un e9, if_neg e9]
            exact m2 d9 hd9
        · simp (disch := omega) only [pk_un, va_up_ne]
          obtain ⟨n1, n2⟩ := h10.1 h2
          refine ⟨?_, fun d9 hd9 => ?_⟩
          · rw [n1, fm_cg (G := g 38) (fun e9 he9 => (hO _ (by omega)).1)]
          · rw [n2 d9 hd9, cm_cg (G := g 38) (K := g 39) (fun e9 he9 => hO _ (by omega))]
      · simp (disch := omega) only [va_up_ne, va_up_self]
        by_cases e9 : t = q
        · subst e9
          by_cases c : ¬ g 38 (8 * t + e) = 0 ∧ g 39 (8 * t + e) = nI r
          · exact Or.inl ((hG e he).1 c)
          · rw [((hG e he).2 c).1, ((hG e he).2 c).2]
            rcases h10.2.2 e he with q1 | ⟨q1, d9, q2, q3, q4, q5⟩
            · exact Or.inl q1
            · refine Or.inr ⟨q1, d9, q2, q3, ?_⟩
              have hn : ¬ (¬ g 38 (8 * t + d9) = 0 ∧ g 39 (8 * t + d9) = nI r) := fun t9 => c ⟨by rw [q1]; decide, by rw [q3, ← q5]; exact t9.2⟩
              rw [((hG d9 q2).2 hn).1, ((hG d9 q2).2 hn).2]
              exact ⟨q4, q5⟩
        · rw [(hO (8 * t + e) (by omega)).1, (hO (8 * t + e) (by omega)).2]
          rcases h10.2.2 e he with q1 | ⟨q1, d9, q2, q3, q4, q5⟩
          · exact Or.inl q1
          · refine Or.inr ⟨q1, d9, q2, q3, ?_⟩
            rw [(hO (8 * t + d9) (by omega)).1, (hO (8 * t + d9) (by omega)).2]
            exact ⟨q4, q5⟩
  · unfold MInv QU at h7 ⊢
    simp (disch := omega) only [va_up_ne]
    exact h7
theorem lcmp8 {x : Int32} {r : Nat} (hr : r < 8) : (lg_cmp x.toInt64 (lN r) = 0) ↔ x = nI r := by
  rw [lg_cmp_eq, ← nI_l (show r < 2 ^ 31 by omega)]
  exact ⟨fun h => Int32.toInt_inj.mp (by have := congrArg Int64.toInt h; rwa [Int32.toInt_toInt64, Int32.toInt_toInt64] at this), fun h => by rw [h]⟩
theorem co_o0 (u : Nat → Int32) (g : Nat → Nat → Int32) (a : Int32) (j : Nat) (h1 : j ≠ 38) (h2 : j ≠ 39) : ∀ n : Nat, L_X9_collect u g a n j = L_X9_collect u g a 0 j := by
  intro n
  generalize hX : L_X9_collect u g a 0 j = X
  induction n with
  | zero => exact hX
  | succ n ih =>
    rw [L_X9_collect]
    split
    · exact ih
    · split
      · rw [va_up_ne _ _ h2, va_up_ne _ _ h1]; exact ih
      · exact ih
theorem co_l0 (u : Nat → Int32) (g : Nat → Nat → Int32) (a : Int32) (r : Nat) (hr : r < 8) (hQ : Q_X9_collect_2 u g a = lN r) : ∀ n : Nat, n ≤ 8 → (∀ e : Nat, e < n → (¬ g 38 (8 * 0 + e) = 0 ∧ g 39 (8 * 0 + e) = nI r → L_X9_collect u g a n 38 (8 * 0 + e) = 0) ∧ (¬ (¬ g 38 (8 * 0 + e) = 0 ∧ g 39 (8 * 0 + e) = nI r) → L_X9_collect u g a n 38 (8 * 0 + e) = g 38 (8 * 0 + e) ∧ L_X9_collect u g a n 39 (8 * 0 + e) = g 39 (8 * 0 + e))) ∧ (∀ x : Nat, (x < 8 * 0 ∨ 8 * 0 + n ≤ x) → L_X9_collect u g a n 38 x = g 38 x ∧ L_X9_collect u g a n 39 x = g 39 x) := by
  intro n
  induction n with
  | zero => intro _; exact ⟨fun e he => absurd he (Nat.not_lt_zero e), fun x _ => by rw [L_X9_collect]; exact ⟨rfl, rfl⟩⟩
  | succ n ih =>
    intro hn
    obtain ⟨i1, i2⟩ := ih (by omega)
    obtain ⟨j1, j2⟩ := i2 (8 * 0 + n) (by omega)
    rw [L_X9_collect, hQ, j1, j2]
    generalize L_X9_collect u g a n = Y at i1 i2 j1 j2
    by_cases c1 : g 38 (8 * 0 + n) = 0
    · rw [if_pos c1]
      refine ⟨fun e he => ?_, fun x hx => i2 x (by omega)⟩
      by_cases e9 : e = n
      · subst e9
        exact ⟨fun t => absurd c1 t.1, fun _ => ⟨j1, j2⟩⟩
      · exact i1 e (by omega)
    · rw [if_neg c1]
      by_cases c2 : g 39 (8 * 0 + n) = nI r
      · rw [if_pos ((lcmp8 hr).mpr c2)]
        simp (disch := omega) only [va_up_ne, va_up_self]
        refine ⟨fun e he => ?_, fun x hx => ?_⟩
        · by_cases e9 : e = n
          · subst e9
            rw [pk_us, pk_us]
            exact ⟨fun _ => rfl, fun t => absurd ⟨c1, c2⟩ t⟩
          · rw [pk_un (by omega), pk_un (by omega)]
            exact i1 e (by omega)
        · rw [pk_un (by omega), pk_un (by omega)]
          exact i2 x (by omega)
      · rw [if_neg (fun t => c2 ((lcmp8 hr).mp t))]
        refine ⟨fun e he => ?_, fun x hx => i2 x (by omega)⟩
        by_cases e9 : e = n
        · subst e9
          exact ⟨fun t => absurd t.2 c2, fun _ => ⟨j1, j2⟩⟩
        · exact i1 e (by omega)
theorem cq_0 {c9 : Nat} {v : Nat → Int32} {f : Nat → Nat → Int32} {u : Nat → Int32} {g : Nat → Nat → Int32} (h : SIM c9 v f u g) (a : Int32) (h2 : u 2 = 1) (A : Int32 × (Nat → Nat → Int32)) (hA1 : A = if (((Q_X9_collect_1 u g a) : Int64).toInt32) = ((g 41) 0) then ((-1), g)
        else if 0 < (lg_cmp (Q_X9_collect_2 u g a) 7) then ((-3), (va_up g 41 (upd (g 41) 0 ((((g 41) 0) + 1) &&& 65535))))
          else if (((va_up g 41 (upd (g 41) 0 ((((g 41) 0) + 1) &&& 65535))) 38) (((nI (8 * 0)) + (((Q_X9_collect_2 u g a) : Int64).toInt32))).toNatClampNeg) = 0 then ((-3), (va_up g 41 (upd (g 41) 0 ((((g 41) 0) + 1) &&& 65535))))
            else if (lg_cmp (((((va_up g 41 (upd (g 41) 0 ((((g 41) 0) + 1) &&& 65535))) 39) (((nI (8 * 0)) + (((Q_X9_collect_2 u g a) : Int64).toInt32))).toNatClampNeg)).toInt64) (Q_X9_collect_2 u g a)) = 0 then ((((Q_X9_collect_2 u g a) : Int64).toInt32), (L_X9_collect u g a 8))
              else ((-3), (va_up g 41 (upd (g 41) 0 ((((g 41) 0) + 1) &&& 65535))))) :
    (S_X3_collectOne_0 v f).1 = A.1 ∧ SIM c9 (S_X3_collectOne_0 v f).2.1 (S_X3_collectOne_0 v f).2.2 u A.2 := by
  obtain ⟨t, et, ht⟩ := (h.minv.1 0 (by decide)).2.2.2.2
  have ev : v 43 = g 41 0 := (h.2.2.2.2.2.1 0 (by decide)).1.2.1
  have e40 : v 40 = u 2 := h.1.2.2.2.2.2.1
  have hm : ∀ p N : Nat, p + N ≤ 4096 → nb (f 2) p N = nb (g 23) p N := fun p N hp => nb_cg (fun k hk => h.mem _ (by omega))
  have x1 : (g 41 0 + 1) &&& 65535 = nI ((t + 1) % 65536) := by
    rw [et, nI_1, pk_andN (by omega) (m := 65535) 16 rfl]
  have e8 : g 41 0 - g 41 0 / 8 * 8 = nI (t % 8) := by
    rw [et]; exact pk_rem (d := 8) (by omega) (by decide) (by decide)
  have hA : (nI (256 * 0 + 156) + 8 * nI (t % 8) : Int32) = nI (256 * 0 + 156 + 8 * (t % 8)) := by
    rw [show (8 : Int32) = nI 8 from rfl, pk_mul, nI_add]
  have hB : (nI (256 * 0 + 156 + 8 * (t % 8)) + 4 : Int32) = nI (256 * 0 + 156 + 8 * (t % 8) + 4) := nI_add _ 4
  have k1 : Q_X9_collect_1 u g a = lN (nb (g 23) (256 * 0 + 154) 2) := by
    unfold Q_X9_collect_1
    rw [num_M u g _ 2 (by omega) (by decide)]
  have k2 : Q_X9_collect_2 u g a = lN (nb (g 23) (256 * 0 + 156 + 8 * (t % 8)) 4) := by
    unfold Q_X9_collect_2
    rw [e8, hA, num_M u g _ 4 (by omega) (by decide)]
  have k3 : Q_X9_collect_3 u g a = lN (nb (g 23) (256 * 0 + 156 + 8 * (t % 8) + 4) 4) := by
    unfold Q_X9_collect_3
    rw [e8, hA, hB, num_M u _ _ 4 (by omega) (by decide), va_up_ne _ _ (by decide)]
  have c1 : S_X5_two v f (S_X8_usedOf v f 0 + 2) = nI (nb (g 23) (256 * 0 + 154) 2) := by
    rw [show S_X8_usedOf v f 0 + 2 = nI (256 * 0 + 154) from rfl, two_C v f _ (by omega), hm _ _ (by omega)]
  have c2 : Q_X3_collectOne_0_1 v f = lN (nb (g 23) (256 * 0 + 156 + 8 * (t % 8)) 4) := by
    unfold Q_X3_collectOne_0_1
    rw [ev, e8, show S_X8_usedOf v f 0 + 4 = nI (256 * 0 + 156) from rfl, hA, num_C _ f _ 4 (by omega) (by decide), hm _ _ (by omega)]
  have hSaw := h.saw 0 (x := S_X8_oneMore v f (v 43)) (y := (g 41 0 + 1) &&& 65535) (by unfold S_X8_oneMore; rw [ev]) (by decide) ⟨_, x1, Nat.mod_lt _ (by decide)⟩
  have hlt := nb_lt (g 23) (256 * 0 + 156 + 8 * (t % 8)) 4
  have hlt2 := nb_lt (g 23) (256 * 0 + 156 + 8 * (t % 8) + 4) 4
  generalize hid : nb (g 23) (256 * 0 + 156 + 8 * (t % 8)) 4 = id at k2 c2 hlt
  generalize hwr : nb (g 23) (256 * 0 + 156 + 8 * (t % 8) + 4) 4 = wr at k3 hlt2
  obtain ⟨l1, l2, l3⟩ := (h.2.2.2.2.2.1 0 (by decide)).2
  obtain ⟨m1, m2⟩ := l1 h2
  rw [k1, k2, lN_i, lN_i] at hA1
  rw [hA1]
  unfold S_X3_collectOne_0
  rw [if_neg (show ¬ v 40 = 0 by rw [e40, h2]; decide), c1, ev]
  by_cases e1 : nI (nb (g 23) (256 * 0 + 154) 2) = g 41 0
  · rw [if_pos e1, if_pos e1]
    exact ⟨rfl, h⟩
  · rw [if_neg e1, if_neg e1]
    have l7 : (0 < lg_cmp (lN id) 7) ↔ 7 < id := by
      rw [lg_cmp_gt, Int64.lt_iff_toInt_lt, pk_lT (n := id) (by omega), show (7 : Int64).toInt = 7 from rfl]
      omega
    have n0 : ¬ lg_cmp (lN id) 0 < 0 := by
      rw [lg_cmp_lt, Int64.lt_iff_toInt_lt, pk_lT (n := id) (by omega), show (0 : Int64).toInt = 0 from rfl]
      omega
    have g8 : (0 ≤ lg_cmp (lN id) ((8 : Int32).toInt64)) ↔ 8 ≤ id := by
      rw [lg_cmp_ge, Int64.le_iff_toInt_le, pk_lT (n := id) (by omega), show ((8 : Int32).toInt64).toInt = 8 from rfl]
      omega
    have hbad : ∀ X : Int32 × (Nat → Int32) × (Nat → Nat → Int32), S_X4_takeBack_16 (upd v 43 (S_X8_oneMore v f (v 43))) f (lN id) = X → X = (0, upd v 43 (S_X8_oneMore v f (v 43)), f) → (if Q_X3_collectOne_0_2 v f = 0 then ((-3 : Int32), Q_X3_collectOne_0_3 v f, Q_X3_collectOne_0_4 v f) else ((((Q_X3_collectOne_0_1 v f) : Int64).toInt32), (upd (Q_X3_collectOne_0_3 v f) 44 ((((Q_X3_collectOne_0_5 v f) : Int64).toInt32) &&& 2147483647)), (Q_X3_collectOne_0_4 v f))) = ((-3 : Int32), upd v 43 (S_X8_oneMore v f (v 43)), f) := by
      intro X hX hX2
      have t2 : Q_X3_collectOne_0_2 v f = 0 := by unfold Q_X3_collectOne_0_2; rw [c2, hX, hX2]
      rw [if_pos t2]
      unfold Q_X3_collectOne_0_3 Q_X3_collectOne_0_4
      rw [c2, hX, hX2]
    by_cases e2 : 7 < id
    · rw [if_pos (l7.mpr e2), hbad _ rfl (by unfold S_X4_takeBack_16; rw [if_neg n0, if_pos (g8.mpr (by omega))])]
      exact ⟨rfl, hSaw⟩
    · rw [if_neg (fun z => e2 (l7.mp z)), nI_add, nI_clamp (by omega), va_up_ne _ _ (show 38 ≠ 41 by decide), va_up_ne _ _ (show 39 ≠ 41 by decide)]
      have hid8 : id < 8 := by omega
      have hf : f 17 ((lN id).toInt32).toNatClampNeg = nI (cm (g 38) (g 39) 0 id 8) := by
        rw [lN_i, nI_clamp (by omega)]; exact m2 id hid8
      have hcl := cm_lt (g 38) (g 39) 0 id 8
      by_cases e3 : ¬ g 38 (8 * 0 + id) = 0 ∧ g 39 (8 * 0 + id) = nI id
      · rw [if_neg e3.1, if_pos ((lcmp8 hid8).mpr e3.2)]
        have hne : ¬ cm (g 38) (g 39) 0 id 8 = 0 := fun z => by
          have := cm_bit (g 38) (g 39) 0 id 8 id hid8
          rw [z, if_neg e3.1, if_pos e3.2, Nat.zero_div] at this
          exact absurd this (by decide)
        have hT : S_X4_takeBack_16 (upd v 43 (S_X8_oneMore v f (v 43))) f (lN id) = (1, upd (upd v 43 (S_X8_oneMore v f (v 43))) 41 (upd v 43 (S_X8_oneMore v f (v 43)) 41 ||| f 17 id), va_up f 17 (upd (f 17) id 0)) := by
          unfold S_X4_takeBack_16
          rw [if_neg n0, if_neg (fun z => e2 (by have := g8.mp z; omega)), if_neg (by rw [hf]; exact nI_ne0 (by omega) (by omega)), lN_i, nI_clamp (by omega)]
        have t2 : ¬ Q_X3_collectOne_0_2 v f = 0 := by unfold Q_X3_collectOne_0_2; rw [c2, hT]; exact (show ¬ (1 : Int32) = 0 by decide)
        have c5 : Q_X3_collectOne_0_5 v f = lN wr := by
          unfold Q_X3_collectOne_0_5 Q_X3_collectOne_0_4
          rw [c2, hT, ev, e8, show S_X8_usedOf v f 0 + 4 = nI (256 * 0 + 156) from rfl, hA, hB, num_C _ _ _ 4 (by omega) (by decide)]
          dsimp only
          rw [va_up_ne _ _ (by decide), hm _ _ (by omega), hwr]
        rw [if_neg t2, c5, c2, lN_i, lN_i]
        unfold Q_X3_collectOne_0_3 Q_X3_collectOne_0_4
        rw [c2, hT]
        refine ⟨rfl, ?_⟩
        dsimp only
        obtain ⟨o1, o2⟩ := co_l0 u g a id hid8 k2 8 (Nat.le_refl 8)
        have hB9 := hSaw.back h2 (q := 0) (r := id) (by decide) hid8 (G' := L_X9_collect u g a 8 38) (K' := L_X9_collect u g a 8 39) o1 (fun x hx => o2 x hx)
        have wE : (nI wr &&& 2147483647) = (((lN wr) &&& 2147483647 : Int64).toInt32) := by
          rw [pk_andN (by omega) (m := 2147483647) 31 rfl, show (2147483647 : Int64) = lN (2 ^ 31 - 1) from rfl, wb_mask (by omega) (by decide), lN_i]
        have hL9 := hB9.lat 0 (x := nI wr &&& 2147483647) (y := (((lN wr) &&& 2147483647 : Int64).toInt32)) wE (by decide)
        refine hL9.geq (fun j => ?_)
        by_cases j42 : j = 42
        · subst j42
          rw [va_up_self, co_o0 u g a 42 (by decide) (by decide) 8, L_X9_collect, va_up_self, k3]
          simp (disch := omega) only [va_up_ne]
        · rw [va_up_ne _ _ j42]
          by_cases j39 : j = 39
          · subst j39; rw [va_up_self]
          · rw [va_up_ne _ _ j39]
            by_cases j38 : j = 38
            · subst j38; rw [va_up_self]
            · rw [va_up_ne _ _ j38, co_o0 u g a j j38 j39 8, L_X9_collect, va_up_ne _ _ j42]
      · have hz : cm (g 38) (g 39) 0 id 8 = 0 := by
          by_cases z : cm (g 38) (g 39) 0 id 8 = 0
          · exact z
          · obtain ⟨e, he, w1, w2⟩ := cm_z z
            rcases l3 e he with q1 | ⟨q1, d9, q2, q3, q4, q5⟩
            · exact absurd q1 w1
            · have : d9 = id := (nI_eq (by omega) (by omega)).mp (q3.symm.trans w2)
              subst this
              exact absurd ⟨by rw [q4]; decide, q5⟩ e3
        rw [hbad _ rfl (by unfold S_X4_takeBack_16; rw [if_neg n0, if_neg (fun z => e2 (by have := g8.mp z; omega)), if_pos (by rw [hf, hz]; rfl)])]
        by_cases e4 : g 38 (8 * 0 + id) = 0
        · rw [if_pos e4]; exact ⟨rfl, hSaw⟩
        · rw [if_neg e4, if_neg (fun z => e3 ⟨e4, (lcmp8 hid8).mp z⟩)]; exact ⟨rfl, hSaw⟩
theorem co_o1 (u : Nat → Int32) (g : Nat → Nat → Int32) (a : Int32) (j : Nat) (h1 : j ≠ 38) (h2 : j ≠ 39) : ∀ n : Nat, L_X9_collect2 u g a n j = L_X9_collect2 u g a 0 j := by
  intro n
  generalize hX : L_X9_collect2 u g a 0 j = X
  induction n with
  | zero => exact hX
  | succ n ih =>
    rw [L_X9_collect2]
    split
    · exact ih
    · split
      · rw [va_up_ne _ _ h2, va_up_ne _ _ h1]; exact ih
      · exact ih
theorem co_l1 (u : Nat → Int32) (g : Nat → Nat → Int32) (a : Int32) (r : Nat) (hr : r < 8) (hQ : Q_X9_collect_5 u g a = lN r) : ∀ n : Nat, n ≤ 8 → (∀ e : Nat, e < n → (¬ g 38 (8 * 1 + e) = 0 ∧ g 39 (8 * 1 + e) = nI r → L_X9_collect2 u g a n 38 (8 * 1 + e) = 0) ∧ (¬ (¬ g 38 (8 * 1 + e) = 0 ∧ g 39 (8 * 1 + e) = nI r) → L_X9_collect2 u g a n 38 (8 * 1 + e) = g 38 (8 * 1 + e) ∧ L_X9_collect2 u g a n 39 (8 * 1 + e) = g 39 (8 * 1 + e))) ∧ (∀ x : Nat, (x < 8 * 1 ∨ 8 * 1 + n ≤ x) → L_X9_collect2 u g a n 38 x = g 38 x ∧ L_X9_collect2 u g a n 39 x = g 39 x) := by
  intro n
  induction n with
  | zero => intro _; exact ⟨fun e he => absurd he (Nat.not_lt_zero e), fun x _ => by rw [L_X9_collect2]; exact ⟨rfl, rfl⟩⟩
  | succ n ih =>
    intro hn
    obtain ⟨i1, i2⟩ := ih (by omega)
    obtain ⟨j1, j2⟩ := i2 (8 * 1 + n) (by omega)
    rw [L_X9_collect2, hQ, j1, j2]
    generalize L_X9_collect2 u g a n = Y at i1 i2 j1 j2
    by_cases c1 : g 38 (8 * 1 + n) = 0
    · rw [if_pos c1]
      refine ⟨fun e he => ?_, fun x hx => i2 x (by omega)⟩
      by_cases e9 : e = n
      · subst e9
        exact ⟨fun t => absurd c1 t.1, fun _ => ⟨j1, j2⟩⟩
      · exact i1 e (by omega)
    · rw [if_neg c1]
      by_cases c2 : g 39 (8 * 1 + n) = nI r
      · rw [if_pos ((lcmp8 hr).mpr c2)]
        simp (disch := omega) only [va_up_ne, va_up_self]
        refine ⟨fun e he => ?_, fun x hx => ?_⟩
        · by_cases e9 : e = n
          · subst e9
            rw [pk_us, pk_us]
            exact ⟨fun _ => rfl, fun t => absurd ⟨c1, c2⟩ t⟩
          · rw [pk_un (by omega), pk_un (by omega)]
            exact i1 e (by omega)
        · rw [pk_un (by omega), pk_un (by omega)]
          exact i2 x (by omega)
      · rw [if_neg (fun t => c2 ((lcmp8 hr).mp t))]
        refine ⟨fun e he => ?_, fun x hx => i2 x (by omega)⟩
        by_cases e9 : e = n
        · subst e9
          exact ⟨fun t => absurd t.2 c2, fun _ => ⟨j1, j2⟩⟩
        · exact i1 e (by omega)
theorem cq_1 {c9 : Nat} {v : Nat → Int32} {f : Nat → Nat → Int32} {u : Nat → Int32} {g : Nat → Nat → Int32} (h : SIM c9 v f u g) (a : Int32) (h2 : u 2 = 1) (A : Int32 × (Nat → Nat → Int32)) (hA1 : A = if (((Q_X9_collect_4 u g a) : Int64).toInt32) = ((g 41) 1) then ((-1), g)
        else if 0 < (lg_cmp (Q_X9_collect_5 u g a) 7) then ((-3), (va_up g 41 (upd (g 41) 1 ((((g 41) 1) + 1) &&& 65535))))
          else if (((va_up g 41 (upd (g 41) 1 ((((g 41) 1) + 1) &&& 65535))) 38) (((nI (8 * 1)) + (((Q_X9_collect_5 u g a) : Int64).toInt32))).toNatClampNeg) = 0 then ((-3), (va_up g 41 (upd (g 41) 1 ((((g 41) 1) + 1) &&& 65535))))
            else if (lg_cmp (((((va_up g 41 (upd (g 41) 1 ((((g 41) 1) + 1) &&& 65535))) 39) (((nI (8 * 1)) + (((Q_X9_collect_5 u g a) : Int64).toInt32))).toNatClampNeg)).toInt64) (Q_X9_collect_5 u g a)) = 0 then ((((Q_X9_collect_5 u g a) : Int64).toInt32), (L_X9_collect2 u g a 8))
              else ((-3), (va_up g 41 (upd (g 41) 1 ((((g 41) 1) + 1) &&& 65535))))) :
    (S_X3_collectOne_1 v f).1 = A.1 ∧ SIM c9 (S_X3_collectOne_1 v f).2.1 (S_X3_collectOne_1 v f).2.2 u A.2 := by
  obtain ⟨t, et, ht⟩ := (h.minv.1 1 (by decide)).2.2.2.2
  have ev : v 47 = g 41 1 := (h.2.2.2.2.2.1 1 (by decide)).1.2.1
  have e40 : v 40 = u 2 := h.1.2.2.2.2.2.1
  have hm : ∀ p N : Nat, p + N ≤ 4096 → nb (f 2) p N = nb (g 23) p N := fun p N hp => nb_cg (fun k hk => h.mem _ (by omega))
  have x1 : (g 41 1 + 1) &&& 65535 = nI ((t + 1) % 65536) := by
    rw [et, nI_1, pk_andN (by omega) (m := 65535) 16 rfl]
  have e8 : g 41 1 - g 41 1 / 8 * 8 = nI (t % 8) := by
    rw [et]; exact pk_rem (d := 8) (by omega) (by decide) (by decide)
  have hA : (nI (256 * 1 + 156) + 8 * nI (t % 8) : Int32) = nI (256 * 1 + 156 + 8 * (t % 8)) := by
    rw [show (8 : Int32) = nI 8 from rfl, pk_mul, nI_add]
  have hB : (nI (256 * 1 + 156 + 8 * (t % 8)) + 4 : Int32) = nI (256 * 1 + 156 + 8 * (t % 8) + 4) := nI_add _ 4
  have k1 : Q_X9_collect_4 u g a = lN (nb (g 23) (256 * 1 + 154) 2) := by
    unfold Q_X9_collect_4
    rw [num_M u g _ 2 (by omega) (by decide)]
  have k2 : Q_X9_collect_5 u g a = lN (nb (g 23) (256 * 1 + 156 + 8 * (t % 8)) 4) := by
    unfold Q_X9_collect_5
    rw [e8, hA, num_M u g _ 4 (by omega) (by decide)]
  have k3 : Q_X9_collect_6 u g a = lN (nb (g 23) (256 * 1 + 156 + 8 * (t % 8) + 4) 4) := by
    unfold Q_X9_collect_6
    rw [e8, hA, hB, num_M u _ _ 4 (by omega) (by decide), va_up_ne _ _ (by decide)]
  have c1 : S_X5_two v f (S_X8_usedOf v f 1 + 2) = nI (nb (g 23) (256 * 1 + 154) 2) := by
    rw [show S_X8_usedOf v f 1 + 2 = nI (256 * 1 + 154) from rfl, two_C v f _ (by omega), hm _ _ (by omega)]
  have c2 : Q_X3_collectOne_1_1 v f = lN (nb (g 23) (256 * 1 + 156 + 8 * (t % 8)) 4) := by
    unfold Q_X3_collectOne_1_1
    rw [ev, e8, show S_X8_usedOf v f 1 + 4 = nI (256 * 1 + 156) from rfl, hA, num_C _ f _ 4 (by omega) (by decide), hm _ _ (by omega)]
  have hSaw := h.saw 1 (x := S_X8_oneMore v f (v 47)) (y := (g 41 1 + 1) &&& 65535) (by unfold S_X8_oneMore; rw [ev]) (by decide) ⟨_, x1, Nat.mod_lt _ (by decide)⟩
  have hlt := nb_lt (g 23) (256 * 1 + 156 + 8 * (t % 8)) 4
  have hlt2 := nb_lt (g 23) (256 * 1 + 156 + 8 * (t % 8) + 4) 4
  generalize hid : nb (g 23) (256 * 1 + 156 + 8 * (t % 8)) 4 = id at k2 c2 hlt
  generalize hwr : nb (g 23) (256 * 1 + 156 + 8 * (t % 8) + 4) 4 = wr at k3 hlt2
  obtain ⟨l1, l2, l3⟩ := (h.2.2.2.2.2.1 1 (by decide)).2
  obtain ⟨m1, m2⟩ := l1 h2
  rw [k1, k2, lN_i, lN_i] at hA1
  rw [hA1]
  unfold S_X3_collectOne_1
  rw [if_neg (show ¬ v 40 = 0 by rw [e40, h2]; decide), c1, ev]
  by_cases e1 : nI (nb (g 23) (256 * 1 + 154) 2) = g 41 1
  · rw [if_pos e1, if_pos e1]
    exact ⟨rfl, h⟩
  · rw [if_neg e1, if_neg e1]
    have l7 : (0 < lg_cmp (lN id) 7) ↔ 7 < id := by
      rw [lg_cmp_gt, Int64.lt_iff_toInt_lt, pk_lT (n := id) (by omega), show (7 : Int64).toInt = 7 from rfl]
      omega
    have n0 : ¬ lg_cmp (lN id) 0 < 0 := by
      rw [lg_cmp_lt, Int64.lt_iff_toInt_lt, pk_lT (n := id) (by omega), show (0 : Int64).toInt = 0 from rfl]
      omega
    have g8 : (0 ≤ lg_cmp (lN id) ((8 : Int32).toInt64)) ↔ 8 ≤ id := by
      rw [lg_cmp_ge, Int64.le_iff_toInt_le, pk_lT (n := id) (by omega), show ((8 : Int32).toInt64).toInt = 8 from rfl]
      omega
    have hbad : ∀ X : Int32 × (Nat → Int32) × (Nat → Nat → Int32), S_X4_takeBack_18 (upd v 47 (S_X8_oneMore v f (v 47))) f (lN id) = X → X = (0, upd v 47 (S_X8_oneMore v f (v 47)), f) → (if Q_X3_collectOne_1_2 v f = 0 then ((-3 : Int32), Q_X3_collectOne_1_3 v f, Q_X3_collectOne_1_4 v f) else ((((Q_X3_collectOne_1_1 v f) : Int64).toInt32), (upd (Q_X3_collectOne_1_3 v f) 48 ((((Q_X3_collectOne_1_5 v f) : Int64).toInt32) &&& 2147483647)), (Q_X3_collectOne_1_4 v f))) = ((-3 : Int32), upd v 47 (S_X8_oneMore v f (v 47)), f) := by
      intro X hX hX2
      have t2 : Q_X3_collectOne_1_2 v f = 0 := by unfold Q_X3_collectOne_1_2; rw [c2, hX, hX2]
      rw [if_pos t2]
      unfold Q_X3_collectOne_1_3 Q_X3_collectOne_1_4
      rw [c2, hX, hX2]
    by_cases e2 : 7 < id
    · rw [if_pos (l7.mpr e2), hbad _ rfl (by unfold S_X4_takeBack_18; rw [if_neg n0, if_pos (g8.mpr (by omega))])]
      exact ⟨rfl, hSaw⟩
    · rw [if_neg (fun z => e2 (l7.mp z)), nI_add, nI_clamp (by omega), va_up_ne _ _ (show 38 ≠ 41 by decide), va_up_ne _ _ (show 39 ≠ 41 by decide)]
      have hid8 : id < 8 := by omega
      have hf : f 19 ((lN id).toInt32).toNatClampNeg = nI (cm (g 38) (g 39) 1 id 8) := by
        rw [lN_i, nI_clamp (by omega)]; exact m2 id hid8
      have hcl := cm_lt (g 38) (g 39) 1 id 8
      by_cases e3 : ¬ g 38 (8 * 1 + id) = 0 ∧ g 39 (8 * 1 + id) = nI id
      · rw [if_neg e3.1, if_pos ((lcmp8 hid8).mpr e3.2)]
        have hne : ¬ cm (g 38) (g 39) 1 id 8 = 0 := fun z => by
          have := cm_bit (g 38) (g 39) 1 id 8 id hid8
          rw [z, if_neg e3.1, if_pos e3.2, Nat.zero_div] at this
          exact absurd this (by decide)
        have hT : S_X4_takeBack_18 (upd v 47 (S_X8_oneMore v f (v 47))) f (lN id) = (1, upd (upd v 47 (S_X8_oneMore v f (v 47))) 45 (upd v 47 (S_X8_oneMore v f (v 47)) 45 ||| f 19 id), va_up f 19 (upd (f 19) id 0)) := by
          unfold S_X4_takeBack_18
          rw [if_neg n0, if_neg (fun z => e2 (by have := g8.mp z; omega)), if_neg (by rw [hf]; exact nI_ne0 (by omega) (by omega)), lN_i, nI_clamp (by omega)]
        have t2 : ¬ Q_X3_collectOne_1_2 v f = 0 := by unfold Q_X3_collectOne_1_2; rw [c2, hT]; exact (show ¬ (1 : Int32) = 0 by decide)
        have c5 : Q_X3_collectOne_1_5 v f = lN wr := by
          unfold Q_X3_collectOne_1_5 Q_X3_collectOne_1_4
          rw [c2, hT, ev, e8, show S_X8_usedOf v f 1 + 4 = nI (256 * 1 + 156) from rfl, hA, hB, num_C _ _ _ 4 (by omega) (by decide)]
          dsimp only
          rw [va_up_ne _ _ (by decide), hm _ _ (by omega), hwr]
        rw [if_neg t2, c5, c2, lN_i, lN_i]
        unfold Q_X3_collectOne_1_3 Q_X3_collectOne_1_4
        rw [c2, hT]
        refine ⟨rfl, ?_⟩
        dsimp only
        obtain ⟨o1, o2⟩ := co_l1 u g a id hid8 k2 8 (Nat.le_refl 8)
        have hB9 := hSaw.back h2 (q := 1) (r := id) (by decide) hid8 (G' := L_X9_collect2 u g a 8 38) (K' := L_X9_collect2 u g a 8 39) o1 (fun x hx => o2 x hx)
        have wE : (nI wr &&& 2147483647) = (((lN wr) &&& 2147483647 : Int64).toInt32) := by
          rw [pk_andN (by omega) (m := 2147483647) 31 rfl, show (2147483647 : Int64) = lN (2 ^ 31 - 1) from rfl, wb_mask (by omega) (by decide), lN_i]
        have hL9 := hB9.lat 1 (x := nI wr &&& 2147483647) (y := (((lN wr) &&& 2147483647 : Int64).toInt32)) wE (by decide)
        refine hL9.geq (fun j => ?_)
        by_cases j42 : j = 42
        · subst j42
          rw [va_up_self, co_o1 u g a 42 (by decide) (by decide) 8, L_X9_collect2, va_up_self, k3]
          simp (disch := omega) only [va_up_ne]
        · rw [va_up_ne _ _ j42]
          by_cases j39 : j = 39
          · subst j39; rw [va_up_self]
          · rw [va_up_ne _ _ j39]
            by_cases j38 : j = 38
            · subst j38; rw [va_up_self]
            · rw [va_up_ne _ _ j38, co_o1 u g a j j38 j39 8, L_X9_collect2, va_up_ne _ _ j42]
      · have hz : cm (g 38) (g 39) 1 id 8 = 0 := by
          by_cases z : cm (g 38) (g 39) 1 id 8 = 0
          · exact z
          · obtain ⟨e, he, w1, w2⟩ := cm_z z
            rcases l3 e he with q1 | ⟨q1, d9, q2, q3, q4, q5⟩
            · exact absurd q1 w1
            · have : d9 = id := (nI_eq (by omega) (by omega)).mp (q3.symm.trans w2)
              subst this
              exact absurd ⟨by rw [q4]; decide, q5⟩ e3
        rw [hbad _ rfl (by unfold S_X4_takeBack_18; rw [if_neg n0, if_neg (fun z => e2 (by have := g8.mp z; omega)), if_pos (by rw [hf, hz]; rfl)])]
        by_cases e4 : g 38 (8 * 1 + id) = 0
        · rw [if_pos e4]; exact ⟨rfl, hSaw⟩
        · rw [if_neg e4, if_neg (fun z => e3 ⟨e4, (lcmp8 hid8).mp z⟩)]; exact ⟨rfl, hSaw⟩
theorem co_o2 (u : Nat → Int32) (g : Nat → Nat → Int32) (a : Int32) (j : Nat) (h1 : j ≠ 38) (h2 : j ≠ 39) : ∀ n : Nat, L_X9_collect3 u g a n j = L_X9_collect3 u g a 0 j := by
  intro n
  generalize hX : L_X9_collect3 u g a 0 j = X
  induction n with
  | zero => exact hX
  | succ n ih =>
    rw [L_X9_collect3]
    split
    · exact ih
    · split
      · rw [va_up_ne _ _ h2, va_up_ne _ _ h1]; exact ih
      · exact ih
theorem co_l2 (u : Nat → Int32) (g : Nat → Nat → Int32) (a : Int32) (r : Nat) (hr : r < 8) (hQ : Q_X9_collect_8 u g a = lN r) : ∀ n : Nat, n ≤ 8 → (∀ e : Nat, e < n → (¬ g 38 (8 * 2 + e) = 0 ∧ g 39 (8 * 2 + e) = nI r → L_X9_collect3 u g a n 38 (8 * 2 + e) = 0) ∧ (¬ (¬ g 38 (8 * 2 + e) = 0 ∧ g 39 (8 * 2 + e) = nI r) → L_X9_collect3 u g a n 38 (8 * 2 + e) = g 38 (8 * 2 + e) ∧ L_X9_collect3 u g a n 39 (8 * 2 + e) = g 39 (8 * 2 + e))) ∧ (∀ x : Nat, (x < 8 * 2 ∨ 8 * 2 + n ≤ x) → L_X9_collect3 u g a n 38 x = g 38 x ∧ L_X9_collect3 u g a n 39 x = g 39 x) := by
  intro n
  induction n with
  | zero => intro _; exact ⟨fun e he => absurd he (Nat.not_lt_zero e), fun x _ => by rw [L_X9_collect3]; exact ⟨rfl, rfl⟩⟩
  | succ n ih =>
    intro hn
    obtain ⟨i1, i2⟩ := ih (by omega)
    obtain ⟨j1, j2⟩ := i2 (8 * 2 + n) (by omega)
    rw [L_X9_collect3, hQ, j1, j2]
    generalize L_X9_collect3 u g a n = Y at i1 i2 j1 j2
    by_cases c1 : g 38 (8 * 2 + n) = 0
    · rw [if_pos c1]
      refine ⟨fun e he => ?_, fun x hx => i2 x (by omega)⟩
      by_cases e9 : e = n
      · subst e9
        exact ⟨fun t => absurd c1 t.1, fun _ => ⟨j1, j2⟩⟩
      · exact i1 e (by omega)
    · rw [if_neg c1]
      by_cases c2 : g 39 (8 * 2 + n) = nI r
      · rw [if_pos ((lcmp8 hr).mpr c2)]
        simp (disch := omega) only [va_up_ne, va_up_self]
        refine ⟨fun e he => ?_, fun x hx => ?_⟩
        · by_cases e9 : e = n
          · subst e9
            rw [pk_us, pk_us]
            exact ⟨fun _ => rfl, fun t => absurd ⟨c1, c2⟩ t⟩
          · rw [pk_un (by omega), pk_un (by omega)]
            exact i1 e (by omega)
        · rw [pk_un (by omega), pk_un (by omega)]
          exact i2 x (by omega)
      · rw [if_neg (fun t => c2 ((lcmp8 hr).mp t))]
        refine ⟨fun e he => ?_, fun x hx => i2 x (by omega)⟩
        by_cases e9 : e = n
        · subst e9
          exact ⟨fun t => absurd t.2 c2, fun _ => ⟨j1, j2⟩⟩
        · exact i1 e (by omega)
theorem cq_2 {c9 : Nat} {v : Nat → Int32} {f : Nat → Nat → Int32} {u : Nat → Int32} {g : Nat → Nat → Int32} (h : SIM c9 v f u g) (a : Int32) (h2 : u 2 = 1) (A : Int32 × (Nat → Nat → Int32)) (hA1 : A = if (((Q_X9_collect_7 u g a) : Int64).toInt32) = ((g 41) 2) then ((-1), g)
        else if 0 < (lg_cmp (Q_X9_collect_8 u g a) 7) then ((-3), (va_up g 41 (upd (g 41) 2 ((((g 41) 2) + 1) &&& 65535))))
          else if (((va_up g 41 (upd (g 41) 2 ((((g 41) 2) + 1) &&& 65535))) 38) (((nI (8 * 2)) + (((Q_X9_collect_8 u g a) : Int64).toInt32))).toNatClampNeg) = 0 then ((-3), (va_up g 41 (upd (g 41) 2 ((((g 41) 2) + 1) &&& 65535))))
            else if (lg_cmp (((((va_up g 41 (upd (g 41) 2 ((((g 41) 2) + 1) &&& 65535))) 39) (((nI (8 * 2)) + (((Q_X9_collect_8 u g a) : Int64).toInt32))).toNatClampNeg)).toInt64) (Q_X9_collect_8 u g a)) = 0 then ((((Q_X9_collect_8 u g a) : Int64).toInt32), (L_X9_collect3 u g a 8))
              else ((-3), (va_up g 41 (upd (g 41) 2 ((((g 41) 2) + 1) &&& 65535))))) :
    (S_X3_collectOne_2 v f).1 = A.1 ∧ SIM c9 (S_X3_collectOne_2 v f).2.1 (S_X3_collectOne_2 v f).2.2 u A.2 := by
  obtain ⟨t, et, ht⟩ := (h.minv.1 2 (by decide)).2.2.2.2
  have ev : v 51 = g 41 2 := (h.2.2.2.2.2.1 2 (by decide)).1.2.1
  have e40 : v 40 = u 2 := h.1.2.2.2.2.2.1
  have hm : ∀ p N : Nat, p + N ≤ 4096 → nb (f 2) p N = nb (g 23) p N := fun p N hp => nb_cg (fun k hk => h.mem _ (by omega))
  have x1 : (g 41 2 + 1) &&& 65535 = nI ((t + 1) % 65536) := by
    rw [et, nI_1, pk_andN (by omega) (m := 65535) 16 rfl]
  have e8 : g 41 2 - g 41 2 / 8 * 8 = nI (t % 8) := by
    rw [et]; exact pk_rem (d := 8) (by omega) (by decide) (by decide)
  have hA : (nI (256 * 2 + 156) + 8 * nI (t % 8) : Int32) = nI (256 * 2 + 156 + 8 * (t % 8)) := by
    rw [show (8 : Int32) = nI 8 from rfl, pk_mul, nI_add]
  have hB : (nI (256 * 2 + 156 + 8 * (t % 8)) + 4 : Int32) = nI (256 * 2 + 156 + 8 * (t % 8) + 4) := nI_add _ 4
  have k1 : Q_X9_collect_7 u g a = lN (nb (g 23) (256 * 2 + 154) 2) := by
    unfold Q_X9_collect_7
    rw [num_M u g _ 2 (by omega) (by decide)]
  have k2 : Q_X9_collect_8 u g a = lN (nb (g 23) (256 * 2 + 156 + 8 * (t % 8)) 4) := by
    unfold Q_X9_collect_8
    rw [e8, hA, num_M u g _ 4 (by omega) (by decide)]
  have k3 : Q_X9_collect_9 u g a = lN (nb (g 23) (256 * 2 + 156 + 8 * (t % 8) + 4) 4) := by
    unfold Q_X9_collect_9
    rw [e8, hA, hB, num_M u _ _ 4 (by omega) (by decide), va_up_ne _ _ (by decide)]
  have c1 : S_X5_two v f (S_X8_usedOf v f 2 + 2) = nI (nb (g 23) (256 * 2 + 154) 2) := by
    rw [show S_X8_usedOf v f 2 + 2 = nI (256 * 2 + 154) from rfl, two_C v f _ (by omega), hm _ _ (by omega)]
  have c2 : Q_X3_collectOne_2_1 v f = lN (nb (g 23) (256 * 2 + 156 + 8 * (t % 8)) 4) := by
    unfold Q_X3_collectOne_2_1
    rw [ev, e8, show S_X8_usedOf v f 2 + 4 = nI (256 * 2 + 156) from rfl, hA, num_C _ f _ 4 (by omega) (by decide), hm _ _ (by omega)]
  have hSaw := h.saw 2 (x := S_X8_oneMore v f (v 51)) (y := (g 41 2 + 1) &&& 65535) (by unfold S_X8_oneMore; rw [ev]) (by decide) ⟨_, x1, Nat.mod_lt _ (by decide)⟩
  have hlt := nb_lt (g 23) (256 * 2 + 156 + 8 * (t % 8)) 4
  have hlt2 := nb_lt (g 23) (256 * 2 + 156 + 8 * (t % 8) + 4) 4
  generalize hid : nb (g 23) (256 * 2 + 156 + 8 * (t % 8)) 4 = id at k2 c2 hlt
  generalize hwr : nb (g 23) (256 * 2 + 156 + 8 * (t % 8) + 4) 4 = wr at k3 hlt2
  obtain ⟨l1, l2, l3⟩ := (h.2.2.2.2.2.1 2 (by decide)).2
  obtain ⟨m1, m2⟩ := l1 h2
  rw [k1, k2, lN_i, lN_i] at hA1
  rw [hA1]
  unfold S_X3_collectOne_2
  rw [if_neg (show ¬ v 40 = 0 by rw [e40, h2]; decide), c1, ev]
  by_cases e1 : nI (nb (g 23) (256 * 2 + 154) 2) = g 41 2
  · rw [if_pos e1, if_pos e1]
    exact ⟨rfl, h⟩
  · rw [if_neg e1, if_neg e1]
    have l7 : (0 < lg_cmp (lN id) 7) ↔ 7 < id := by
      rw [lg_cmp_gt, Int64.lt_iff_toInt_lt, pk_lT (n := id) (by omega), show (7 : Int64).toInt = 7 from rfl]
      omega
    have n0 : ¬ lg_cmp (lN id) 0 < 0 := by
      rw [lg_cmp_lt, Int64.lt_iff_toInt_lt, pk_lT (n := id) (by omega), show (0 : Int64).toInt = 0 from rfl]
      omega
    have g8 : (0 ≤ lg_cmp (lN id) ((8 : Int32).toInt64)) ↔ 8 ≤ id := by
      rw [lg_cmp_ge, Int64.le_iff_toInt_le, pk_lT (n := id) (by omega), show ((8 : Int32).toInt64).toInt = 8 from rfl]
      omega
    have hbad : ∀ X : Int32 × (Nat → Int32) × (Nat → Nat → Int32), S_X4_takeBack_20 (upd v 51 (S_X8_oneMore v f (v 51))) f (lN id) = X → X = (0, upd v 51 (S_X8_oneMore v f (v 51)), f) → (if Q_X3_collectOne_2_2 v f = 0 then ((-3 : Int32), Q_X3_collectOne_2_3 v f, Q_X3_collectOne_2_4 v f) else ((((Q_X3_collectOne_2_1 v f) : Int64).toInt32), (upd (Q_X3_collectOne_2_3 v f) 52 ((((Q_X3_collectOne_2_5 v f) : Int64).toInt32) &&& 2147483647)), (Q_X3_collectOne_2_4 v f))) = ((-3 : Int32), upd v 51 (S_X8_oneMore v f (v 51)), f) := by
      intro X hX hX2
      have t2 : Q_X3_collectOne_2_2 v f = 0 := by unfold Q_X3_collectOne_2_2; rw [c2, hX, hX2]
      rw [if_pos t2]
      unfold Q_X3_collectOne_2_3 Q_X3_collectOne_2_4
      rw [c2, hX, hX2]
    by_cases e2 : 7 < id
    · rw [if_pos (l7.mpr e2), hbad _ rfl (by unfold S_X4_takeBack_20; rw [if_neg n0, if_pos (g8.mpr (by omega))])]
      exact ⟨rfl, hSaw⟩
    · rw [if_neg (fun z => e2 (l7.mp z)), nI_add, nI_clamp (by omega), va_up_ne _ _ (show 38 ≠ 41 by decide), va_up_ne _ _ (show 39 ≠ 41 by decide)]
      have hid8 : id < 8 := by omega
      have hf : f 21 ((lN id).toInt32).toNatClampNeg = nI (cm (g 38) (g 39) 2 id 8) := by
        rw [lN_i, nI_clamp (by omega)]; exact m2 id hid8
      have hcl := cm_lt (g 38) (g 39) 2 id 8
      by_cases e3 : ¬ g 38 (8 * 2 + id) = 0 ∧ g 39 (8 * 2 + id) = nI id
      · rw [if_neg e3.1, if_pos ((lcmp8 hid8).mpr e3.2)]
        have hne : ¬ cm (g 38) (g 39) 2 id 8 = 0 := fun z => by
          have := cm_bit (g 38) (g 39) 2 id 8 id hid8
          rw [z, if_neg e3.1, if_pos e3.2, Nat.zero_div] at this
          exact absurd this (by decide)
        have hT : S_X4_takeBack_20 (upd v 51 (S_X8_oneMore v f (v 51))) f (lN id) = (1, upd (upd v 51 (S_X8_oneMore v f (v 51))) 49 (upd v 51 (S_X8_oneMore v f (v 51)) 49 ||| f 21 id), va_up f 21 (upd (f 21) id 0)) := by
          unfold S_X4_takeBack_20
          rw [if_neg n0, if_neg (fun z => e2 (by have := g8.mp z; omega)), if_neg (by rw [hf]; exact nI_ne0 (by omega) (by omega)), lN_i, nI_clamp (by omega)]
        have t2 : ¬ Q_X3_collectOne_2_2 v f = 0 := by unfold Q_X3_collectOne_2_2; rw [c2, hT]; exact (show ¬ (1 : Int32) = 0 by decide)
        have c5 : Q_X3_collectOne_2_5 v f = lN wr := by
          unfold Q_X3_collectOne_2_5 Q_X3_collectOne_2_4
          rw [c2, hT, ev, e8, show S_X8_usedOf v f 2 + 4 = nI (256 * 2 + 156) from rfl, hA, hB, num_C _ _ _ 4 (by omega) (by decide)]
          dsimp only
          rw [va_up_ne _ _ (by decide), hm _ _ (by omega), hwr]
        rw [if_neg t2, c5, c2, lN_i, lN_i]
        unfold Q_X3_collectOne_2_3 Q_X3_collectOne_2_4
        rw [c2, hT]
        refine ⟨rfl, ?_⟩
        dsimp only
        obtain ⟨o1, o2⟩ := co_l2 u g a id hid8 k2 8 (Nat.le_refl 8)
        have hB9 := hSaw.back h2 (q := 2) (r := id) (by decide) hid8 (G' := L_X9_collect3 u g a 8 38) (K' := L_X9_collect3 u g a 8 39) o1 (fun x hx => o2 x hx)
        have wE : (nI wr &&& 2147483647) = (((lN wr) &&& 2147483647 : Int64).toInt32) := by
          rw [pk_andN (by omega) (m := 2147483647) 31 rfl, show (2147483647 : Int64) = lN (2 ^ 31 - 1) from rfl, wb_mask (by omega) (by decide), lN_i]
        have hL9 := hB9.lat 2 (x := nI wr &&& 2147483647) (y := (((lN wr) &&& 2147483647 : Int64).toInt32)) wE (by decide)
        refine hL9.geq (fun j => ?_)
        by_cases j42 : j = 42
        · subst j42
          rw [va_up_self, co_o2 u g a 42 (by decide) (by decide) 8, L_X9_collect3, va_up_self, k3]
          simp (disch := omega) only [va_up_ne]
        · rw [va_up_ne _ _ j42]
          by_cases j39 : j = 39
          · subst j39; rw [va_up_self]
          · rw [va_up_ne _ _ j39]
            by_cases j38 : j = 38
            · subst j38; rw [va_up_self]
            · rw [va_up_ne _ _ j38, co_o2 u g a j j38 j39 8, L_X9_collect3, va_up_ne _ _ j42]
      · have hz : cm (g 38) (g 39) 2 id 8 = 0 := by
          by_cases z : cm (g 38) (g 39) 2 id 8 = 0
          · exact z
          · obtain ⟨e, he, w1, w2⟩ := cm_z z
            rcases l3 e he with q1 | ⟨q1, d9, q2, q3, q4, q5⟩
            · exact absurd q1 w1
            · have : d9 = id := (nI_eq (by omega) (by omega)).mp (q3.symm.trans w2)
              subst this
              exact absurd ⟨by rw [q4]; decide, q5⟩ e3
        rw [hbad _ rfl (by unfold S_X4_takeBack_20; rw [if_neg n0, if_neg (fun z => e2 (by have := g8.mp z; omega)), if_pos (by rw [hf, hz]; rfl)])]
        by_cases e4 : g 38 (8 * 2 + id) = 0
        · rw [if_pos e4]; exact ⟨rfl, hSaw⟩
        · rw [if_neg e4, if_neg (fun z => e3 ⟨e4, (lcmp8 hid8).mp z⟩)]; exact ⟨rfl, hSaw⟩
theorem co_no {v : Nat → Int32} {f : Nat → Nat → Int32} (h : v 40 = 0) : S_X3_collectOne_0 v f = ((-4), v, f) ∧ S_X3_collectOne_1 v f = ((-4), v, f) ∧ S_X3_collectOne_2 v f = ((-4), v, f) := by
  unfold S_X3_collectOne_0 S_X3_collectOne_1 S_X3_collectOne_2
  rw [if_pos h, if_pos h, if_pos h]
  exact ⟨rfl, rfl, rfl⟩
theorem sim_collect {c9 : Nat} {v : Nat → Int32} {f : Nat → Nat → Int32} {u : Nat → Int32} {g : Nat → Nat → Int32} (h : SIM c9 v f u g) (hc : c9 + 1 ≤ 512) (a : Int32) : (S_X8_collect v f a).1 = (S_X9_collect u g a).1 ∧ SIM (c9 + 1) ((S_X8_collect v f a).2.1) ((S_X8_collect v f a).2.2) (u) ((S_X9_collect u g a).2) := by
  have h9 := h.up hc
  unfold S_X8_collect S_X9_collect
  rw [isin_q v u f g]
  by_cases h0 : S_X8_isQueue v f a = 0
  · rw [if_pos h0, if_pos h0]
    exact ⟨rfl, h9⟩
  · rw [if_neg h0, if_neg h0]
    by_cases h2 : u 2 = 0
    · obtain ⟨n0, n1, n2⟩ := co_no (f := f) (h.1.2.2.2.2.2.1.trans h2)
      rw [if_pos h2, n0, n1, n2]
      dsimp only
      rw [ite_self, ite_self]
      exact ⟨rfl, h9⟩
    · rw [if_neg h2]
      by_cases a0 : a = 0
      · rw [if_pos a0, if_pos a0]
        exact cq_0 h9 a (h.st1 h2) _ rfl
      · rw [if_neg a0, if_neg a0]
        by_cases a1 : a = 1
        · rw [if_pos a1, if_pos a1]
          exact cq_1 h9 a (h.st1 h2) _ rfl
        · rw [if_neg a1, if_neg a1]
          exact cq_2 h9 a (h.st1 h2) _ rfl
