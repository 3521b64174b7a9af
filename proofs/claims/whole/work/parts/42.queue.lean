def qn (g : Nat → Nat → Int32) (q : Nat) (b c d e : Int32) : Nat → Nat → Int32 := (va_up (va_up (va_up (va_up g 25 (upd (g 25) q b)) 26 (upd ((va_up g 25 (upd (g 25) q b)) 26) q c)) 27 (upd ((va_up (va_up g 25 (upd (g 25) q b)) 26 (upd ((va_up g 25 (upd (g 25) q b)) 26) q c)) 27) q d)) 28 (upd ((va_up (va_up (va_up g 25 (upd (g 25) q b)) 26 (upd ((va_up g 25 (upd (g 25) q b)) 26) q c)) 27 (upd ((va_up (va_up g 25 (upd (g 25) q b)) 26 (upd ((va_up g 25 (upd (g 25) q b)) 26) q c)) 27) q d)) 28) q e))
def qb (u : Nat → Int32) (g : Nat → Nat → Int32) (q : Nat) (b c d e : Int32) : Int32 × (Nat → Nat → Int32) :=
  if (S_X9_isIn u g c 0 (4096 - (16 * b))) = 0 then ((-2), g)
  else if (c - c / 16 * 16) = 0 then if (S_X9_isIn u g d 0 (4092 - (2 * b))) = 0 then ((-2), g)
    else if (d - d / 2 * 2) = 0 then if (S_X9_isIn u g e 0 (4092 - (8 * b))) = 0 then ((-2), g)
      else if (e - e / 4 * 4) = 0 then (0, qn g q b c d e)
        else ((-2), g)
      else ((-2), g)
    else ((-2), g)
def qq (u : Nat → Int32) (g : Nat → Nat → Int32) (q : Nat) (b c d e : Int32) : Int32 × (Nat → Nat → Int32) :=
  if 0 < ((g 25) q) then ((-2), g)
  else if (u 0) = 0 then if b = 1 then qb u g q b c d e else if b = 2 then qb u g q b c d e else if b = 4 then qb u g q b c d e else if b = 8 then qb u g q b c d e else if b = 16 then qb u g q b c d e else ((-2), g)
  else ((-2), g)
theorem qq_eq (u : Nat → Int32) (g : Nat → Nat → Int32) (a b c d e : Int32) : S_X9_queue u g a b c d e = if (S_X9_isIn u g a 0 2) = 0 then ((-2), g) else if a = 0 then qq u g 0 b c d e else if a = 1 then qq u g 1 b c d e else qq u g 2 b c d e := by
  unfold S_X9_queue qq qb qn
  with_reducible rfl
def ly (v : Nat → Int32) (q : Nat) (b c d e : Int32) : Nat → Int32 := upd (upd (upd (upd (upd v (4 + 8 * q) 1) (5 + 8 * q) b) (6 + 8 * q) c) (7 + 8 * q) d) (8 + 8 * q) e
def qc (v : Nat → Int32) (f : Nat → Nat → Int32) (q : Nat) (b c d e : Int32) : Int32 × (Nat → Int32) :=
  if (v (4 + 8 * q)) = 0 then if (S_X8_isSize v f b) = 0 then ((-2), v)
    else if (S_X8_isPlace v f c 16 (16 * b)) = 0 then ((-2), v)
      else if (S_X8_isPlace v f d 2 (4 + (2 * b))) = 0 then ((-2), v)
        else if (S_X8_isPlace v f e 4 (4 + (8 * b))) = 0 then ((-2), v)
          else (0, ly v q b c d e)
  else ((-2), v)
theorem qc_eq (v : Nat → Int32) (f : Nat → Nat → Int32) (a b c d e : Int32) : S_X8_queue v f a b c d e = if (S_X8_isQueue v f a) = 0 then ((-2), v) else if (v 0) = 0 then if a = 0 then qc v f 0 b c d e else if a = 1 then qc v f 1 b c d e else qc v f 2 b c d e else ((-2), v) := by
  unfold S_X8_queue qc ly S_X6_lay_4 S_X6_lay_5 S_X6_lay_6
  rfl
/-- the two ways of testing a place -/
theorem ispl (v u : Nat → Int32) (f g : Nat → Nat → Int32) (x : Int32) {k z : Nat} (hk : 0 < k) (hk2 : k < 2 ^ 31) (hz : z ≤ 4096) : (S_X8_isPlace v f x (nI k) (nI z) = 0) ↔ ((S_X9_isIn u g x 0 (nI (4096 - z))) = 0 ∨ ¬ (x - x / nI k * nI k) = 0) := by
  unfold S_X8_isPlace Q_X8_isPlace_1 S_X8_liesInMemory S_X9_isIn
  rw [if_neg (nI_nle hk hk2)]
  have h1 : (lg_cmp x.toInt64 0 < 0) ↔ x < 0 := by rw [lg_cmp_lt, Int64.lt_iff_toInt_lt, Int32.lt_iff_toInt_lt, Int32.toInt_toInt64]; rfl
  have e1 : ((4096 : Int64) - (nI z).toInt64).toInt = 4096 - (z : Int) := by
    rw [Int64.toInt_sub, nI_l (by omega), lN_toInt (by omega), show (4096 : Int64).toInt = 4096 from rfl, Int.bmod_eq_of_le] <;> omega
  have h2 : (0 < lg_cmp x.toInt64 ((4096 : Int64) - (nI z).toInt64)) ↔ nI (4096 - z) < x := by
    rw [lg_cmp_gt, Int64.lt_iff_toInt_lt, Int32.lt_iff_toInt_lt, Int32.toInt_toInt64, e1, nI_toInt (by omega)]
    omega
  by_cases c1 : x < 0
  · rw [if_pos (h1.mpr c1), if_pos c1, if_pos rfl]; exact ⟨fun _ => Or.inl rfl, fun _ => rfl⟩
  · rw [if_neg (fun q => c1 (h1.mp q)), if_neg c1]
    by_cases c2 : nI (4096 - z) < x
    · rw [if_pos (h2.mpr c2), if_pos c2, if_pos rfl]; exact ⟨fun _ => Or.inl rfl, fun _ => rfl⟩
    · rw [if_neg (fun q => c2 (h2.mp q)), if_neg c2, if_neg (by decide)]
      by_cases c3 : (x - x / nI k * nI k) = 0
      · rw [if_pos c3]; exact ⟨fun h => absurd h (by decide), fun h => h.elim (fun h => absurd h (by decide)) (fun h => absurd c3 h)⟩
      · rw [if_neg c3]; exact ⟨fun _ => Or.inr c3, fun _ => rfl⟩
theorem isin_ma {u : Nat → Int32} {g : Nat → Nat → Int32} {x : Int32} {z : Nat} (hz : z ≤ 4096) (h : ¬ (S_X9_isIn u g x 0 (nI (4096 - z))) = 0) : MA x z := by
  unfold S_X9_isIn at h
  by_cases c1 : x < 0
  · rw [if_pos c1] at h; exact absurd rfl h
  · rw [if_neg c1] at h
    by_cases c2 : nI (4096 - z) < x
    · rw [if_pos c2] at h; exact absurd rfl h
    · obtain ⟨j, hj, rfl⟩ := nI_of c1
      rw [nI_ltI (by omega) hj] at c2
      exact ⟨j, rfl, by omega⟩
theorem SIM.lay {c9 : Nat} {v : Nat → Int32} {f : Nat → Nat → Int32} {u : Nat → Int32} {g : Nat → Nat → Int32} (h : SIM c9 v f u g) {q n : Nat} (hq : q < 3) {b c d e : Int32} (hb : b = nI n) (hn : 1 ≤ n) (hn2 : n ≤ 16) (h1 : MA c (16 * n)) (h2 : MA d (4 + 2 * n)) (h3 : MA e (4 + 8 * n)) : SIM c9 (ly v q b c d e) f u (qn g q b c d e) := by
  obtain ⟨⟨a1, a2, a3, a4, a5, a6, a7, a8, a9, a10⟩, b1, b2, h4, h5, h6, h7, h8⟩ := h
  have hb0 : ¬ b = 0 := by rw [hb]; exact nI_ne0 (by omega) (by omega)
  unfold ly qn
  refine ⟨?_, ?_, ?_, fun r hr => ?_, ?_, fun r hr => ?_, ?_, h8⟩
  · unfold NUMS
    simp (disch := omega) only [pk_un]
    exact ⟨a1, a2, a3, a4, a5, a6, a7, a8, a9, a10⟩
  · simp (disch := omega) only [va_up_ne]
    exact b1
  · simp (disch := omega) only [va_up_ne]
    exact b2
  · have h9 := h4 r hr
    unfold RING at h9 ⊢
    by_cases e : r = q
    · subst e
      simp (disch := omega) only [pk_un, pk_us, va_up_self, va_up_ne]
      rw [if_neg hb0]
      exact ⟨rfl, trivial, trivial, trivial, trivial, h9.2.2.2.2.2⟩
    · simp (disch := omega) only [pk_un, pk_us, va_up_self, va_up_ne]
      exact h9
  · unfold WIRE at h5 ⊢
    simp (disch := omega) only [pk_un, va_up_ne]
    exact h5
  · have h9 := h6 r hr
    unfold DRIV LOAN at h9 ⊢
    simp (disch := omega) only [pk_un, va_up_ne]
    exact h9
  · unfold MInv QU at h7 ⊢
    simp (disch := omega) only [va_up_ne, va_up_self]
    refine ⟨fun r hr => ?_, h7.2⟩
    obtain ⟨c1, c2⟩ := h7.1 r hr
    by_cases e : r = q
    · subst e
      refine ⟨Or.inr ⟨n, ?_⟩, c2⟩
      simp (disch := omega) only [pk_us]
      exact ⟨hb, hn, hn2, h1, h2, h3⟩
    · simp (disch := omega) only [pk_un]
      exact ⟨c1, c2⟩
theorem SIM.laid {c : Nat} {v : Nat → Int32} {f : Nat → Nat → Int32} {u : Nat → Int32} {g : Nat → Nat → Int32} (h : SIM c v f u g) {q : Nat} (hq : q < 3) : (v (4 + 8 * q) = 0 ↔ g 25 q = 0) ∧ (0 < g 25 q ↔ ¬ g 25 q = 0) := by
  have h1 := (h.2.2.2.1 q hq).1
  refine ⟨?_, ?_⟩
  · rw [h1]
    by_cases e : g 25 q = 0
    · rw [if_pos e]; exact ⟨fun _ => e, fun _ => rfl⟩
    · rw [if_neg e]; exact ⟨fun h => absurd h (by decide), fun h => absurd h e⟩
  · rcases (h.minv.1 q hq).1 with e | ⟨n, e, n1, n2, -⟩
    · rw [e]; decide
    · rw [e]; exact ⟨fun _ => nI_ne0 (by omega) (by omega), fun _ => nI_lt (a := 0) (by omega) (by omega)⟩
theorem qb_sim {c9 : Nat} {v : Nat → Int32} {f : Nat → Nat → Int32} {u : Nat → Int32} {g : Nat → Nat → Int32} (h : SIM c9 v f u g) {q n : Nat} (hq : q < 3) {b c d e : Int32} (hb : b = nI n) (hn : 1 ≤ n) (hn2 : n ≤ 16) (hz : ¬ S_X8_isSize v f b = 0) (hv : v (4 + 8 * q) = 0) : (qc v f q b c d e).1 = (qb u g q b c d e).1 ∧ SIM c9 (qc v f q b c d e).2 f u (qb u g q b c d e).2 := by
  unfold qc qb
  rw [if_pos hv, if_neg hz]
  have p1 := ispl v u f g c (k := 16) (z := 16 * n) (by decide) (by decide) (by omega)
  have p2 := ispl v u f g d (k := 2) (z := 4 + 2 * n) (by decide) (by decide) (by omega)
  have p3 := ispl v u f g e (k := 4) (z := 4 + 8 * n) (by decide) (by decide) (by omega)
  have m1 := isin_ma (u := u) (g := g) (x := c) (z := 16 * n) (by omega)
  have m2 := isin_ma (u := u) (g := g) (x := d) (z := 4 + 2 * n) (by omega)
  have m3 := isin_ma (u := u) (g := g) (x := e) (z := 4 + 8 * n) (by omega)
  have w1 : (16 : Int32) * b = nI (16 * n) := by rw [hb]; exact pk_mul 16 n
  have w2 : (4 : Int32) + 2 * b = nI (4 + 2 * n) := by rw [hb, show (2 : Int32) * nI n = nI (2 * n) from pk_mul 2 n]; exact nI_add 4 _
  have w3 : (4 : Int32) + 8 * b = nI (4 + 8 * n) := by rw [hb, show (8 : Int32) * nI n = nI (8 * n) from pk_mul 8 n]; exact nI_add 4 _
  have x1 : (4096 : Int32) - 16 * b = nI (4096 - 16 * n) := by rw [w1]; exact pk_sub (a := 4096) (by omega)
  have x2 : (4092 : Int32) - 2 * b = nI (4096 - (4 + 2 * n)) := by rw [hb, show (2 : Int32) * nI n = nI (2 * n) from pk_mul 2 n, show 4096 - (4 + 2 * n) = 4092 - 2 * n by omega]; exact pk_sub (a := 4092) (by omega)
  have x3 : (4092 : Int32) - 8 * b = nI (4096 - (4 + 8 * n)) := by rw [hb, show (8 : Int32) * nI n = nI (8 * n) from pk_mul 8 n, show 4096 - (4 + 8 * n) = 4092 - 8 * n by omega]; exact pk_sub (a := 4092) (by omega)
  rw [x1, x2, x3, w1, w2, w3]
  replace p1 : (S_X8_isPlace v f c 16 (nI (16 * n)) = 0) ↔ _ := p1
  replace p2 : (S_X8_isPlace v f d 2 (nI (4 + 2 * n)) = 0) ↔ _ := p2
  replace p3 : (S_X8_isPlace v f e 4 (nI (4 + 8 * n)) = 0) ↔ _ := p3
  by_cases i1 : S_X9_isIn u g c 0 (nI (4096 - 16 * n)) = 0
  · rw [if_pos (p1.mpr (Or.inl i1)), if_pos i1]; exact ⟨rfl, h⟩
  · rw [if_neg i1]
    by_cases j1 : (c - c / 16 * 16) = 0
    · rw [if_neg (fun t => (p1.mp t).elim i1 (fun t => t j1)), if_pos j1]
      by_cases i2 : S_X9_isIn u g d 0 (nI (4096 - (4 + 2 * n))) = 0
      · rw [if_pos (p2.mpr (Or.inl i2)), if_pos i2]; exact ⟨rfl, h⟩
      · rw [if_neg i2]
        by_cases j2 : (d - d / 2 * 2) = 0
        · rw [if_neg (fun t => (p2.mp t).elim i2 (fun t => t j2)), if_pos j2]
          by_cases i3 : S_X9_isIn u g e 0 (nI (4096 - (4 + 8 * n))) = 0
          · rw [if_pos (p3.mpr (Or.inl i3)), if_pos i3]; exact ⟨rfl, h⟩
          · rw [if_neg i3]
            by_cases j3 : (e - e / 4 * 4) = 0
            · rw [if_neg (fun t => (p3.mp t).elim i3 (fun t => t j3)), if_pos j3]
              exact ⟨rfl, h.lay hq hb hn hn2 (m1 i1) (m2 i2) (m3 i3)⟩
            · rw [if_pos (p3.mpr (Or.inr j3)), if_neg j3]; exact ⟨rfl, h⟩
        · rw [if_pos (p2.mpr (Or.inr j2)), if_neg j2]; exact ⟨rfl, h⟩
    · rw [if_pos (p1.mpr (Or.inr j1)), if_neg j1]; exact ⟨rfl, h⟩
theorem qq_sim {c9 : Nat} {v : Nat → Int32} {f : Nat → Nat → Int32} {u : Nat → Int32} {g : Nat → Nat → Int32} (h : SIM c9 v f u g) {q : Nat} (hq : q < 3) (hv : u 0 = 0) {b c d e : Int32} : (qc v f q b c d e).1 = (qq u g q b c d e).1 ∧ SIM c9 (qc v f q b c d e).2 f u (qq u g q b c d e).2 := by
  obtain ⟨l1, l2⟩ := h.laid hq
  unfold qq
  by_cases e0 : g 25 q = 0
  · rw [if_neg (fun t => l2.mp t e0), if_pos hv]
    by_cases b1 : b = 1
    · subst b1; rw [if_pos rfl]; exact qb_sim h hq (n := 1) rfl (by decide) (by decide) (by unfold S_X8_isSize; decide) (l1.mpr e0)
    · rw [if_neg b1]
      by_cases b2 : b = 2
      · subst b2; rw [if_pos rfl]; exact qb_sim h hq (n := 2) rfl (by decide) (by decide) (by unfold S_X8_isSize; decide) (l1.mpr e0)
      · rw [if_neg b2]
        by_cases b4 : b = 4
        · subst b4; rw [if_pos rfl]; exact qb_sim h hq (n := 4) rfl (by decide) (by decide) (by unfold S_X8_isSize; decide) (l1.mpr e0)
        · rw [if_neg b4]
          by_cases b8 : b = 8
          · subst b8; rw [if_pos rfl]; exact qb_sim h hq (n := 8) rfl (by decide) (by decide) (by unfold S_X8_isSize; decide) (l1.mpr e0)
          · rw [if_neg b8]
            by_cases b16 : b = 16
            · subst b16; rw [if_pos rfl]; exact qb_sim h hq (n := 16) rfl (by decide) (by decide) (by unfold S_X8_isSize; decide) (l1.mpr e0)
            · rw [if_neg b16]
              unfold qc S_X8_isSize
              rw [if_pos (l1.mpr e0), if_neg b1, if_neg b2, if_neg b4, if_neg b8, if_neg b16, if_pos rfl]
              exact ⟨rfl, h⟩
  · rw [if_pos (l2.mpr e0)]
    unfold qc
    rw [if_neg (fun t => e0 (l1.mp t))]
    exact ⟨rfl, h⟩
theorem sim_queue {c9 : Nat} {v : Nat → Int32} {f : Nat → Nat → Int32} {u : Nat → Int32} {g : Nat → Nat → Int32} (h : SIM c9 v f u g) (hc : c9 + 1 ≤ 512) (a : Int32) (b : Int32) (c : Int32) (d : Int32) (e : Int32) : (S_X8_queue v f a b c d e).1 = (S_X9_queue u g a b c d e).1 ∧ SIM (c9 + 1) ((S_X8_queue v f a b c d e).2) (f) (u) ((S_X9_queue u g a b c d e).2) := by
  have h9 := h.up hc
  rw [qc_eq, qq_eq, isin_q v u f g]
  split
  · exact ⟨rfl, h9⟩
  · rename_i hq
    rw [h.1.1]
    by_cases e0 : u 0 = 0
    · rw [if_pos e0]
      split
      · exact qq_sim h9 (by decide) e0
      · split
        · exact qq_sim h9 (by decide) e0
        · exact qq_sim h9 (by decide) e0
    · rw [if_neg e0]
      have hn : ∀ q : Nat, qq u g q b c d e = ((-2), g) := by
        intro q
        unfold qq
        rw [if_neg e0]
        split <;> rfl
      rw [hn, hn, hn]
      split
      · exact ⟨rfl, h9⟩
      · split <;> exact ⟨rfl, h9⟩
