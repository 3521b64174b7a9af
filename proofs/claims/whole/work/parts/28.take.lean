/-- what take needs of a QUEUE -/
def TQ (g : Nat → Nat → Int32) (q : Nat) : Prop := ∃ n t : Nat, g 25 q = nI n ∧ 1 ≤ n ∧ n ≤ 16 ∧ g 29 q = nI t ∧ t < 65536 ∧ MA (g 26 q) (16 * n) ∧ MA (g 27 q) (4 + 2 * n)
theorem TQ.ne {g : Nat → Nat → Int32} {q : Nat} (h : TQ g q) : ¬ g 25 q = 0 := by
  obtain ⟨n, t, e, h1, h2, -⟩ := h
  rw [e]
  exact nI_ne0 (by omega) (by omega)
theorem TQ.hd {g : Nat → Nat → Int32} {q : Nat} (h : TQ g q) : MA ((((g 27) q) + 4) + (2 * (((g 29) q) - ((g 29) q) / ((g 25) q) * ((g 25) q)))) 2 := by
  obtain ⟨n, t, e, h1, h2, et, ht, -, p, ep, hp⟩ := h
  obtain ⟨r, hr, er⟩ := rem_ma et ht e h1 h2
  rw [er, ep, show (2 : Int32) = nI 2 from rfl, show (4 : Int32) = nI 4 from rfl, pk_mul, nI_add, nI_add]
  exact ⟨_, rfl, by omega⟩
theorem n2 (u : Nat → Int32) (g : Nat → Nat → Int32) {a : Int32} (h : MA a 2) : ∃ k : Nat, ((S_X9_number u g a 2) : Int64).toInt32 = nI k ∧ k < 65536 := by
  obtain ⟨p, rfl, hp⟩ := h
  rw [num_M u g p 2 hp (by decide), lN_i]
  exact ⟨_, rfl, nb_lt (g 23) p 2⟩
def TK (u : Nat → Int32) (i : Nat) (tb mn num : Int32) : Prop := i ≤ 16 ∧ (∃ m : Nat, mn = nI m ∧ m ≤ 256 ∧ MA tb (16 * m)) ∧ (∃ k : Nat, num = nI k ∧ k < 65536) ∧ ∃ r w : Nat, u 4 = nI r ∧ u 6 = nI w ∧ r + w = i
def tkm (i : Nat) (inT more b : Int32) : Nat := if more = 0 then 0 else if b = 0 then 2 * (17 - i) + (if inT = 0 then 2 else 1) else 0
theorem tk0 {U U' : Nat → Int32} {g : Nat → Nat → Int32} {q : Nat} (hm : TQ g q) (h4 : U 4 = 0) (h6 : U 6 = 0) : TK U 0 ((g 26) q) ((g 25) q) (((S_X9_number U' g ((((g 27) q) + 4) + (2 * (((g 29) q) - ((g 29) q) / ((g 25) q) * ((g 25) q)))) 2) : Int64).toInt32) := by
  have h := n2 U' g hm.hd
  obtain ⟨n, t, e, h1, h2, et, ht, hd, -⟩ := hm
  exact ⟨by omega, ⟨n, e, by omega, hd⟩, h, 0, 0, h4, h6, rfl⟩
theorem TK.pl {u : Nat → Int32} {i : Nat} {tb mn num : Int32} (h : TK u i tb mn num) (hl : ¬ mn ≤ num) : MA (tb + (16 * num)) 16 := by
  obtain ⟨-, ⟨m, em, hm, p, ep, hp⟩, ⟨k, ek, hk⟩, -⟩ := h
  rw [em, ek, nI_leI (by omega) (by omega)] at hl
  rw [ep, ek, show (16 : Int32) = nI 16 from rfl, pk_mul, nI_add]
  exact ⟨_, rfl, by omega⟩
theorem TK.r {u : Nat → Int32} {i : Nat} {tb mn num : Int32} (h : TK u i tb mn num) : ∃ j : Nat, j < 20 ∧ (u 4) = nI j := by
  obtain ⟨hi, -, -, r, w, er, ew, e⟩ := h
  exact ⟨r, by omega, er⟩
theorem TK.w {u : Nat → Int32} {i : Nat} {tb mn num : Int32} (h : TK u i tb mn num) : ∃ j : Nat, j < 20 ∧ (u 6) = nI j := by
  obtain ⟨hi, -, -, r, w, er, ew, e⟩ := h
  exact ⟨w, by omega, ew⟩
theorem TK.bad {u : Nat → Int32} {i : Nat} {tb mn num x : Int32} (h : TK u i tb mn num) : TK (upd u 8 x) i tb mn num := h
theorem tkm_pos {i d : Nat} {inT more b : Int32} (hi : i ≤ 16) (h1 : ¬ more = 0) (h2 : b = 0) (h : tkm i inT more b < d + 1) : 2 * (17 - i) < d := by
  unfold tkm at h
  rw [if_neg h1, if_pos h2] at h
  split at h <;> omega
theorem tkm_bad {i d : Nat} {inT more b : Int32} (hi : i ≤ 16) (h1 : ¬ more = 0) (h2 : b = 0) (h : tkm i inT more b < d + 1) : tkm i inT more 1 < d := by
  have := tkm_pos hi h1 h2 h
  unfold tkm
  rw [if_neg h1, if_neg (by decide)]
  omega
theorem tkm_tab {i d : Nat} {inT more b : Int32} (h1 : ¬ more = 0) (h2 : b = 0) (h3 : inT = 0) (h : tkm i inT more b < d + 1) : tkm i 1 more b < d := by
  unfold tkm at h ⊢
  rw [if_neg h1, if_pos h2, if_pos h3] at h
  rw [if_neg h1, if_pos h2, if_neg (by decide)]
  omega
theorem tkm_one {i d : Nat} {inT more b m2 b2 : Int32} (hi : i ≤ 15) (h1 : ¬ more = 0) (h2 : b = 0) (h : tkm i inT more b < d + 1) : tkm (i + 1) inT m2 b2 < d := by
  have := tkm_pos (by omega) h1 h2 h
  unfold tkm
  repeat' split
  all_goals omega
def Q_X9_take_1 (u : Nat → Int32) (g : Nat → Nat → Int32) (q : Nat) : Int64 := (S_X9_number (upd (upd (upd (upd u 4 0) 5 0) 6 0) 7 0) g ((((g 27) q) + 4) + (2 * (((g 29) q) - ((g 29) q) / ((g 25) q) * ((g 25) q)))) 2)
def Q_X9_take_2 (u : Nat → Int32) (g : Nat → Nat → Int32) (q : Nat) (i : Nat) (tb : Int32) (mn : Int32) (num : Int32) (inT : Int32) (aW : Int32) (more : Int32) (u1 : (Nat → Int32)) (g1 : (Nat → Nat → Int32)) : Int64 := (S_X9_number u1 g1 ((tb + (16 * num)) + 8) 4)
def Q_X9_take_3 (u : Nat → Int32) (g : Nat → Nat → Int32) (q : Nat) (i : Nat) (tb : Int32) (mn : Int32) (num : Int32) (inT : Int32) (aW : Int32) (more : Int32) (u1 : (Nat → Int32)) (g1 : (Nat → Nat → Int32)) : Int64 := (S_X9_number u1 g1 ((tb + (16 * num)) + 12) 2)
def Q_X9_take_4 (u : Nat → Int32) (g : Nat → Nat → Int32) (q : Nat) (i : Nat) (tb : Int32) (mn : Int32) (num : Int32) (inT : Int32) (aW : Int32) (more : Int32) (u1 : (Nat → Int32)) (g1 : (Nat → Nat → Int32)) : Int32 := if ((((Q_X9_take_3 u g q i tb mn num inT aW more u1 g1) : Int64).toInt32) &&& 4) = 0 then 0
    else 1
def Q_X9_take_5 (u : Nat → Int32) (g : Nat → Nat → Int32) (q : Nat) (i : Nat) (tb : Int32) (mn : Int32) (num : Int32) (inT : Int32) (aW : Int32) (more : Int32) (u1 : (Nat → Int32)) (g1 : (Nat → Nat → Int32)) : Int32 := if ((((Q_X9_take_3 u g q i tb mn num inT aW more u1 g1) : Int64).toInt32) &&& 2) = 0 then 0
    else 1
def Q_X9_take_6 (u : Nat → Int32) (g : Nat → Nat → Int32) (q : Nat) (i : Nat) (tb : Int32) (mn : Int32) (num : Int32) (inT : Int32) (aW : Int32) (more : Int32) (u1 : (Nat → Int32)) (g1 : (Nat → Nat → Int32)) : Int32 := if ((((Q_X9_take_3 u g q i tb mn num inT aW more u1 g1) : Int64).toInt32) &&& 1) = 0 then 0
    else 1
def Q_X9_take_7 (u : Nat → Int32) (g : Nat → Nat → Int32) (q : Nat) (i : Nat) (tb : Int32) (mn : Int32) (num : Int32) (inT : Int32) (aW : Int32) (more : Int32) (u1 : (Nat → Int32)) (g1 : (Nat → Nat → Int32)) : Int32 := if (lg_cmp (Q_X9_take_2 u g q i tb mn num inT aW more u1 g1) 0) = 0 then 1
    else if (lg_cmp (S_X9_number u1 g1 (tb + (16 * num)) 8) 0) < 0 then 0
      else if 0 < (lg_cmp (S_X9_number u1 g1 (tb + (16 * num)) 8) (4096 - (Q_X9_take_2 u g q i tb mn num inT aW more u1 g1))) then 0
        else 1
def Q_X9_take_8 (u : Nat → Int32) (g : Nat → Nat → Int32) (q : Nat) (i : Nat) (tb : Int32) (mn : Int32) (num : Int32) (inT : Int32) (aW : Int32) (more : Int32) (u1 : (Nat → Int32)) (g1 : (Nat → Nat → Int32)) : Int32 := if (Q_X9_take_4 u g q i tb mn num inT aW more u1 g1) = 0 then 0
    else if (u1 1) = 0 then 1
      else if (Q_X9_take_6 u g q i tb mn num inT aW more u1 g1) = 0 then if inT = 0 then if (lg_cmp (Q_X9_take_2 u g q i tb mn num inT aW more u1 g1) 0) = 0 then 1
            else if (lg_cmp ((Q_X9_take_2 u g q i tb mn num inT aW more u1 g1) - (Q_X9_take_2 u g q i tb mn num inT aW more u1 g1) / 16 * 16) 0) = 0 then if (lg_cmp (Q_X9_take_2 u g q i tb mn num inT aW more u1 g1) 256) ≤ 0 then 0
                else 1
              else 1
          else 1
        else 1
def Q_X9_take_9 (u : Nat → Int32) (g : Nat → Nat → Int32) (q : Nat) (i : Nat) (tb : Int32) (mn : Int32) (num : Int32) (inT : Int32) (aW : Int32) (more : Int32) (u1 : (Nat → Int32)) (g1 : (Nat → Nat → Int32)) : (Nat → Int32) := ((S_X9_keep u1 g1 (((S_X9_number u1 g1 (tb + (16 * num)) 8) : Int64).toInt32) (((Q_X9_take_2 u g q i tb mn num inT aW more u1 g1) : Int64).toInt32) (Q_X9_take_5 u g q i tb mn num inT aW more u1 g1)).1)
def Q_X9_take_10 (u : Nat → Int32) (g : Nat → Nat → Int32) (q : Nat) (i : Nat) (tb : Int32) (mn : Int32) (num : Int32) (inT : Int32) (aW : Int32) (more : Int32) (u1 : (Nat → Int32)) (g1 : (Nat → Nat → Int32)) : (Nat → Nat → Int32) := ((S_X9_keep u1 g1 (((S_X9_number u1 g1 (tb + (16 * num)) 8) : Int64).toInt32) (((Q_X9_take_2 u g q i tb mn num inT aW more u1 g1) : Int64).toInt32) (Q_X9_take_5 u g q i tb mn num inT aW more u1 g1)).2)
def Q_X9_take_11 (u : Nat → Int32) (g : Nat → Nat → Int32) (q : Nat) (i : Nat) (tb : Int32) (mn : Int32) (num : Int32) (inT : Int32) (aW : Int32) (more : Int32) (u1 : (Nat → Int32)) (g1 : (Nat → Nat → Int32)) : Int32 := if aW = 0 then 1
    else 1
def Q_X9_take_12 (u : Nat → Int32) (g : Nat → Nat → Int32) (q : Nat) (i : Nat) (tb : Int32) (mn : Int32) (num : Int32) (inT : Int32) (aW : Int32) (more : Int32) (u1 : (Nat → Int32)) (g1 : (Nat → Nat → Int32)) : Int64 := (S_X9_number (Q_X9_take_9 u g q i tb mn num inT aW more u1 g1) (Q_X9_take_10 u g q i tb mn num inT aW more u1 g1) ((tb + (16 * num)) + 14) 2)
def Q_X9_take_13 (u : Nat → Int32) (g : Nat → Nat → Int32) (q : Nat) (i : Nat) (tb : Int32) (mn : Int32) (num : Int32) (inT : Int32) (aW : Int32) (more : Int32) (u1 : (Nat → Int32)) (g1 : (Nat → Nat → Int32)) : Int32 := 0
def L_X9_take (u : Nat → Int32) (g : Nat → Nat → Int32) (q : Nat) : Nat → Nat → Int32 → Int32 → Int32 → Int32 → Int32 → Int32 → (Nat → Int32) → (Nat → Nat → Int32) → Int32 × (Nat → Int32) × (Nat → Nat → Int32)
  | 0, i, tb, mn, num, inT, aW, more, u1, g1 => (0, u1, g1)
  | d1 + 1, i, tb, mn, num, inT, aW, more, u1, g1 =>
    if more = 0 then if (u1 8) = 0 then (1, u1, (va_up g1 29 (upd (g1 29) q ((((g1 29) q) + 1) &&& 65535))))
      else (0, (upd u1 0 2), g1)
    else if (u1 8) = 0 then if mn ≤ num then (L_X9_take u g q d1 i tb mn num inT aW more (upd u1 8 1) g1)
        else if (nI i) = 16 then (L_X9_take u g q d1 i tb mn num inT aW more (upd u1 8 1) g1)
          else if (Q_X9_take_8 u g q i tb mn num inT aW more u1 g1) = 0 then if (Q_X9_take_7 u g q i tb mn num inT aW more u1 g1) = 0 then (L_X9_take u g q d1 i tb mn num inT aW more (upd u1 8 1) g1)
              else if (Q_X9_take_5 u g q i tb mn num inT aW more u1 g1) = 0 then if (Q_X9_take_4 u g q i tb mn num inT aW more u1 g1) = 0 then if aW = 0 then (L_X9_take u g q d1 (i + 1) tb mn (((Q_X9_take_12 u g q i tb mn num inT aW more u1 g1) : Int64).toInt32) inT (Q_X9_take_13 u g q i tb mn num inT aW more u1 g1) (Q_X9_take_6 u g q i tb mn num inT aW more u1 g1) (Q_X9_take_9 u g q i tb mn num inT aW more u1 g1) (Q_X9_take_10 u g q i tb mn num inT aW more u1 g1))
                    else (L_X9_take u g q d1 i tb mn num inT aW more (upd u1 8 1) g1)
                  else (L_X9_take u g q d1 i (((S_X9_number u1 g1 (tb + (16 * num)) 8) : Int64).toInt32) ((((Q_X9_take_2 u g q i tb mn num inT aW more u1 g1) / 16) : Int64).toInt32) 0 1 aW more u1 g1)
                else if (Q_X9_take_4 u g q i tb mn num inT aW more u1 g1) = 0 then (L_X9_take u g q d1 (i + 1) tb mn (((Q_X9_take_12 u g q i tb mn num inT aW more u1 g1) : Int64).toInt32) inT (Q_X9_take_11 u g q i tb mn num inT aW more u1 g1) (Q_X9_take_6 u g q i tb mn num inT aW more u1 g1) (Q_X9_take_9 u g q i tb mn num inT aW more u1 g1) (Q_X9_take_10 u g q i tb mn num inT aW more u1 g1))
                  else (L_X9_take u g q d1 i (((S_X9_number u1 g1 (tb + (16 * num)) 8) : Int64).toInt32) ((((Q_X9_take_2 u g q i tb mn num inT aW more u1 g1) / 16) : Int64).toInt32) 0 1 aW more u1 g1)
            else (L_X9_take u g q d1 i tb mn num inT aW more (upd u1 8 1) g1)
      else (0, (upd u1 0 2), g1)
def S_X9_take (u : Nat → Int32) (g : Nat → Nat → Int32) (q : Nat) : Int32 × (Nat → Int32) × (Nat → Nat → Int32) :=
  (L_X9_take u g q 37 0 ((g 26) q) ((g 25) q) (((Q_X9_take_1 u g q) : Int64).toInt32) 0 0 1 (upd (upd (upd (upd (upd (upd u 4 0) 5 0) 6 0) 7 0) 3 (((Q_X9_take_1 u g q) : Int64).toInt32)) 8 0) g)
theorem tk15 {u : Nat → Int32} {i : Nat} {tb mn num : Int32} (h : TK u i tb mn num) (h16 : ¬ (nI i) = 16) : i ≤ 15 := by
  have h1 := h.1
  rcases Nat.lt_or_ge i 16 with q | q
  · omega
  · exact absurd (by rw [show i = 16 by omega]; rfl) h16
theorem tk_k {u : Nat → Int32} {g : Nat → Nat → Int32} {i : Nat} {tb mn num a b c : Int32} (h : TK u i tb mn num) (hl : ¬ mn ≤ num) (h16 : ¬ (nI i) = 16) (g2 : Nat → Nat → Int32) : TK ((S_X9_keep u g a b c).1) (i + 1) tb mn (((S_X9_number ((S_X9_keep u g a b c).1) g2 ((tb + (16 * num)) + 14) 2) : Int64).toInt32) := by
  have h15 := tk15 h h16
  have hn := n2 ((S_X9_keep u g a b c).1) g2 ((h.pl hl).sub 14 (by omega))
  obtain ⟨hi, hm, hk, r, w, er, ew, e⟩ := h
  refine ⟨by omega, hm, hn, ?_⟩
  unfold S_X9_keep
  split
  · exact ⟨r + 1, w, by show (u 4) + 1 = _; rw [er]; exact nI_1 r, ew, by omega⟩
  · exact ⟨r, w + 1, er, by show (u 6) + 1 = _; rw [ew]; exact nI_1 w, by omega⟩
theorem tk_t {u : Nat → Int32} {g : Nat → Nat → Int32} {q i : Nat} {tb mn num inT aW more : Int32} {u1 : Nat → Int32} {g1 : Nat → Nat → Int32} (hI : TK u1 i tb mn num) (hl : ¬ mn ≤ num) (h4 : ¬ (Q_X9_take_4 u g q i tb mn num inT aW more u1 g1) = 0) (h8 : (Q_X9_take_8 u g q i tb mn num inT aW more u1 g1) = 0) (h7 : ¬ (Q_X9_take_7 u g q i tb mn num inT aW more u1 g1) = 0) :
    inT = 0 ∧ TK u1 i (((S_X9_number u1 g1 (tb + (16 * num)) 8) : Int64).toInt32) ((((Q_X9_take_2 u g q i tb mn num inT aW more u1 g1) / 16) : Int64).toInt32) 0 := by
  have hpl := hI.pl hl
  unfold Q_X9_take_8 at h8
  rw [if_neg h4] at h8
  unfold Q_X9_take_7 at h7
  generalize hN : S_X9_number u1 g1 (tb + (16 * num)) 8 = N8 at h7 ⊢
  have hQ : ∃ l : Nat, l < 4294967296 ∧ Q_X9_take_2 u g q i tb mn num inT aW more u1 g1 = lN l := by
    unfold Q_X9_take_2
    obtain ⟨p, ep, hp⟩ := hpl.sub 8 (M := 4) (by omega)
    rw [show (8 : Int32) = nI 8 from rfl, ep, num_M u1 g1 p 4 hp (by decide)]
    exact ⟨_, nb_lt (g1 23) p 4, rfl⟩
  obtain ⟨l, hl4, el⟩ := hQ
  rw [el] at h8 h7 ⊢
  split at h8
  · exact absurd h8 (by decide)
  · split at h8
    · split at h8
      · rename_i hin
        split at h8
        · exact absurd h8 (by decide)
        · rename_i hz
          rw [if_neg hz] at h7
          split at h8
          · rename_i hr
            split at h8
            · rename_i h256
              split at h7
              · exact absurd rfl h7
              · rename_i hneg
                split at h7
                · exact absurd rfl h7
                · rename_i hhi
                  refine ⟨hin, hI.1, ?_, ⟨0, rfl, by decide⟩, hI.2.2.2⟩
                  rw [lg_cmp_eq] at hz hr
                  rw [lg_cmp_le, show (256 : Int64) = lN 256 from rfl, pk_lLE (by omega) (by decide)] at h256
                  rw [lg_cmp_lt, Int64.lt_iff_toInt_lt] at hneg
                  rw [lg_cmp_gt, Int64.lt_iff_toInt_lt, show (4096 : Int64) = lN 4096 from rfl, lN_sub (by omega), lN_toInt (by omega)] at hhi
                  rw [show (16 : Int64) = lN 16 from rfl, pk_lRem (by omega) (by decide) (by decide), show (0 : Int64) = lN 0 from rfl, pk_lEQ (by omega) (by decide)] at hr
                  have hz0 : l ≠ 0 := fun e => hz (by rw [e]; rfl)
                  have e0 : (0 : Int64).toInt = 0 := rfl
                  have hk : N8 = lN N8.toInt.toNat := Int64.toInt_inj.mp (by rw [lN_toInt (by omega)]; omega)
                  rw [show (16 : Int64) = lN 16 from rfl, pk_lDiv (by omega) (by decide) (by decide), lN_i]
                  refine ⟨l / 16, rfl, by omega, ?_⟩
                  rw [hk, lN_i]
                  exact ⟨_, rfl, by omega⟩
            · exact absurd h8 (by decide)
          · exact absurd h8 (by decide)
      · exact absurd h8 (by decide)
    · exact absurd h8 (by decide)
set_option maxHeartbeats 1000000 in
set_option maxRecDepth 100000 in
theorem c_X9_take (ε : ET) (ad : Nat → Nat) (v : Nat → Int32) (f : Nat → Nat → Int32) (u : Nat → Int32) (g : Nat → Nat → Int32) (q : Nat) (hq : q < 3) (hm : TQ g q) : CT ε yX9_take cX9_take 21 (some .boolean) 1 25 0 0 [.ref (ad 22), .int (nI q)] (WD ε ad v f u g) (DT (some (.int ((S_X9_take u g q).1))) (WD ε ad v f ((S_X9_take u g q).2.1) ((S_X9_take u g q).2.2))) := by
  refine CT.of (own := RX9) (by decide) rfl (Nat.le_of_ble_eq_true rfl) (fun κ C hQ => ?_)
  refine j_aload_n (i := 0) C dX9_take_0 rfl 0 rfl ?_
  refine j_iconst (x := 0) C dX9_take_1 (by decide) ?_
  refine p_22_readMany C dX9_take_2 lf_X9_95 ?_
  refine j_aload_n (i := 0) C dX9_take_5 rfl 0 rfl ?_
  refine j_iconst (x := 0) C dX9_take_6 (by decide) ?_
  refine p_22_readAll C dX9_take_7 lf_X9_98 ?_
  refine j_aload_n (i := 0) C dX9_take_10 rfl 0 rfl ?_
  refine j_iconst (x := 0) C dX9_take_11 (by decide) ?_
  refine p_22_writeMany C dX9_take_12 lf_X9_101 ?_
  refine j_aload_n (i := 0) C dX9_take_15 rfl 0 rfl ?_
  refine j_iconst (x := 0) C dX9_take_16 (by decide) ?_
  refine p_22_writeAll C dX9_take_17 lf_X9_104 ?_
  refine j_aload_n (i := 0) C dX9_take_20 rfl 0 rfl ?_
  refine g_22_sizes C dX9_take_21 lf_X9_11 ?_
  refine j_iload_n (i := 1) C dX9_take_24 rfl 1 rfl ?_
  refine aln_25 (q := q) (F := (g 25)) C dX9_take_25 (by omega) rfl rfl ?_
  refine j_istore_n (i := 2) (lv' := [(2, .int ((g 25) q)), (0, .ref (ad 22)), (1, .int (nI q))]) C dX9_take_26 rfl (by decide) rfl ?_
  refine j_aload_n (i := 0) C dX9_take_27 rfl 1 rfl ?_
  refine j_aload_n (i := 0) C dX9_take_28 rfl 1 rfl ?_
  refine j_aload_n (i := 0) C dX9_take_29 rfl 1 rfl ?_
  refine g_22_availables C dX9_take_30 lf_X9_52 ?_
  refine j_iload_n (i := 1) C dX9_take_33 rfl 2 rfl ?_
  refine aln_27 (q := q) (F := (g 27)) C dX9_take_34 (by omega) rfl rfl ?_
  refine j_iconst (x := 4) C dX9_take_35 (by decide) ?_
  refine j_iadd C dX9_take_36 ?_
  refine j_iconst (x := 2) C dX9_take_37 (by decide) ?_
  refine j_aload_n (i := 0) C dX9_take_38 rfl 1 rfl ?_
  refine g_22_takens C dX9_take_39 lf_X9_15 ?_
  refine j_iload_n (i := 1) C dX9_take_42 rfl 2 rfl ?_
  refine aln_29 (q := q) (F := (g 29)) C dX9_take_43 (by omega) rfl rfl ?_
  refine j_iload_n (i := 2) C dX9_take_44 rfl 0 rfl ?_
  refine j_irem C dX9_take_45 hm.ne ?_
  refine j_imul C dX9_take_46 ?_
  refine j_iadd C dX9_take_47 ?_
  refine j_iconst (x := 2) C dX9_take_48 (by decide) ?_
  refine c_V (As := [.int ((((g 27) q) + 4) + (2 * (((g 29) q) - ((g 29) q) / ((g 25) q) * ((g 25) q)))), .int 2]) (rest := [.ref (ad 22)]) (st1 := [.long (Q_X9_take_1 u g q), .ref (ad 22)]) C (c_X9_number ε ad v f (upd (upd (upd (upd u 4 0) 5 0) 6 0) 7 0) g ((((g 27) q) + 4) + (2 * (((g 29) q) - ((g 29) q) / ((g 25) q) * ((g 25) q)))) 2  (by first | assumption | omega | decide) hm.hd) mv_X9_number lm_X9_90 dX9_take_49 22 wl_22 rfl rfl rfl (by decide) (Nat.le_of_ble_eq_true rfl) rfl ?_
  refine j_l2i C dX9_take_52 ?_
  refine p_22_head C dX9_take_53 lf_X9_107 ?_
  refine j_aload_n (i := 0) C dX9_take_56 rfl 1 rfl ?_
  refine g_22_descriptors C dX9_take_57 lf_X9_49 ?_
  refine j_iload_n (i := 1) C dX9_take_60 rfl 2 rfl ?_
  refine aln_26 (q := q) (F := (g 26)) C dX9_take_61 (by omega) rfl rfl ?_
  refine j_istore_n (i := 3) (lv' := [(3, .int ((g 26) q)), (2, .int ((g 25) q)), (0, .ref (ad 22)), (1, .int (nI q))]) C dX9_take_62 rfl (by decide) rfl ?_
  refine j_iload_n (i := 2) C dX9_take_63 rfl 1 rfl ?_
  refine j_istore (i := 4) (lv' := [(4, .int ((g 25) q)), (3, .int ((g 26) q)), (2, .int ((g 25) q)), (0, .ref (ad 22)), (1, .int (nI q))]) C dX9_take_64 (by decide) rfl ?_
  refine j_aload_n (i := 0) C dX9_take_66 rfl 3 rfl ?_
  refine g_22_head (x := (((Q_X9_take_1 u g q) : Int64).toInt32)) C dX9_take_67 lf_X9_107 rfl ?_
  refine j_istore (i := 5) (lv' := [(5, .int (((Q_X9_take_1 u g q) : Int64).toInt32)), (4, .int ((g 25) q)), (3, .int ((g 26) q)), (2, .int ((g 25) q)), (0, .ref (ad 22)), (1, .int (nI q))]) C dX9_take_70 (by decide) rfl ?_
  refine j_iconst (x := 0) C dX9_take_72 (by decide) ?_
  refine j_istore (i := 6) (lv' := [(6, .int 0), (5, .int (((Q_X9_take_1 u g q) : Int64).toInt32)), (4, .int ((g 25) q)), (3, .int ((g 26) q)), (2, .int ((g 25) q)), (0, .ref (ad 22)), (1, .int (nI q))]) C dX9_take_73 (by decide) rfl ?_
  refine j_iconst (x := 0) C dX9_take_75 (by decide) ?_
  refine j_istore (i := 7) (lv' := [(7, .int 0), (6, .int 0), (5, .int (((Q_X9_take_1 u g q) : Int64).toInt32)), (4, .int ((g 25) q)), (3, .int ((g 26) q)), (2, .int ((g 25) q)), (0, .ref (ad 22)), (1, .int (nI q))]) C dX9_take_76 (by decide) rfl ?_
  refine j_iconst (x := 1) C dX9_take_78 (by decide) ?_
  refine j_istore (i := 8) (lv' := [(8, .int 1), (7, .int 0), (6, .int 0), (5, .int (((Q_X9_take_1 u g q) : Int64).toInt32)), (4, .int ((g 25) q)), (3, .int ((g 26) q)), (2, .int ((g 25) q)), (0, .ref (ad 22)), (1, .int (nI q))]) C dX9_take_79 (by decide) rfl ?_
  refine j_aload_n (i := 0) C dX9_take_81 rfl 7 rfl ?_
  refine j_iconst (x := 0) C dX9_take_82 (by decide) ?_
  refine p_22_bad C dX9_take_83 lf_X9_110 (Or.inl rfl) ?_
  refine j_iconst (x := 0) C dX9_take_86 (by decide) ?_
  refine j_istore (i := 9) (lv' := [(9, .int 0), (8, .int 1), (7, .int 0), (6, .int 0), (5, .int (((Q_X9_take_1 u g q) : Int64).toInt32)), (4, .int ((g 25) q)), (3, .int ((g 26) q)), (2, .int ((g 25) q)), (0, .ref (ad 22)), (1, .int (nI q))]) C dX9_take_87 (by decide) rfl ?_
  have hw1 : ∀ (d1 : Nat) (i : Nat) (tb : Int32) (mn : Int32) (num : Int32) (inT : Int32) (aW : Int32) (more : Int32) (u1 : (Nat → Int32)) (g1 : (Nat → Nat → Int32)), (TK u1 i tb mn num) → tkm i inT more (u1 8) < d1 → L_X9_take u g q d1 i tb mn num inT aW more u1 g1 = S_X9_take u g q → JW κ 0 0 (WD ε ad v f u1 g1) 89 [(9, .int (nI i)), (8, .int more), (7, .int aW), (6, .int inT), (5, .int num), (4, .int mn), (3, .int tb), (2, .int ((g 25) q)), (0, .ref (ad 22)), (1, .int (nI q))] [] := by
    intro d1
    induction d1 with
    | zero => intro i tb mn num inT aW more u1 g1 hI hm9 _; exact absurd hm9 (Nat.not_lt_zero _)
    | succ d1 ih1 =>
      intro i tb mn num inT aW more u1 g1 hI hm1 hS1
      refine j_iload (i := 8) C dX9_take_89 1 rfl ?_
      refine j_if_eq (tgt := 410) C dX9_take_91 (by decide) (fun c_1 => ?_) (fun c_1 => ?_)
      · refine j_aload_n (i := 0) C dX9_take_410 rfl 8 rfl ?_
        refine g_22_bad (x := (u1 8)) C dX9_take_411 lf_X9_110 rfl ?_
        refine j_if_eq (tgt := 424) C dX9_take_414 (by decide) (fun c_2 => ?_) (fun c_2 => ?_)
        · refine j_aload_n (i := 0) C dX9_take_424 rfl 8 rfl ?_
          refine g_22_takens C dX9_take_425 lf_X9_15 ?_
          refine j_iload_n (i := 1) C dX9_take_428 rfl 9 rfl ?_
          refine j_aload_n (i := 0) C dX9_take_429 rfl 8 rfl ?_
          refine g_22_takens C dX9_take_430 lf_X9_15 ?_
          refine j_iload_n (i := 1) C dX9_take_433 rfl 9 rfl ?_
          refine aln_29 (q := q) (F := (g1 29)) C dX9_take_434 (by omega) rfl rfl ?_
          refine j_iconst (x := 1) C dX9_take_435 (by decide) ?_
          refine j_iadd C dX9_take_436 ?_
          refine j_ldc C dX9_take_437 li_X9_94 ?_
          refine j_iand C dX9_take_439 ?_
          refine asn_29 (q := q) (F2 := (g1 29)) (F := (upd (g1 29) q ((((g1 29) q) + 1) &&& 65535))) C dX9_take_440 (by omega) rfl rfl rfl ?_
          refine j_iconst (x := 1) C dX9_take_441 (by decide) ?_
          have hs : S_X9_take u g q = (1, u1, (va_up g1 29 (upd (g1 29) q ((((g1 29) q) + 1) &&& 65535)))) := by rw [← hS1, L_X9_take]; rw [if_pos c_1, if_pos c_2]
          exact j_zret C hQ rfl rfl dX9_take_442 (dt_ivfM hs)
        · refine j_aload_n (i := 0) C dX9_take_417 rfl 8 rfl ?_
          refine j_iconst (x := 2) C dX9_take_418 (by decide) ?_
          refine p_22_state C dX9_take_419 lf_X9_86 ?_
          refine j_iconst (x := 0) C dX9_take_422 (by decide) ?_
          have hs : S_X9_take u g q = (0, (upd u1 0 2), g1) := by rw [← hS1, L_X9_take]; rw [if_pos c_1, if_neg c_2]
          exact j_zret C hQ rfl rfl dX9_take_423 (dt_ivfM hs)
      · refine j_aload_n (i := 0) C dX9_take_94 rfl 8 rfl ?_
        refine g_22_bad (x := (u1 8)) C dX9_take_95 lf_X9_110 rfl ?_
        refine j_if_ne (tgt := 410) C dX9_take_98 (by decide) (fun c_3 => ?_) (fun c_3 => ?_)
        · refine j_aload_n (i := 0) C dX9_take_410 rfl 8 rfl ?_
          refine g_22_bad (x := (u1 8)) C dX9_take_411 lf_X9_110 rfl ?_
          refine j_if_eq (tgt := 424) C dX9_take_414 (by decide) (fun c9 => absurd c9 c_3) (fun _ => ?_)
          refine j_aload_n (i := 0) C dX9_take_417 rfl 8 rfl ?_
          refine j_iconst (x := 2) C dX9_take_418 (by decide) ?_
          refine p_22_state C dX9_take_419 lf_X9_86 ?_
          refine j_iconst (x := 0) C dX9_take_422 (by decide) ?_
          have hs : S_X9_take u g q = (0, (upd u1 0 2), g1) := by rw [← hS1, L_X9_take]; rw [if_neg c_1, if_neg c_3]
          exact j_zret C hQ rfl rfl dX9_take_423 (dt_ivfM hs)
        · refine j_iload (i := 5) C dX9_take_101 4 rfl ?_
          refine j_iload (i := 4) C dX9_take_103 5 rfl ?_
          refine j_icmp_ge (tgt := 115) C dX9_take_105 (by decide) (fun c_4 => ?_) (fun c_4 => ?_)
          · refine j_aload_n (i := 0) C dX9_take_115 rfl 8 rfl ?_
            refine j_iconst (x := 1) C dX9_take_116 (by decide) ?_
            refine p_22_bad C dX9_take_117 lf_X9_110 (Or.inr rfl) ?_
            refine j_goto (tgt := 89) C dX9_take_120 (by decide) ?_
            refine j_lv (lv' := [(9, .int (nI i)), (8, .int more), (7, .int aW), (6, .int inT), (5, .int num), (4, .int mn), (3, .int tb), (2, .int ((g 25) q)), (0, .ref (ad 22)), (1, .int (nI q))]) [0, 1, 2, 3, 4, 5, 6, 7, 8, 9] rfl ?_
            exact ih1 i tb mn num inT aW more (upd u1 8 1) g1 hI.bad (tkm_bad hI.1 c_1 c_3 hm1) (by rw [← hS1, L_X9_take]; rw [if_neg c_1, if_pos c_3, if_pos c_4])
          · refine j_iload (i := 9) C dX9_take_108 0 rfl ?_
            refine j_bipush (x := 16) C dX9_take_110 (by decide) ?_
            refine j_icmp_ne (tgt := 123) C dX9_take_112 (by decide) (fun c_5 => ?_) (fun c_5 => ?_)
            · refine j_iload_n (i := 3) C dX9_take_123 rfl 6 rfl ?_
              refine j_bipush (x := 16) C dX9_take_124 (by decide) ?_
              refine j_iload (i := 5) C dX9_take_126 4 rfl ?_
              refine j_imul C dX9_take_128 ?_
              refine j_iadd C dX9_take_129 ?_
              refine j_istore (i := 10) (lv' := [(10, .int (tb + (16 * num))), (9, .int (nI i)), (8, .int more), (7, .int aW), (6, .int inT), (5, .int num), (4, .int mn), (3, .int tb), (2, .int ((g 25) q)), (0, .ref (ad 22)), (1, .int (nI q))]) C dX9_take_130 (by decide) rfl ?_
              refine j_aload_n (i := 0) C dX9_take_132 rfl 9 rfl ?_
              refine j_iload (i := 10) C dX9_take_133 0 rfl ?_
              refine j_bipush (x := 8) C dX9_take_135 (by decide) ?_
              refine c_V (As := [.int (tb + (16 * num)), .int 8]) (rest := []) (st1 := [.long (S_X9_number u1 g1 (tb + (16 * num)) 8)]) C (c_X9_number ε ad v f u1 g1 (tb + (16 * num)) 8  (by first | assumption | omega | decide) ((hI.pl c_4).le (by omega))) mv_X9_number lm_X9_90 dX9_take_137 22 wl_22 rfl rfl rfl (by decide) (Nat.le_of_ble_eq_true rfl) rfl ?_
              refine j_lstore (i := 11) (lv' := [(11, .long (S_X9_number u1 g1 (tb + (16 * num)) 8)), (10, .int (tb + (16 * num))), (9, .int (nI i)), (8, .int more), (7, .int aW), (6, .int inT), (5, .int num), (4, .int mn), (3, .int tb), (2, .int ((g 25) q)), (0, .ref (ad 22)), (1, .int (nI q))]) C dX9_take_140 (by decide) rfl ?_
              refine j_aload_n (i := 0) C dX9_take_142 rfl 10 rfl ?_
              refine j_iload (i := 10) C dX9_take_143 1 rfl ?_
              refine j_bipush (x := 8) C dX9_take_145 (by decide) ?_
              refine j_iadd C dX9_take_147 ?_
              refine j_iconst (x := 4) C dX9_take_148 (by decide) ?_
              refine c_V (As := [.int ((tb + (16 * num)) + 8), .int 4]) (rest := []) (st1 := [.long (Q_X9_take_2 u g q i tb mn num inT aW more u1 g1)]) C (c_X9_number ε ad v f u1 g1 ((tb + (16 * num)) + 8) 4  (by first | assumption | omega | decide) ((hI.pl c_4).sub 8 (by omega))) mv_X9_number lm_X9_90 dX9_take_149 22 wl_22 rfl rfl rfl (by decide) (Nat.le_of_ble_eq_true rfl) rfl ?_
              refine j_lstore (i := 13) (lv' := [(13, .long (Q_X9_take_2 u g q i tb mn num inT aW more u1 g1)), (11, .long (S_X9_number u1 g1 (tb + (16 * num)) 8)), (10, .int (tb + (16 * num))), (9, .int (nI i)), (8, .int more), (7, .int aW), (6, .int inT), (5, .int num), (4, .int mn), (3, .int tb), (2, .int ((g 25) q)), (0, .ref (ad 22)), (1, .int (nI q))]) C dX9_take_152 (by decide) rfl ?_
              refine j_aload_n (i := 0) C dX9_take_154 rfl 11 rfl ?_
              refine j_iload (i := 10) C dX9_take_155 2 rfl ?_
              refine j_bipush (x := 12) C dX9_take_157 (by decide) ?_
              refine j_iadd C dX9_take_159 ?_
              refine j_iconst (x := 2) C dX9_take_160 (by decide) ?_
              refine c_V (As := [.int ((tb + (16 * num)) + 12), .int 2]) (rest := []) (st1 := [.long (Q_X9_take_3 u g q i tb mn num inT aW more u1 g1)]) C (c_X9_number ε ad v f u1 g1 ((tb + (16 * num)) + 12) 2  (by first | assumption | omega | decide) ((hI.pl c_4).sub 12 (by omega))) mv_X9_number lm_X9_90 dX9_take_161 22 wl_22 rfl rfl rfl (by decide) (Nat.le_of_ble_eq_true rfl) rfl ?_
              refine j_l2i C dX9_take_164 ?_
              refine j_istore (i := 15) (lv' := [(15, .int (((Q_X9_take_3 u g q i tb mn num inT aW more u1 g1) : Int64).toInt32)), (13, .long (Q_X9_take_2 u g q i tb mn num inT aW more u1 g1)), (11, .long (S_X9_number u1 g1 (tb + (16 * num)) 8)), (10, .int (tb + (16 * num))), (9, .int (nI i)), (8, .int more), (7, .int aW), (6, .int inT), (5, .int num), (4, .int mn), (3, .int tb), (2, .int ((g 25) q)), (0, .ref (ad 22)), (1, .int (nI q))]) C dX9_take_165 (by decide) rfl ?_
              have jn1 : JW κ 0 0 (WD ε ad v f u1 g1) 179 [(15, .int (((Q_X9_take_3 u g q i tb mn num inT aW more u1 g1) : Int64).toInt32)), (13, .long (Q_X9_take_2 u g q i tb mn num inT aW more u1 g1)), (11, .long (S_X9_number u1 g1 (tb + (16 * num)) 8)), (10, .int (tb + (16 * num))), (9, .int (nI i)), (8, .int more), (7, .int aW), (6, .int inT), (5, .int num), (4, .int mn), (3, .int tb), (2, .int ((g 25) q)), (0, .ref (ad 22)), (1, .int (nI q))] [.int (Q_X9_take_4 u g q i tb mn num inT aW more u1 g1)] := by
                refine j_istore (i := 16) (lv' := [(16, .int (Q_X9_take_4 u g q i tb mn num inT aW more u1 g1)), (15, .int (((Q_X9_take_3 u g q i tb mn num inT aW more u1 g1) : Int64).toInt32)), (13, .long (Q_X9_take_2 u g q i tb mn num inT aW more u1 g1)), (11, .long (S_X9_number u1 g1 (tb + (16 * num)) 8)), (10, .int (tb + (16 * num))), (9, .int (nI i)), (8, .int more), (7, .int aW), (6, .int inT), (5, .int num), (4, .int mn), (3, .int tb), (2, .int ((g 25) q)), (0, .ref (ad 22)), (1, .int (nI q))]) C dX9_take_179 (by decide) rfl ?_
                have jn2 : JW κ 0 0 (WD ε ad v f u1 g1) 193 [(16, .int (Q_X9_take_4 u g q i tb mn num inT aW more u1 g1)), (15, .int (((Q_X9_take_3 u g q i tb mn num inT aW more u1 g1) : Int64).toInt32)), (13, .long (Q_X9_take_2 u g q i tb mn num inT aW more u1 g1)), (11, .long (S_X9_number u1 g1 (tb + (16 * num)) 8)), (10, .int (tb + (16 * num))), (9, .int (nI i)), (8, .int more), (7, .int aW), (6, .int inT), (5, .int num), (4, .int mn), (3, .int tb), (2, .int ((g 25) q)), (0, .ref (ad 22)), (1, .int (nI q))] [.int (Q_X9_take_5 u g q i tb mn num inT aW more u1 g1)] := by
                  refine j_istore (i := 17) (lv' := [(17, .int (Q_X9_take_5 u g q i tb mn num inT aW more u1 g1)), (16, .int (Q_X9_take_4 u g q i tb mn num inT aW more u1 g1)), (15, .int (((Q_X9_take_3 u g q i tb mn num inT aW more u1 g1) : Int64).toInt32)), (13, .long (Q_X9_take_2 u g q i tb mn num inT aW more u1 g1)), (11, .long (S_X9_number u1 g1 (tb + (16 * num)) 8)), (10, .int (tb + (16 * num))), (9, .int (nI i)), (8, .int more), (7, .int aW), (6, .int inT), (5, .int num), (4, .int mn), (3, .int tb), (2, .int ((g 25) q)), (0, .ref (ad 22)), (1, .int (nI q))]) C dX9_take_193 (by decide) rfl ?_
                  have jn3 : JW κ 0 0 (WD ε ad v f u1 g1) 207 [(17, .int (Q_X9_take_5 u g q i tb mn num inT aW more u1 g1)), (16, .int (Q_X9_take_4 u g q i tb mn num inT aW more u1 g1)), (15, .int (((Q_X9_take_3 u g q i tb mn num inT aW more u1 g1) : Int64).toInt32)), (13, .long (Q_X9_take_2 u g q i tb mn num inT aW more u1 g1)), (11, .long (S_X9_number u1 g1 (tb + (16 * num)) 8)), (10, .int (tb + (16 * num))), (9, .int (nI i)), (8, .int more), (7, .int aW), (6, .int inT), (5, .int num), (4, .int mn), (3, .int tb), (2, .int ((g 25) q)), (0, .ref (ad 22)), (1, .int (nI q))] [.int (Q_X9_take_6 u g q i tb mn num inT aW more u1 g1)] := by
                    refine j_istore (i := 18) (lv' := [(18, .int (Q_X9_take_6 u g q i tb mn num inT aW more u1 g1)), (17, .int (Q_X9_take_5 u g q i tb mn num inT aW more u1 g1)), (16, .int (Q_X9_take_4 u g q i tb mn num inT aW more u1 g1)), (15, .int (((Q_X9_take_3 u g q i tb mn num inT aW more u1 g1) : Int64).toInt32)), (13, .long (Q_X9_take_2 u g q i tb mn num inT aW more u1 g1)), (11, .long (S_X9_number u1 g1 (tb + (16 * num)) 8)), (10, .int (tb + (16 * num))), (9, .int (nI i)), (8, .int more), (7, .int aW), (6, .int inT), (5, .int num), (4, .int mn), (3, .int tb), (2, .int ((g 25) q)), (0, .ref (ad 22)), (1, .int (nI q))]) C dX9_take_207 (by decide) rfl ?_
                    have jn4 : JW κ 0 0 (WD ε ad v f u1 g1) 240 [(18, .int (Q_X9_take_6 u g q i tb mn num inT aW more u1 g1)), (17, .int (Q_X9_take_5 u g q i tb mn num inT aW more u1 g1)), (16, .int (Q_X9_take_4 u g q i tb mn num inT aW more u1 g1)), (15, .int (((Q_X9_take_3 u g q i tb mn num inT aW more u1 g1) : Int64).toInt32)), (13, .long (Q_X9_take_2 u g q i tb mn num inT aW more u1 g1)), (11, .long (S_X9_number u1 g1 (tb + (16 * num)) 8)), (10, .int (tb + (16 * num))), (9, .int (nI i)), (8, .int more), (7, .int aW), (6, .int inT), (5, .int num), (4, .int mn), (3, .int tb), (2, .int ((g 25) q)), (0, .ref (ad 22)), (1, .int (nI q))] [.int (Q_X9_take_7 u g q i tb mn num inT aW more u1 g1)] := by
                      refine j_istore (i := 19) (lv' := [(19, .int (Q_X9_take_7 u g q i tb mn num inT aW more u1 g1)), (18, .int (Q_X9_take_6 u g q i tb mn num inT aW more u1 g1)), (17, .int (Q_X9_take_5 u g q i tb mn num inT aW more u1 g1)), (16, .int (Q_X9_take_4 u g q i tb mn num inT aW more u1 g1)), (15, .int (((Q_X9_take_3 u g q i tb mn num inT aW more u1 g1) : Int64).toInt32)), (13, .long (Q_X9_take_2 u g q i tb mn num inT aW more u1 g1)), (11, .long (S_X9_number u1 g1 (tb + (16 * num)) 8)), (10, .int (tb + (16 * num))), (9, .int (nI i)), (8, .int more), (7, .int aW), (6, .int inT), (5, .int num), (4, .int mn), (3, .int tb), (2, .int ((g 25) q)), (0, .ref (ad 22)), (1, .int (nI q))]) C dX9_take_240 (by decide) rfl ?_
                      have jn5 : JW κ 0 0 (WD ε ad v f u1 g1) 296 [(19, .int (Q_X9_take_7 u g q i tb mn num inT aW more u1 g1)), (18, .int (Q_X9_take_6 u g q i tb mn num inT aW more u1 g1)), (17, .int (Q_X9_take_5 u g q i tb mn num inT aW more u1 g1)), (16, .int (Q_X9_take_4 u g q i tb mn num inT aW more u1 g1)), (15, .int (((Q_X9_take_3 u g q i tb mn num inT aW more u1 g1) : Int64).toInt32)), (13, .long (Q_X9_take_2 u g q i tb mn num inT aW more u1 g1)), (11, .long (S_X9_number u1 g1 (tb + (16 * num)) 8)), (10, .int (tb + (16 * num))), (9, .int (nI i)), (8, .int more), (7, .int aW), (6, .int inT), (5, .int num), (4, .int mn), (3, .int tb), (2, .int ((g 25) q)), (0, .ref (ad 22)), (1, .int (nI q))] [.int (Q_X9_take_8 u g q i tb mn num inT aW more u1 g1)] := by
                        refine j_istore (i := 20) (lv' := [(20, .int (Q_X9_take_8 u g q i tb mn num inT aW more u1 g1)), (19, .int (Q_X9_take_7 u g q i tb mn num inT aW more u1 g1)), (18, .int (Q_X9_take_6 u g q i tb mn num inT aW more u1 g1)), (17, .int (Q_X9_take_5 u g q i tb mn num inT aW more u1 g1)), (16, .int (Q_X9_take_4 u g q i tb mn num inT aW more u1 g1)), (15, .int (((Q_X9_take_3 u g q i tb mn num inT aW more u1 g1) : Int64).toInt32)), (13, .long (Q_X9_take_2 u g q i tb mn num inT aW more u1 g1)), (11, .long (S_X9_number u1 g1 (tb + (16 * num)) 8)), (10, .int (tb + (16 * num))), (9, .int (nI i)), (8, .int more), (7, .int aW), (6, .int inT), (5, .int num), (4, .int mn), (3, .int tb), (2, .int ((g 25) q)), (0, .ref (ad 22)), (1, .int (nI q))]) C dX9_take_296 (by decide) rfl ?_
                        refine j_iload (i := 20) C dX9_take_298 0 rfl ?_
                        refine j_if_ne (tgt := 323) C dX9_take_300 (by decide) (fun c_6 => ?_) (fun c_6 => ?_)
                        · refine j_aload_n (i := 0) C dX9_take_323 rfl 17 rfl ?_
                          refine j_iconst (x := 1) C dX9_take_324 (by decide) ?_
                          refine p_22_bad C dX9_take_325 lf_X9_110 (Or.inr rfl) ?_
                          refine j_goto (tgt := 407) C dX9_take_328 (by decide) ?_
                          refine j_goto (tgt := 89) C dX9_take_407 (by decide) ?_
                          refine j_lv (lv' := [(9, .int (nI i)), (8, .int more), (7, .int aW), (6, .int inT), (5, .int num), (4, .int mn), (3, .int tb), (2, .int ((g 25) q)), (0, .ref (ad 22)), (1, .int (nI q))]) [9, 10, 11, 12, 13, 14, 15, 16, 17, 18] rfl ?_
                          exact ih1 i tb mn num inT aW more (upd u1 8 1) g1 hI.bad (tkm_bad hI.1 c_1 c_3 hm1) (by rw [← hS1, L_X9_take]; rw [if_neg c_1, if_pos c_3, if_neg c_4, if_neg c_5, if_neg c_6])
                        · refine j_iload (i := 19) C dX9_take_303 1 rfl ?_
                          refine j_if_eq (tgt := 323) C dX9_take_305 (by decide) (fun c_7 => ?_) (fun c_7 => ?_)
                          · refine j_aload_n (i := 0) C dX9_take_323 rfl 17 rfl ?_
                            refine j_iconst (x := 1) C dX9_take_324 (by decide) ?_
                            refine p_22_bad C dX9_take_325 lf_X9_110 (Or.inr rfl) ?_
                            refine j_goto (tgt := 407) C dX9_take_328 (by decide) ?_
                            refine j_goto (tgt := 89) C dX9_take_407 (by decide) ?_
                            refine j_lv (lv' := [(9, .int (nI i)), (8, .int more), (7, .int aW), (6, .int inT), (5, .int num), (4, .int mn), (3, .int tb), (2, .int ((g 25) q)), (0, .ref (ad 22)), (1, .int (nI q))]) [9, 10, 11, 12, 13, 14, 15, 16, 17, 18] rfl ?_
                            exact ih1 i tb mn num inT aW more (upd u1 8 1) g1 hI.bad (tkm_bad hI.1 c_1 c_3 hm1) (by rw [← hS1, L_X9_take]; rw [if_neg c_1, if_pos c_3, if_neg c_4, if_neg c_5, if_pos c_6, if_pos c_7])
                          · refine j_iload (i := 17) C dX9_take_308 3 rfl ?_
                            refine j_if_ne (tgt := 331) C dX9_take_310 (by decide) (fun c_8 => ?_) (fun c_8 => ?_)
                            · refine j_iload (i := 16) C dX9_take_331 4 rfl ?_
                              refine j_if_eq (tgt := 358) C dX9_take_333 (by decide) (fun c_9 => ?_) (fun c_9 => ?_)
                              · refine j_iinc (y := (nI (i + 1))) (lv' := [(9, .int (nI (i + 1))), (20, .int (Q_X9_take_8 u g q i tb mn num inT aW more u1 g1)), (19, .int (Q_X9_take_7 u g q i tb mn num inT aW more u1 g1)), (18, .int (Q_X9_take_6 u g q i tb mn num inT aW more u1 g1)), (17, .int (Q_X9_take_5 u g q i tb mn num inT aW more u1 g1)), (16, .int (Q_X9_take_4 u g q i tb mn num inT aW more u1 g1)), (15, .int (((Q_X9_take_3 u g q i tb mn num inT aW more u1 g1) : Int64).toInt32)), (13, .long (Q_X9_take_2 u g q i tb mn num inT aW more u1 g1)), (11, .long (S_X9_number u1 g1 (tb + (16 * num)) 8)), (10, .int (tb + (16 * num))), (8, .int more), (7, .int aW), (6, .int inT), (5, .int num), (4, .int mn), (3, .int tb), (2, .int ((g 25) q)), (0, .ref (ad 22)), (1, .int (nI q))]) C dX9_take_358 9 rfl (nI_1 _) (by decide) rfl ?_
                                refine j_aload_n (i := 0) C dX9_take_361 rfl 17 rfl ?_
                                refine j_lload (i := 11) C dX9_take_362 8 rfl ?_
                                refine j_l2i C dX9_take_364 ?_
                                refine j_lload (i := 13) C dX9_take_365 7 rfl ?_
                                refine j_l2i C dX9_take_367 ?_
                                refine j_iload (i := 17) C dX9_take_368 4 rfl ?_
                                refine c_V (As := [.int (((S_X9_number u1 g1 (tb + (16 * num)) 8) : Int64).toInt32), .int (((Q_X9_take_2 u g q i tb mn num inT aW more u1 g1) : Int64).toInt32), .int (Q_X9_take_5 u g q i tb mn num inT aW more u1 g1)]) (rest := []) (st1 := []) (ω1 := (WD ε ad v f (Q_X9_take_9 u g q i tb mn num inT aW more u1 g1) (Q_X9_take_10 u g q i tb mn num inT aW more u1 g1))) C (c_X9_keep ε ad v f u1 g1 (((S_X9_number u1 g1 (tb + (16 * num)) 8) : Int64).toInt32) (((Q_X9_take_2 u g q i tb mn num inT aW more u1 g1) : Int64).toInt32) (Q_X9_take_5 u g q i tb mn num inT aW more u1 g1)  hI.r hI.w) mv_X9_keep lm_X9_119 dX9_take_370 22 wl_22 rfl rfl rfl (by decide) (Nat.le_of_ble_eq_true rfl) rfl ?_
                                have jn6 : JW κ 0 0 (WD ε ad v f (Q_X9_take_9 u g q i tb mn num inT aW more u1 g1) (Q_X9_take_10 u g q i tb mn num inT aW more u1 g1)) 388 [(9, .int (nI (i + 1))), (20, .int (Q_X9_take_8 u g q i tb mn num inT aW more u1 g1)), (19, .int (Q_X9_take_7 u g q i tb mn num inT aW more u1 g1)), (18, .int (Q_X9_take_6 u g q i tb mn num inT aW more u1 g1)), (17, .int (Q_X9_take_5 u g q i tb mn num inT aW more u1 g1)), (16, .int (Q_X9_take_4 u g q i tb mn num inT aW more u1 g1)), (15, .int (((Q_X9_take_3 u g q i tb mn num inT aW more u1 g1) : Int64).toInt32)), (13, .long (Q_X9_take_2 u g q i tb mn num inT aW more u1 g1)), (11, .long (S_X9_number u1 g1 (tb + (16 * num)) 8)), (10, .int (tb + (16 * num))), (8, .int more), (7, .int aW), (6, .int inT), (5, .int num), (4, .int mn), (3, .int tb), (2, .int ((g 25) q)), (0, .ref (ad 22)), (1, .int (nI q))] [.int (Q_X9_take_11 u g q i tb mn num inT aW more u1 g1)] := by
                                  refine j_istore (i := 7) (lv' := [(7, .int (Q_X9_take_11 u g q i tb mn num inT aW more u1 g1)), (9, .int (nI (i + 1))), (20, .int (Q_X9_take_8 u g q i tb mn num inT aW more u1 g1)), (19, .int (Q_X9_take_7 u g q i tb mn num inT aW more u1 g1)), (18, .int (Q_X9_take_6 u g q i tb mn num inT aW more u1 g1)), (17, .int (Q_X9_take_5 u g q i tb mn num inT aW more u1 g1)), (16, .int (Q_X9_take_4 u g q i tb mn num inT aW more u1 g1)), (15, .int (((Q_X9_take_3 u g q i tb mn num inT aW more u1 g1) : Int64).toInt32)), (13, .long (Q_X9_take_2 u g q i tb mn num inT aW more u1 g1)), (11, .long (S_X9_number u1 g1 (tb + (16 * num)) 8)), (10, .int (tb + (16 * num))), (8, .int more), (6, .int inT), (5, .int num), (4, .int mn), (3, .int tb), (2, .int ((g 25) q)), (0, .ref (ad 22)), (1, .int (nI q))]) C dX9_take_388 (by decide) rfl ?_
                                  refine j_aload_n (i := 0) C dX9_take_390 rfl 17 rfl ?_
                                  refine j_iload (i := 10) C dX9_take_391 10 rfl ?_
                                  refine j_bipush (x := 14) C dX9_take_393 (by decide) ?_
                                  refine j_iadd C dX9_take_395 ?_
                                  refine j_iconst (x := 2) C dX9_take_396 (by decide) ?_
                                  refine c_V (As := [.int ((tb + (16 * num)) + 14), .int 2]) (rest := []) (st1 := [.long (Q_X9_take_12 u g q i tb mn num inT aW more u1 g1)]) C (c_X9_number ε ad v f (Q_X9_take_9 u g q i tb mn num inT aW more u1 g1) (Q_X9_take_10 u g q i tb mn num inT aW more u1 g1) ((tb + (16 * num)) + 14) 2  (by first | assumption | omega | decide) ((hI.pl c_4).sub 14 (by omega))) mv_X9_number lm_X9_90 dX9_take_397 22 wl_22 rfl rfl rfl (by decide) (Nat.le_of_ble_eq_true rfl) rfl ?_
                                  refine j_l2i C dX9_take_400 ?_
                                  refine j_istore (i := 5) (lv' := [(5, .int (((Q_X9_take_12 u g q i tb mn num inT aW more u1 g1) : Int64).toInt32)), (7, .int (Q_X9_take_11 u g q i tb mn num inT aW more u1 g1)), (9, .int (nI (i + 1))), (20, .int (Q_X9_take_8 u g q i tb mn num inT aW more u1 g1)), (19, .int (Q_X9_take_7 u g q i tb mn num inT aW more u1 g1)), (18, .int (Q_X9_take_6 u g q i tb mn num inT aW more u1 g1)), (17, .int (Q_X9_take_5 u g q i tb mn num inT aW more u1 g1)), (16, .int (Q_X9_take_4 u g q i tb mn num inT aW more u1 g1)), (15, .int (((Q_X9_take_3 u g q i tb mn num inT aW more u1 g1) : Int64).toInt32)), (13, .long (Q_X9_take_2 u g q i tb mn num inT aW more u1 g1)), (11, .long (S_X9_number u1 g1 (tb + (16 * num)) 8)), (10, .int (tb + (16 * num))), (8, .int more), (6, .int inT), (4, .int mn), (3, .int tb), (2, .int ((g 25) q)), (0, .ref (ad 22)), (1, .int (nI q))]) C dX9_take_401 (by decide) rfl ?_
                                  refine j_iload (i := 18) C dX9_take_403 5 rfl ?_
                                  refine j_istore (i := 8) (lv' := [(8, .int (Q_X9_take_6 u g q i tb mn num inT aW more u1 g1)), (5, .int (((Q_X9_take_12 u g q i tb mn num inT aW more u1 g1) : Int64).toInt32)), (7, .int (Q_X9_take_11 u g q i tb mn num inT aW more u1 g1)), (9, .int (nI (i + 1))), (20, .int (Q_X9_take_8 u g q i tb mn num inT aW more u1 g1)), (19, .int (Q_X9_take_7 u g q i tb mn num inT aW more u1 g1)), (18, .int (Q_X9_take_6 u g q i tb mn num inT aW more u1 g1)), (17, .int (Q_X9_take_5 u g q i tb mn num inT aW more u1 g1)), (16, .int (Q_X9_take_4 u g q i tb mn num inT aW more u1 g1)), (15, .int (((Q_X9_take_3 u g q i tb mn num inT aW more u1 g1) : Int64).toInt32)), (13, .long (Q_X9_take_2 u g q i tb mn num inT aW more u1 g1)), (11, .long (S_X9_number u1 g1 (tb + (16 * num)) 8)), (10, .int (tb + (16 * num))), (6, .int inT), (4, .int mn), (3, .int tb), (2, .int ((g 25) q)), (0, .ref (ad 22)), (1, .int (nI q))]) C dX9_take_405 (by decide) rfl ?_
                                  refine j_goto (tgt := 89) C dX9_take_407 (by decide) ?_
                                  refine j_lv (lv' := [(9, .int (nI (i + 1))), (8, .int (Q_X9_take_6 u g q i tb mn num inT aW more u1 g1)), (7, .int (Q_X9_take_11 u g q i tb mn num inT aW more u1 g1)), (6, .int inT), (5, .int (((Q_X9_take_12 u g q i tb mn num inT aW more u1 g1) : Int64).toInt32)), (4, .int mn), (3, .int tb), (2, .int ((g 25) q)), (0, .ref (ad 22)), (1, .int (nI q))]) [3, 0, 2, 13, 1, 14, 15, 16, 17, 18] rfl ?_
                                  exact ih1 (i + 1) tb mn (((Q_X9_take_12 u g q i tb mn num inT aW more u1 g1) : Int64).toInt32) inT (Q_X9_take_11 u g q i tb mn num inT aW more u1 g1) (Q_X9_take_6 u g q i tb mn num inT aW more u1 g1) (Q_X9_take_9 u g q i tb mn num inT aW more u1 g1) (Q_X9_take_10 u g q i tb mn num inT aW more u1 g1) (tk_k hI c_4 c_5 _) (tkm_one (tk15 hI c_5) c_1 c_3 hm1) (by rw [← hS1, L_X9_take]; rw [if_neg c_1, if_pos c_3, if_neg c_4, if_neg c_5, if_pos c_6, if_neg c_7, if_neg c_8, if_pos c_9])
                                refine j_iload (i := 7) C dX9_take_373 11 rfl ?_
                                refine j_if_ne (tgt := 383) C dX9_take_375 (by decide) (fun c_10 => ?_) (fun c_10 => ?_)
                                · refine j_iconst (x := 1) C dX9_take_383 (by decide) ?_
                                  refine j_goto (tgt := 388) C dX9_take_384 (by decide) ?_
                                  have e6 : (Q_X9_take_11 u g q i tb mn num inT aW more u1 g1) = 1 := by unfold Q_X9_take_11; rw [if_neg c_10]
                                  rw [e6] at jn6
                                  exact jn6
                                · refine j_iload (i := 17) C dX9_take_378 4 rfl ?_
                                  refine j_if_eq (tgt := 387) C dX9_take_380 (by decide) (fun c9 => absurd c9 c_8) (fun _ => ?_)
                                  refine j_iconst (x := 1) C dX9_take_383 (by decide) ?_
                                  refine j_goto (tgt := 388) C dX9_take_384 (by decide) ?_
                                  have e6 : (Q_X9_take_11 u g q i tb mn num inT aW more u1 g1) = 1 := by unfold Q_X9_take_11; rw [if_pos c_10]
                                  rw [e6] at jn6
                                  exact jn6
                              · refine j_iconst (x := 1) C dX9_take_336 (by decide) ?_
                                refine j_istore (i := 6) (lv' := [(6, .int 1), (20, .int (Q_X9_take_8 u g q i tb mn num inT aW more u1 g1)), (19, .int (Q_X9_take_7 u g q i tb mn num inT aW more u1 g1)), (18, .int (Q_X9_take_6 u g q i tb mn num inT aW more u1 g1)), (17, .int (Q_X9_take_5 u g q i tb mn num inT aW more u1 g1)), (16, .int (Q_X9_take_4 u g q i tb mn num inT aW more u1 g1)), (15, .int (((Q_X9_take_3 u g q i tb mn num inT aW more u1 g1) : Int64).toInt32)), (13, .long (Q_X9_take_2 u g q i tb mn num inT aW more u1 g1)), (11, .long (S_X9_number u1 g1 (tb + (16 * num)) 8)), (10, .int (tb + (16 * num))), (9, .int (nI i)), (8, .int more), (7, .int aW), (5, .int num), (4, .int mn), (3, .int tb), (2, .int ((g 25) q)), (0, .ref (ad 22)), (1, .int (nI q))]) C dX9_take_337 (by decide) rfl ?_
                                refine j_lload (i := 11) C dX9_take_339 8 rfl ?_
                                refine j_l2i C dX9_take_341 ?_
                                refine j_istore_n (i := 3) (lv' := [(3, .int (((S_X9_number u1 g1 (tb + (16 * num)) 8) : Int64).toInt32)), (6, .int 1), (20, .int (Q_X9_take_8 u g q i tb mn num inT aW more u1 g1)), (19, .int (Q_X9_take_7 u g q i tb mn num inT aW more u1 g1)), (18, .int (Q_X9_take_6 u g q i tb mn num inT aW more u1 g1)), (17, .int (Q_X9_take_5 u g q i tb mn num inT aW more u1 g1)), (16, .int (Q_X9_take_4 u g q i tb mn num inT aW more u1 g1)), (15, .int (((Q_X9_take_3 u g q i tb mn num inT aW more u1 g1) : Int64).toInt32)), (13, .long (Q_X9_take_2 u g q i tb mn num inT aW more u1 g1)), (11, .long (S_X9_number u1 g1 (tb + (16 * num)) 8)), (10, .int (tb + (16 * num))), (9, .int (nI i)), (8, .int more), (7, .int aW), (5, .int num), (4, .int mn), (2, .int ((g 25) q)), (0, .ref (ad 22)), (1, .int (nI q))]) C dX9_take_342 rfl (by decide) rfl ?_
                                refine j_lload (i := 13) C dX9_take_343 8 rfl ?_
                                refine j_ldc2 C dX9_take_345 ll_X9_115 ?_
                                refine j_ldiv C dX9_take_348 (by decide) ?_
                                refine j_l2i C dX9_take_349 ?_
                                refine j_istore (i := 4) (lv' := [(4, .int ((((Q_X9_take_2 u g q i tb mn num inT aW more u1 g1) / 16) : Int64).toInt32)), (3, .int (((S_X9_number u1 g1 (tb + (16 * num)) 8) : Int64).toInt32)), (6, .int 1), (20, .int (Q_X9_take_8 u g q i tb mn num inT aW more u1 g1)), (19, .int (Q_X9_take_7 u g q i tb mn num inT aW more u1 g1)), (18, .int (Q_X9_take_6 u g q i tb mn num inT aW more u1 g1)), (17, .int (Q_X9_take_5 u g q i tb mn num inT aW more u1 g1)), (16, .int (Q_X9_take_4 u g q i tb mn num inT aW more u1 g1)), (15, .int (((Q_X9_take_3 u g q i tb mn num inT aW more u1 g1) : Int64).toInt32)), (13, .long (Q_X9_take_2 u g q i tb mn num inT aW more u1 g1)), (11, .long (S_X9_number u1 g1 (tb + (16 * num)) 8)), (10, .int (tb + (16 * num))), (9, .int (nI i)), (8, .int more), (7, .int aW), (5, .int num), (2, .int ((g 25) q)), (0, .ref (ad 22)), (1, .int (nI q))]) C dX9_take_350 (by decide) rfl ?_
                                refine j_iconst (x := 0) C dX9_take_352 (by decide) ?_
                                refine j_istore (i := 5) (lv' := [(5, .int 0), (4, .int ((((Q_X9_take_2 u g q i tb mn num inT aW more u1 g1) / 16) : Int64).toInt32)), (3, .int (((S_X9_number u1 g1 (tb + (16 * num)) 8) : Int64).toInt32)), (6, .int 1), (20, .int (Q_X9_take_8 u g q i tb mn num inT aW more u1 g1)), (19, .int (Q_X9_take_7 u g q i tb mn num inT aW more u1 g1)), (18, .int (Q_X9_take_6 u g q i tb mn num inT aW more u1 g1)), (17, .int (Q_X9_take_5 u g q i tb mn num inT aW more u1 g1)), (16, .int (Q_X9_take_4 u g q i tb mn num inT aW more u1 g1)), (15, .int (((Q_X9_take_3 u g q i tb mn num inT aW more u1 g1) : Int64).toInt32)), (13, .long (Q_X9_take_2 u g q i tb mn num inT aW more u1 g1)), (11, .long (S_X9_number u1 g1 (tb + (16 * num)) 8)), (10, .int (tb + (16 * num))), (9, .int (nI i)), (8, .int more), (7, .int aW), (2, .int ((g 25) q)), (0, .ref (ad 22)), (1, .int (nI q))]) C dX9_take_353 (by decide) rfl ?_
                                refine j_goto (tgt := 407) C dX9_take_355 (by decide) ?_
                                refine j_goto (tgt := 89) C dX9_take_407 (by decide) ?_
                                refine j_lv (lv' := [(9, .int (nI i)), (8, .int more), (7, .int aW), (6, .int 1), (5, .int 0), (4, .int ((((Q_X9_take_2 u g q i tb mn num inT aW more u1 g1) / 16) : Int64).toInt32)), (3, .int (((S_X9_number u1 g1 (tb + (16 * num)) 8) : Int64).toInt32)), (2, .int ((g 25) q)), (0, .ref (ad 22)), (1, .int (nI q))]) [13, 14, 15, 3, 0, 1, 2, 16, 17, 18] rfl ?_
                                exact ih1 i (((S_X9_number u1 g1 (tb + (16 * num)) 8) : Int64).toInt32) ((((Q_X9_take_2 u g q i tb mn num inT aW more u1 g1) / 16) : Int64).toInt32) 0 1 aW more u1 g1 (tk_t hI c_4 c_9 c_6 c_7).2 (tkm_tab c_1 c_3 (tk_t hI c_4 c_9 c_6 c_7).1 hm1) (by rw [← hS1, L_X9_take]; rw [if_neg c_1, if_pos c_3, if_neg c_4, if_neg c_5, if_pos c_6, if_neg c_7, if_neg c_8, if_neg c_9])
                            · refine j_iload (i := 16) C dX9_take_313 4 rfl ?_
                              refine j_if_ne (tgt := 331) C dX9_take_315 (by decide) (fun c_11 => ?_) (fun c_11 => ?_)
                              · refine j_iload (i := 16) C dX9_take_331 4 rfl ?_
                                refine j_if_eq (tgt := 358) C dX9_take_333 (by decide) (fun c9 => absurd c9 c_11) (fun _ => ?_)
                                refine j_iconst (x := 1) C dX9_take_336 (by decide) ?_
                                refine j_istore (i := 6) (lv' := [(6, .int 1), (20, .int (Q_X9_take_8 u g q i tb mn num inT aW more u1 g1)), (19, .int (Q_X9_take_7 u g q i tb mn num inT aW more u1 g1)), (18, .int (Q_X9_take_6 u g q i tb mn num inT aW more u1 g1)), (17, .int (Q_X9_take_5 u g q i tb mn num inT aW more u1 g1)), (16, .int (Q_X9_take_4 u g q i tb mn num inT aW more u1 g1)), (15, .int (((Q_X9_take_3 u g q i tb mn num inT aW more u1 g1) : Int64).toInt32)), (13, .long (Q_X9_take_2 u g q i tb mn num inT aW more u1 g1)), (11, .long (S_X9_number u1 g1 (tb + (16 * num)) 8)), (10, .int (tb + (16 * num))), (9, .int (nI i)), (8, .int more), (7, .int aW), (5, .int num), (4, .int mn), (3, .int tb), (2, .int ((g 25) q)), (0, .ref (ad 22)), (1, .int (nI q))]) C dX9_take_337 (by decide) rfl ?_
                                refine j_lload (i := 11) C dX9_take_339 8 rfl ?_
                                refine j_l2i C dX9_take_341 ?_
                                refine j_istore_n (i := 3) (lv' := [(3, .int (((S_X9_number u1 g1 (tb + (16 * num)) 8) : Int64).toInt32)), (6, .int 1), (20, .int (Q_X9_take_8 u g q i tb mn num inT aW more u1 g1)), (19, .int (Q_X9_take_7 u g q i tb mn num inT aW more u1 g1)), (18, .int (Q_X9_take_6 u g q i tb mn num inT aW more u1 g1)), (17, .int (Q_X9_take_5 u g q i tb mn num inT aW more u1 g1)), (16, .int (Q_X9_take_4 u g q i tb mn num inT aW more u1 g1)), (15, .int (((Q_X9_take_3 u g q i tb mn num inT aW more u1 g1) : Int64).toInt32)), (13, .long (Q_X9_take_2 u g q i tb mn num inT aW more u1 g1)), (11, .long (S_X9_number u1 g1 (tb + (16 * num)) 8)), (10, .int (tb + (16 * num))), (9, .int (nI i)), (8, .int more), (7, .int aW), (5, .int num), (4, .int mn), (2, .int ((g 25) q)), (0, .ref (ad 22)), (1, .int (nI q))]) C dX9_take_342 rfl (by decide) rfl ?_
                                refine j_lload (i := 13) C dX9_take_343 8 rfl ?_
                                refine j_ldc2 C dX9_take_345 ll_X9_115 ?_
                                refine j_ldiv C dX9_take_348 (by decide) ?_
                                refine j_l2i C dX9_take_349 ?_
                                refine j_istore (i := 4) (lv' := [(4, .int ((((Q_X9_take_2 u g q i tb mn num inT aW more u1 g1) / 16) : Int64).toInt32)), (3, .int (((S_X9_number u1 g1 (tb + (16 * num)) 8) : Int64).toInt32)), (6, .int 1), (20, .int (Q_X9_take_8 u g q i tb mn num inT aW more u1 g1)), (19, .int (Q_X9_take_7 u g q i tb mn num inT aW more u1 g1)), (18, .int (Q_X9_take_6 u g q i tb mn num inT aW more u1 g1)), (17, .int (Q_X9_take_5 u g q i tb mn num inT aW more u1 g1)), (16, .int (Q_X9_take_4 u g q i tb mn num inT aW more u1 g1)), (15, .int (((Q_X9_take_3 u g q i tb mn num inT aW more u1 g1) : Int64).toInt32)), (13, .long (Q_X9_take_2 u g q i tb mn num inT aW more u1 g1)), (11, .long (S_X9_number u1 g1 (tb + (16 * num)) 8)), (10, .int (tb + (16 * num))), (9, .int (nI i)), (8, .int more), (7, .int aW), (5, .int num), (2, .int ((g 25) q)), (0, .ref (ad 22)), (1, .int (nI q))]) C dX9_take_350 (by decide) rfl ?_
                                refine j_iconst (x := 0) C dX9_take_352 (by decide) ?_
                                refine j_istore (i := 5) (lv' := [(5, .int 0), (4, .int ((((Q_X9_take_2 u g q i tb mn num inT aW more u1 g1) / 16) : Int64).toInt32)), (3, .int (((S_X9_number u1 g1 (tb + (16 * num)) 8) : Int64).toInt32)), (6, .int 1), (20, .int (Q_X9_take_8 u g q i tb mn num inT aW more u1 g1)), (19, .int (Q_X9_take_7 u g q i tb mn num inT aW more u1 g1)), (18, .int (Q_X9_take_6 u g q i tb mn num inT aW more u1 g1)), (17, .int (Q_X9_take_5 u g q i tb mn num inT aW more u1 g1)), (16, .int (Q_X9_take_4 u g q i tb mn num inT aW more u1 g1)), (15, .int (((Q_X9_take_3 u g q i tb mn num inT aW more u1 g1) : Int64).toInt32)), (13, .long (Q_X9_take_2 u g q i tb mn num inT aW more u1 g1)), (11, .long (S_X9_number u1 g1 (tb + (16 * num)) 8)), (10, .int (tb + (16 * num))), (9, .int (nI i)), (8, .int more), (7, .int aW), (2, .int ((g 25) q)), (0, .ref (ad 22)), (1, .int (nI q))]) C dX9_take_353 (by decide) rfl ?_
                                refine j_goto (tgt := 407) C dX9_take_355 (by decide) ?_
                                refine j_goto (tgt := 89) C dX9_take_407 (by decide) ?_
                                refine j_lv (lv' := [(9, .int (nI i)), (8, .int more), (7, .int aW), (6, .int 1), (5, .int 0), (4, .int ((((Q_X9_take_2 u g q i tb mn num inT aW more u1 g1) / 16) : Int64).toInt32)), (3, .int (((S_X9_number u1 g1 (tb + (16 * num)) 8) : Int64).toInt32)), (2, .int ((g 25) q)), (0, .ref (ad 22)), (1, .int (nI q))]) [13, 14, 15, 3, 0, 1, 2, 16, 17, 18] rfl ?_
                                exact ih1 i (((S_X9_number u1 g1 (tb + (16 * num)) 8) : Int64).toInt32) ((((Q_X9_take_2 u g q i tb mn num inT aW more u1 g1) / 16) : Int64).toInt32) 0 1 aW more u1 g1 (tk_t hI c_4 c_11 c_6 c_7).2 (tkm_tab c_1 c_3 (tk_t hI c_4 c_11 c_6 c_7).1 hm1) (by rw [← hS1, L_X9_take]; rw [if_neg c_1, if_pos c_3, if_neg c_4, if_neg c_5, if_pos c_6, if_neg c_7, if_pos c_8, if_neg c_11])
                              · refine j_iload (i := 7) C dX9_take_318 11 rfl ?_
                                refine j_if_eq (tgt := 331) C dX9_take_320 (by decide) (fun c_12 => ?_) (fun c_12 => ?_)
                                · refine j_iload (i := 16) C dX9_take_331 4 rfl ?_
                                  refine j_if_eq (tgt := 358) C dX9_take_333 (by decide) (fun _ => ?_) (fun c9 => absurd c_11 c9)
                                  refine j_iinc (y := (nI (i + 1))) (lv' := [(9, .int (nI (i + 1))), (20, .int (Q_X9_take_8 u g q i tb mn num inT aW more u1 g1)), (19, .int (Q_X9_take_7 u g q i tb mn num inT aW more u1 g1)), (18, .int (Q_X9_take_6 u g q i tb mn num inT aW more u1 g1)), (17, .int (Q_X9_take_5 u g q i tb mn num inT aW more u1 g1)), (16, .int (Q_X9_take_4 u g q i tb mn num inT aW more u1 g1)), (15, .int (((Q_X9_take_3 u g q i tb mn num inT aW more u1 g1) : Int64).toInt32)), (13, .long (Q_X9_take_2 u g q i tb mn num inT aW more u1 g1)), (11, .long (S_X9_number u1 g1 (tb + (16 * num)) 8)), (10, .int (tb + (16 * num))), (8, .int more), (7, .int aW), (6, .int inT), (5, .int num), (4, .int mn), (3, .int tb), (2, .int ((g 25) q)), (0, .ref (ad 22)), (1, .int (nI q))]) C dX9_take_358 9 rfl (nI_1 _) (by decide) rfl ?_
                                  refine j_aload_n (i := 0) C dX9_take_361 rfl 17 rfl ?_
                                  refine j_lload (i := 11) C dX9_take_362 8 rfl ?_
                                  refine j_l2i C dX9_take_364 ?_
                                  refine j_lload (i := 13) C dX9_take_365 7 rfl ?_
                                  refine j_l2i C dX9_take_367 ?_
                                  refine j_iload (i := 17) C dX9_take_368 4 rfl ?_
                                  refine c_V (As := [.int (((S_X9_number u1 g1 (tb + (16 * num)) 8) : Int64).toInt32), .int (((Q_X9_take_2 u g q i tb mn num inT aW more u1 g1) : Int64).toInt32), .int (Q_X9_take_5 u g q i tb mn num inT aW more u1 g1)]) (rest := []) (st1 := []) (ω1 := (WD ε ad v f (Q_X9_take_9 u g q i tb mn num inT aW more u1 g1) (Q_X9_take_10 u g q i tb mn num inT aW more u1 g1))) C (c_X9_keep ε ad v f u1 g1 (((S_X9_number u1 g1 (tb + (16 * num)) 8) : Int64).toInt32) (((Q_X9_take_2 u g q i tb mn num inT aW more u1 g1) : Int64).toInt32) (Q_X9_take_5 u g q i tb mn num inT aW more u1 g1)  hI.r hI.w) mv_X9_keep lm_X9_119 dX9_take_370 22 wl_22 rfl rfl rfl (by decide) (Nat.le_of_ble_eq_true rfl) rfl ?_
                                  have jn7 : JW κ 0 0 (WD ε ad v f (Q_X9_take_9 u g q i tb mn num inT aW more u1 g1) (Q_X9_take_10 u g q i tb mn num inT aW more u1 g1)) 388 [(9, .int (nI (i + 1))), (20, .int (Q_X9_take_8 u g q i tb mn num inT aW more u1 g1)), (19, .int (Q_X9_take_7 u g q i tb mn num inT aW more u1 g1)), (18, .int (Q_X9_take_6 u g q i tb mn num inT aW more u1 g1)), (17, .int (Q_X9_take_5 u g q i tb mn num inT aW more u1 g1)), (16, .int (Q_X9_take_4 u g q i tb mn num inT aW more u1 g1)), (15, .int (((Q_X9_take_3 u g q i tb mn num inT aW more u1 g1) : Int64).toInt32)), (13, .long (Q_X9_take_2 u g q i tb mn num inT aW more u1 g1)), (11, .long (S_X9_number u1 g1 (tb + (16 * num)) 8)), (10, .int (tb + (16 * num))), (8, .int more), (7, .int aW), (6, .int inT), (5, .int num), (4, .int mn), (3, .int tb), (2, .int ((g 25) q)), (0, .ref (ad 22)), (1, .int (nI q))] [.int (Q_X9_take_13 u g q i tb mn num inT aW more u1 g1)] := by
                                    refine j_istore (i := 7) (lv' := [(7, .int (Q_X9_take_13 u g q i tb mn num inT aW more u1 g1)), (9, .int (nI (i + 1))), (20, .int (Q_X9_take_8 u g q i tb mn num inT aW more u1 g1)), (19, .int (Q_X9_take_7 u g q i tb mn num inT aW more u1 g1)), (18, .int (Q_X9_take_6 u g q i tb mn num inT aW more u1 g1)), (17, .int (Q_X9_take_5 u g q i tb mn num inT aW more u1 g1)), (16, .int (Q_X9_take_4 u g q i tb mn num inT aW more u1 g1)), (15, .int (((Q_X9_take_3 u g q i tb mn num inT aW more u1 g1) : Int64).toInt32)), (13, .long (Q_X9_take_2 u g q i tb mn num inT aW more u1 g1)), (11, .long (S_X9_number u1 g1 (tb + (16 * num)) 8)), (10, .int (tb + (16 * num))), (8, .int more), (6, .int inT), (5, .int num), (4, .int mn), (3, .int tb), (2, .int ((g 25) q)), (0, .ref (ad 22)), (1, .int (nI q))]) C dX9_take_388 (by decide) rfl ?_
                                    refine j_aload_n (i := 0) C dX9_take_390 rfl 17 rfl ?_
                                    refine j_iload (i := 10) C dX9_take_391 10 rfl ?_
                                    refine j_bipush (x := 14) C dX9_take_393 (by decide) ?_
                                    refine j_iadd C dX9_take_395 ?_
                                    refine j_iconst (x := 2) C dX9_take_396 (by decide) ?_
                                    refine c_V (As := [.int ((tb + (16 * num)) + 14), .int 2]) (rest := []) (st1 := [.long (Q_X9_take_12 u g q i tb mn num inT aW more u1 g1)]) C (c_X9_number ε ad v f (Q_X9_take_9 u g q i tb mn num inT aW more u1 g1) (Q_X9_take_10 u g q i tb mn num inT aW more u1 g1) ((tb + (16 * num)) + 14) 2  (by first | assumption | omega | decide) ((hI.pl c_4).sub 14 (by omega))) mv_X9_number lm_X9_90 dX9_take_397 22 wl_22 rfl rfl rfl (by decide) (Nat.le_of_ble_eq_true rfl) rfl ?_
                                    refine j_l2i C dX9_take_400 ?_
                                    refine j_istore (i := 5) (lv' := [(5, .int (((Q_X9_take_12 u g q i tb mn num inT aW more u1 g1) : Int64).toInt32)), (7, .int (Q_X9_take_13 u g q i tb mn num inT aW more u1 g1)), (9, .int (nI (i + 1))), (20, .int (Q_X9_take_8 u g q i tb mn num inT aW more u1 g1)), (19, .int (Q_X9_take_7 u g q i tb mn num inT aW more u1 g1)), (18, .int (Q_X9_take_6 u g q i tb mn num inT aW more u1 g1)), (17, .int (Q_X9_take_5 u g q i tb mn num inT aW more u1 g1)), (16, .int (Q_X9_take_4 u g q i tb mn num inT aW more u1 g1)), (15, .int (((Q_X9_take_3 u g q i tb mn num inT aW more u1 g1) : Int64).toInt32)), (13, .long (Q_X9_take_2 u g q i tb mn num inT aW more u1 g1)), (11, .long (S_X9_number u1 g1 (tb + (16 * num)) 8)), (10, .int (tb + (16 * num))), (8, .int more), (6, .int inT), (4, .int mn), (3, .int tb), (2, .int ((g 25) q)), (0, .ref (ad 22)), (1, .int (nI q))]) C dX9_take_401 (by decide) rfl ?_
                                    refine j_iload (i := 18) C dX9_take_403 5 rfl ?_
                                    refine j_istore (i := 8) (lv' := [(8, .int (Q_X9_take_6 u g q i tb mn num inT aW more u1 g1)), (5, .int (((Q_X9_take_12 u g q i tb mn num inT aW more u1 g1) : Int64).toInt32)), (7, .int (Q_X9_take_13 u g q i tb mn num inT aW more u1 g1)), (9, .int (nI (i + 1))), (20, .int (Q_X9_take_8 u g q i tb mn num inT aW more u1 g1)), (19, .int (Q_X9_take_7 u g q i tb mn num inT aW more u1 g1)), (18, .int (Q_X9_take_6 u g q i tb mn num inT aW more u1 g1)), (17, .int (Q_X9_take_5 u g q i tb mn num inT aW more u1 g1)), (16, .int (Q_X9_take_4 u g q i tb mn num inT aW more u1 g1)), (15, .int (((Q_X9_take_3 u g q i tb mn num inT aW more u1 g1) : Int64).toInt32)), (13, .long (Q_X9_take_2 u g q i tb mn num inT aW more u1 g1)), (11, .long (S_X9_number u1 g1 (tb + (16 * num)) 8)), (10, .int (tb + (16 * num))), (6, .int inT), (4, .int mn), (3, .int tb), (2, .int ((g 25) q)), (0, .ref (ad 22)), (1, .int (nI q))]) C dX9_take_405 (by decide) rfl ?_
                                    refine j_goto (tgt := 89) C dX9_take_407 (by decide) ?_
                                    refine j_lv (lv' := [(9, .int (nI (i + 1))), (8, .int (Q_X9_take_6 u g q i tb mn num inT aW more u1 g1)), (7, .int (Q_X9_take_13 u g q i tb mn num inT aW more u1 g1)), (6, .int inT), (5, .int (((Q_X9_take_12 u g q i tb mn num inT aW more u1 g1) : Int64).toInt32)), (4, .int mn), (3, .int tb), (2, .int ((g 25) q)), (0, .ref (ad 22)), (1, .int (nI q))]) [3, 0, 2, 13, 1, 14, 15, 16, 17, 18] rfl ?_
                                    exact ih1 (i + 1) tb mn (((Q_X9_take_12 u g q i tb mn num inT aW more u1 g1) : Int64).toInt32) inT (Q_X9_take_13 u g q i tb mn num inT aW more u1 g1) (Q_X9_take_6 u g q i tb mn num inT aW more u1 g1) (Q_X9_take_9 u g q i tb mn num inT aW more u1 g1) (Q_X9_take_10 u g q i tb mn num inT aW more u1 g1) (tk_k hI c_4 c_5 _) (tkm_one (tk15 hI c_5) c_1 c_3 hm1) (by rw [← hS1, L_X9_take]; rw [if_neg c_1, if_pos c_3, if_neg c_4, if_neg c_5, if_pos c_6, if_neg c_7, if_pos c_8, if_pos c_11, if_pos c_12])
                                  refine j_iload (i := 7) C dX9_take_373 11 rfl ?_
                                  refine j_if_ne (tgt := 383) C dX9_take_375 (by decide) (fun c9 => absurd c_12 c9) (fun _ => ?_)
                                  refine j_iload (i := 17) C dX9_take_378 4 rfl ?_
                                  refine j_if_eq (tgt := 387) C dX9_take_380 (by decide) (fun _ => ?_) (fun c9 => absurd c_8 c9)
                                  refine j_iconst (x := 0) C dX9_take_387 (by decide) ?_
                                  have e6 : (Q_X9_take_13 u g q i tb mn num inT aW more u1 g1) = 0 := rfl
                                  rw [e6] at jn7
                                  exact jn7
                                · refine j_aload_n (i := 0) C dX9_take_323 rfl 17 rfl ?_
                                  refine j_iconst (x := 1) C dX9_take_324 (by decide) ?_
                                  refine p_22_bad C dX9_take_325 lf_X9_110 (Or.inr rfl) ?_
                                  refine j_goto (tgt := 407) C dX9_take_328 (by decide) ?_
                                  refine j_goto (tgt := 89) C dX9_take_407 (by decide) ?_
                                  refine j_lv (lv' := [(9, .int (nI i)), (8, .int more), (7, .int aW), (6, .int inT), (5, .int num), (4, .int mn), (3, .int tb), (2, .int ((g 25) q)), (0, .ref (ad 22)), (1, .int (nI q))]) [9, 10, 11, 12, 13, 14, 15, 16, 17, 18] rfl ?_
                                  exact ih1 i tb mn num inT aW more (upd u1 8 1) g1 hI.bad (tkm_bad hI.1 c_1 c_3 hm1) (by rw [← hS1, L_X9_take]; rw [if_neg c_1, if_pos c_3, if_neg c_4, if_neg c_5, if_pos c_6, if_neg c_7, if_pos c_8, if_pos c_11, if_neg c_12])
                      refine j_iload (i := 16) C dX9_take_242 3 rfl ?_
                      refine j_if_eq (tgt := 295) C dX9_take_244 (by decide) (fun c_13 => ?_) (fun c_13 => ?_)
                      · refine j_iconst (x := 0) C dX9_take_295 (by decide) ?_
                        have e6 : (Q_X9_take_8 u g q i tb mn num inT aW more u1 g1) = 0 := by unfold Q_X9_take_8; rw [if_pos c_13]
                        rw [e6] at jn5
                        exact jn5
                      · refine j_aload_n (i := 0) C dX9_take_247 rfl 16 rfl ?_
                        refine g_22_tables (x := (u1 1)) C dX9_take_248 lf_X9_79 rfl ?_
                        refine j_if_eq (tgt := 291) C dX9_take_251 (by decide) (fun c_14 => ?_) (fun c_14 => ?_)
                        · refine j_iconst (x := 1) C dX9_take_291 (by decide) ?_
                          refine j_goto (tgt := 296) C dX9_take_292 (by decide) ?_
                          have e6 : (Q_X9_take_8 u g q i tb mn num inT aW more u1 g1) = 1 := by unfold Q_X9_take_8; rw [if_neg c_13, if_pos c_14]
                          rw [e6] at jn5
                          exact jn5
                        · refine j_iload (i := 18) C dX9_take_254 1 rfl ?_
                          refine j_if_ne (tgt := 291) C dX9_take_256 (by decide) (fun c_15 => ?_) (fun c_15 => ?_)
                          · refine j_iconst (x := 1) C dX9_take_291 (by decide) ?_
                            refine j_goto (tgt := 296) C dX9_take_292 (by decide) ?_
                            have e6 : (Q_X9_take_8 u g q i tb mn num inT aW more u1 g1) = 1 := by unfold Q_X9_take_8; rw [if_neg c_13, if_neg c_14, if_neg c_15]
                            rw [e6] at jn5
                            exact jn5
                          · refine j_iload (i := 6) C dX9_take_259 11 rfl ?_
                            refine j_if_ne (tgt := 291) C dX9_take_261 (by decide) (fun c_16 => ?_) (fun c_16 => ?_)
                            · refine j_iconst (x := 1) C dX9_take_291 (by decide) ?_
                              refine j_goto (tgt := 296) C dX9_take_292 (by decide) ?_
                              have e6 : (Q_X9_take_8 u g q i tb mn num inT aW more u1 g1) = 1 := by unfold Q_X9_take_8; rw [if_neg c_13, if_neg c_14, if_pos c_15, if_neg c_16]
                              rw [e6] at jn5
                              exact jn5
                            · refine j_lload (i := 13) C dX9_take_264 5 rfl ?_
                              refine j_lconst (x := 0) C dX9_take_266 (by decide) ?_
                              refine j_lcmp C dX9_take_267 ?_
                              refine j_if_eq (tgt := 291) C dX9_take_268 (by decide) (fun c_17 => ?_) (fun c_17 => ?_)
                              · refine j_iconst (x := 1) C dX9_take_291 (by decide) ?_
                                refine j_goto (tgt := 296) C dX9_take_292 (by decide) ?_
                                have e6 : (Q_X9_take_8 u g q i tb mn num inT aW more u1 g1) = 1 := by unfold Q_X9_take_8; rw [if_neg c_13, if_neg c_14, if_pos c_15, if_pos c_16, if_pos c_17]
                                rw [e6] at jn5
                                exact jn5
                              · refine j_lload (i := 13) C dX9_take_271 5 rfl ?_
                                refine j_ldc2 C dX9_take_273 ll_X9_115 ?_
                                refine j_lrem C dX9_take_276 (by decide) ?_
                                refine j_lconst (x := 0) C dX9_take_277 (by decide) ?_
                                refine j_lcmp C dX9_take_278 ?_
                                refine j_if_ne (tgt := 291) C dX9_take_279 (by decide) (fun c_18 => ?_) (fun c_18 => ?_)
                                · refine j_iconst (x := 1) C dX9_take_291 (by decide) ?_
                                  refine j_goto (tgt := 296) C dX9_take_292 (by decide) ?_
                                  have e6 : (Q_X9_take_8 u g q i tb mn num inT aW more u1 g1) = 1 := by unfold Q_X9_take_8; rw [if_neg c_13, if_neg c_14, if_pos c_15, if_pos c_16, if_neg c_17, if_neg c_18]
                                  rw [e6] at jn5
                                  exact jn5
                                · refine j_lload (i := 13) C dX9_take_282 5 rfl ?_
                                  refine j_ldc2 C dX9_take_284 ll_X9_117 ?_
                                  refine j_lcmp C dX9_take_287 ?_
                                  refine j_if_le (tgt := 295) C dX9_take_288 (by decide) (fun c_19 => ?_) (fun c_19 => ?_)
                                  · refine j_iconst (x := 0) C dX9_take_295 (by decide) ?_
                                    have e6 : (Q_X9_take_8 u g q i tb mn num inT aW more u1 g1) = 0 := by unfold Q_X9_take_8; rw [if_neg c_13, if_neg c_14, if_pos c_15, if_pos c_16, if_neg c_17, if_pos c_18, if_pos c_19]
                                    rw [e6] at jn5
                                    exact jn5
                                  · refine j_iconst (x := 1) C dX9_take_291 (by decide) ?_
                                    refine j_goto (tgt := 296) C dX9_take_292 (by decide) ?_
                                    have e6 : (Q_X9_take_8 u g q i tb mn num inT aW more u1 g1) = 1 := by unfold Q_X9_take_8; rw [if_neg c_13, if_neg c_14, if_pos c_15, if_pos c_16, if_neg c_17, if_pos c_18, if_neg c_19]
                                    rw [e6] at jn5
                                    exact jn5
                    refine j_lload (i := 13) C dX9_take_209 4 rfl ?_
                    refine j_lconst (x := 0) C dX9_take_211 (by decide) ?_
                    refine j_lcmp C dX9_take_212 ?_
                    refine j_if_eq (tgt := 235) C dX9_take_213 (by decide) (fun c_20 => ?_) (fun c_20 => ?_)
                    · refine j_iconst (x := 1) C dX9_take_235 (by decide) ?_
                      refine j_goto (tgt := 240) C dX9_take_236 (by decide) ?_
                      have e6 : (Q_X9_take_7 u g q i tb mn num inT aW more u1 g1) = 1 := by unfold Q_X9_take_7; rw [if_pos c_20]
                      rw [e6] at jn4
                      exact jn4
                    · refine j_lload (i := 11) C dX9_take_216 5 rfl ?_
                      refine j_lconst (x := 0) C dX9_take_218 (by decide) ?_
                      refine j_lcmp C dX9_take_219 ?_
                      refine j_if_lt (tgt := 239) C dX9_take_220 (by decide) (fun c_21 => ?_) (fun c_21 => ?_)
                      · refine j_iconst (x := 0) C dX9_take_239 (by decide) ?_
                        have e6 : (Q_X9_take_7 u g q i tb mn num inT aW more u1 g1) = 0 := by unfold Q_X9_take_7; rw [if_neg c_20, if_pos c_21]
                        rw [e6] at jn4
                        exact jn4
                      · refine j_lload (i := 11) C dX9_take_223 5 rfl ?_
                        refine j_ldc2 C dX9_take_225 ll_X9_113 ?_
                        refine j_lload (i := 13) C dX9_take_228 4 rfl ?_
                        refine j_lsub C dX9_take_230 ?_
                        refine j_lcmp C dX9_take_231 ?_
                        refine j_if_gt (tgt := 239) C dX9_take_232 (by decide) (fun c_22 => ?_) (fun c_22 => ?_)
                        · refine j_iconst (x := 0) C dX9_take_239 (by decide) ?_
                          have e6 : (Q_X9_take_7 u g q i tb mn num inT aW more u1 g1) = 0 := by unfold Q_X9_take_7; rw [if_neg c_20, if_neg c_21, if_pos c_22]
                          rw [e6] at jn4
                          exact jn4
                        · refine j_iconst (x := 1) C dX9_take_235 (by decide) ?_
                          refine j_goto (tgt := 240) C dX9_take_236 (by decide) ?_
                          have e6 : (Q_X9_take_7 u g q i tb mn num inT aW more u1 g1) = 1 := by unfold Q_X9_take_7; rw [if_neg c_20, if_neg c_21, if_neg c_22]
                          rw [e6] at jn4
                          exact jn4
                  refine j_iload (i := 15) C dX9_take_195 2 rfl ?_
                  refine j_iconst (x := 1) C dX9_take_197 (by decide) ?_
                  refine j_iand C dX9_take_198 ?_
                  refine j_if_eq (tgt := 206) C dX9_take_199 (by decide) (fun c_23 => ?_) (fun c_23 => ?_)
                  · refine j_iconst (x := 0) C dX9_take_206 (by decide) ?_
                    have e6 : (Q_X9_take_6 u g q i tb mn num inT aW more u1 g1) = 0 := by unfold Q_X9_take_6; rw [if_pos c_23]
                    rw [e6] at jn3
                    exact jn3
                  · refine j_iconst (x := 1) C dX9_take_202 (by decide) ?_
                    refine j_goto (tgt := 207) C dX9_take_203 (by decide) ?_
                    have e6 : (Q_X9_take_6 u g q i tb mn num inT aW more u1 g1) = 1 := by unfold Q_X9_take_6; rw [if_neg c_23]
                    rw [e6] at jn3
                    exact jn3
                refine j_iload (i := 15) C dX9_take_181 1 rfl ?_
                refine j_iconst (x := 2) C dX9_take_183 (by decide) ?_
                refine j_iand C dX9_take_184 ?_
                refine j_if_eq (tgt := 192) C dX9_take_185 (by decide) (fun c_24 => ?_) (fun c_24 => ?_)
                · refine j_iconst (x := 0) C dX9_take_192 (by decide) ?_
                  have e6 : (Q_X9_take_5 u g q i tb mn num inT aW more u1 g1) = 0 := by unfold Q_X9_take_5; rw [if_pos c_24]
                  rw [e6] at jn2
                  exact jn2
                · refine j_iconst (x := 1) C dX9_take_188 (by decide) ?_
                  refine j_goto (tgt := 193) C dX9_take_189 (by decide) ?_
                  have e6 : (Q_X9_take_5 u g q i tb mn num inT aW more u1 g1) = 1 := by unfold Q_X9_take_5; rw [if_neg c_24]
                  rw [e6] at jn2
                  exact jn2
              refine j_iload (i := 15) C dX9_take_167 0 rfl ?_
              refine j_iconst (x := 4) C dX9_take_169 (by decide) ?_
              refine j_iand C dX9_take_170 ?_
              refine j_if_eq (tgt := 178) C dX9_take_171 (by decide) (fun c_25 => ?_) (fun c_25 => ?_)
              · refine j_iconst (x := 0) C dX9_take_178 (by decide) ?_
                have e6 : (Q_X9_take_4 u g q i tb mn num inT aW more u1 g1) = 0 := by unfold Q_X9_take_4; rw [if_pos c_25]
                rw [e6] at jn1
                exact jn1
              · refine j_iconst (x := 1) C dX9_take_174 (by decide) ?_
                refine j_goto (tgt := 179) C dX9_take_175 (by decide) ?_
                have e6 : (Q_X9_take_4 u g q i tb mn num inT aW more u1 g1) = 1 := by unfold Q_X9_take_4; rw [if_neg c_25]
                rw [e6] at jn1
                exact jn1
            · refine j_aload_n (i := 0) C dX9_take_115 rfl 8 rfl ?_
              refine j_iconst (x := 1) C dX9_take_116 (by decide) ?_
              refine p_22_bad C dX9_take_117 lf_X9_110 (Or.inr rfl) ?_
              refine j_goto (tgt := 89) C dX9_take_120 (by decide) ?_
              refine j_lv (lv' := [(9, .int (nI i)), (8, .int more), (7, .int aW), (6, .int inT), (5, .int num), (4, .int mn), (3, .int tb), (2, .int ((g 25) q)), (0, .ref (ad 22)), (1, .int (nI q))]) [0, 1, 2, 3, 4, 5, 6, 7, 8, 9] rfl ?_
              exact ih1 i tb mn num inT aW more (upd u1 8 1) g1 hI.bad (tkm_bad hI.1 c_1 c_3 hm1) (by rw [← hS1, L_X9_take]; rw [if_neg c_1, if_pos c_3, if_neg c_4, if_pos c_5])
  exact hw1 37 0 ((g 26) q) ((g 25) q) (((Q_X9_take_1 u g q) : Int64).toInt32) 0 0 1 (upd (upd (upd (upd (upd (upd u 4 0) 5 0) 6 0) 7 0) 3 (((Q_X9_take_1 u g q) : Int64).toInt32)) 8 0) g (tk0 hm rfl rfl) (show tkm 0 0 1 0 < 37 by decide) rfl

