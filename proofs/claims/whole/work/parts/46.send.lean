theorem lin (c k d : Nat) : nI c + nI k * nI d = nI (c + k * d) := by rw [pk_mul, nI_add]
theorem rf_0 {c : Nat} {v : Nat → Int32} {f : Nat → Nat → Int32} {u : Nat → Int32} {g : Nat → Nat → Int32} (h : SIM c v f u g) (k : Int32) : S_X3_refusal_16 v f k = if u 2 = 0 then -4 else if k ≤ S_X9_freeOnes u g 0 then 0 else -1 := by
  unfold S_X3_refusal_16 S_X4_freeOnes_16
  have e := h.free (q := 0) (by decide)
  have e40 : v 40 = u 2 := h.1.2.2.2.2.2.1
  rw [e40]
  by_cases h2 : u 2 = 0
  · rw [if_pos h2, if_pos h2]
  · rw [if_neg h2, if_neg h2]
    rw [if_neg h2] at e
    rw [show S_J6_bitCount_0f7a4 v f (v 41) = S_X9_freeOnes u g 0 from e]
theorem rf_1 {c : Nat} {v : Nat → Int32} {f : Nat → Nat → Int32} {u : Nat → Int32} {g : Nat → Nat → Int32} (h : SIM c v f u g) (k : Int32) : S_X3_refusal_18 v f k = if u 2 = 0 then -4 else if k ≤ S_X9_freeOnes u g 1 then 0 else -1 := by
  unfold S_X3_refusal_18 S_X4_freeOnes_18
  have e := h.free (q := 1) (by decide)
  have e40 : v 40 = u 2 := h.1.2.2.2.2.2.1
  rw [e40]
  by_cases h2 : u 2 = 0
  · rw [if_pos h2, if_pos h2]
  · rw [if_neg h2, if_neg h2]
    rw [if_neg h2] at e
    rw [show S_J6_bitCount_0f7a4 v f (v 45) = S_X9_freeOnes u g 1 from e]
theorem rf_2 {c : Nat} {v : Nat → Int32} {f : Nat → Nat → Int32} {u : Nat → Int32} {g : Nat → Nat → Int32} (h : SIM c v f u g) (k : Int32) : S_X3_refusal_20 v f k = if u 2 = 0 then -4 else if k ≤ S_X9_freeOnes u g 2 then 0 else -1 := by
  unfold S_X3_refusal_20 S_X4_freeOnes_20
  have e := h.free (q := 2) (by decide)
  have e40 : v 40 = u 2 := h.1.2.2.2.2.2.1
  rw [e40]
  by_cases h2 : u 2 = 0
  · rw [if_pos h2, if_pos h2]
  · rw [if_neg h2, if_neg h2]
    rw [if_neg h2] at e
    rw [show S_J6_bitCount_0f7a4 v f (v 49) = S_X9_freeOnes u g 2 from e]
theorem SIM.st1 {c : Nat} {v : Nat → Int32} {f : Nat → Nat → Int32} {u : Nat → Int32} {g : Nat → Nat → Int32} (h : SIM c v f u g) (h2 : ¬ u 2 = 0) : u 2 = 1 := h.1.2.2.2.2.2.2.2.2.1.resolve_left h2
/-- so many are free -/
theorem fr_k {u : Nat → Int32} {g : Nat → Nat → Int32} {q k : Nat} (hk : k < 8) (h : nI k ≤ S_X9_freeOnes u g q) : k ≤ fz (g 38) q 8 := by
  have h8 := fz_le (g 38) q 8
  rw [fo_fz, nI_leI (by omega) (by omega)] at h
  exact h
theorem fp_C (v : Nat → Int32) (f : Nat → Nat → Int32) (p m : Nat) (b : Int32) (hm : m < 2 ^ 64) : ∀ i : Nat, p + i ≤ 4096 → L_X3_fillPattern v f (nI p) b (lN m) i = va_up f 2 (WR (f 2) p i (fun k => b8 (px m k))) := by
  intro i
  induction i with
  | zero => intro _; rw [WR_0, up_id]; rfl
  | succ i ih =>
    intro hi
    rw [L_X3_fillPattern, ih (by omega), nI_add, pat_C _ _ _ _ hm (by omega), set_C _ _ _ _ (by omega), va_up_self, up_up]
    congr 1
    exact WR_s (f 2) p i (fun k => b8 (px m k))
theorem sim_post {c9 : Nat} {v : Nat → Int32} {f : Nat → Nat → Int32} {u : Nat → Int32} {g : Nat → Nat → Int32} (h : SIM c9 v f u g) (hc : c9 + 1 ≤ 512)  : (S_X8_post v f).1 = (S_X9_post u g).1 ∧ SIM (c9 + 1) ((S_X8_post v f).2.1) ((S_X8_post v f).2.2) (u) ((S_X9_post u g).2) := by
  have h9 := h.up hc
  unfold S_X8_post S_X3_lendBuffer S_X9_post
  rw [rf_1 h 1]
  by_cases h2 : u 2 = 0
  · rw [if_pos h2, if_pos h2, if_neg (by decide)]
    exact ⟨rfl, h9⟩
  · rw [if_neg h2, if_neg h2]
    by_cases hk : 1 ≤ S_X9_freeOnes u g 1
    · rw [if_pos hk, if_pos hk, if_pos rfl]
      have hz : 1 ≤ fz (g 38) 1 8 := fr_k (k := 1) (by decide) hk
      obtain ⟨d, v', f', hd, eC, eM, -, hS, -⟩ := lF_1 h9 (h.st1 h2) (fz_ex (by omega))
      unfold Q_X3_lendBuffer_3 Q_X3_lendBuffer_4 Q_X3_lendBuffer_2 Q_X3_lendBuffer_1 Q_X9_post_2 Q_X9_post_1 S_X3_descriptorAt S_X8_descriptorsOf
      rw [eC, eM]
      dsimp only
      refine ⟨rfl, ?_⟩
      have e1 : (256 : Int32) * 1 + 16 * nI d = nI (256 + 16 * d) := lin 256 16 d
      have e2 : (256 : Int32) + 16 * nI d = nI (256 + 16 * d) := lin 256 16 d
      have e3 : (3072 : Int32) + 96 * nI d = nI (3072 + 96 * d) := lin 3072 96 d
      have dC : S_X5_setDescriptor v' f' (nI (256 + 16 * d)) (nI (3072 + 96 * d)) 92 2 0 = _ := ds_C v' f' (p := 256 + 16 * d) (b := 3072 + 96 * d) (c := 92) (d := 2) (e := 0) (by omega) (by omega) (by decide) (by decide) (by decide)
      have dM : S_X9_describe u (LD g 1 d (-1)) (nI (256 + 16 * d)) (nI (3072 + 96 * d)) 92 2 0 = _ := ds_M u (LD g 1 d (-1)) (p := 256 + 16 * d) (b := 3072 + 96 * d) (c := 92) (d := 2) (e := 0) (by omega) (by omega) (by decide) (by decide) (by decide)
      rw [e1, e2, e3, dC, dM]
      have hE : EQ (f' 2) (LD g 1 d (-1) 23) := hS.mem
      exact of_1 (hS.wr (hE.ds _ _ _ _ _)) hd
    · rw [if_neg hk, if_neg hk, if_neg (by decide)]
      exact ⟨rfl, h9⟩
theorem isf {v : Nat → Int32} {f : Nat → Nat → Int32} {a : Int32} (h : ¬ S_X8_isFrame v f a = 0) : ∃ n : Nat, 1 ≤ n ∧ n ≤ 80 ∧ a = nI n := by
  unfold S_X8_isFrame at h
  by_cases h1 : a < 1
  · rw [if_pos h1] at h; exact absurd rfl h
  · rw [if_neg h1] at h
    by_cases h2 : (80 : Int32) < a
    · rw [if_pos h2] at h; exact absurd rfl h
    · have h0 : ¬ a < 0 := fun t => h1 (by rw [Int32.lt_iff_toInt_lt] at t ⊢; have e : (1 : Int32).toInt = 1 := rfl; have e0 : (0 : Int32).toInt = 0 := rfl; omega)
      obtain ⟨j, hj, rfl⟩ := nI_of h0
      rw [show (80 : Int32) = nI 80 from rfl, nI_ltI (by decide) hj] at h2
      rw [show (1 : Int32) = nI 1 from rfl, nI_ltI hj (by decide)] at h1
      exact ⟨j, by omega, by omega, rfl⟩
theorem bx0 (i : Nat) : bx 0 i = b8 0 := by unfold bx; rw [Nat.zero_div, Nat.zero_mod]
/-- the class's three writes are the reference's one -/
theorem wr3 (F : Nat → Int32) (p n m : Nat) : WR (WR (WR F p 8 (bx 0)) (p + 8) 4 (bx 0)) (p + 12) n (fun k => b8 (px m k)) = WR F p (12 + n) (fun k => if 12 ≤ k then b8 (px m (k - 12)) else b8 0) := by
  funext k
  by_cases c1 : p + 12 ≤ k
  · by_cases c2 : k < p + 12 + n
    · rw [WR_in c1 c2, WR_in (show p ≤ k by omega) (show k < p + (12 + n) by omega), if_pos (by omega), show k - p - 12 = k - (p + 12) by omega]
    · rw [WR_out (by omega), WR_out (by omega), WR_out (by omega), WR_out (by omega)]
  · by_cases c2 : p ≤ k
    · rw [WR_out (p := p + 12) (by omega), WR_in (N := 12 + n) c2 (by omega), if_neg (by omega)]
      by_cases c3 : p + 8 ≤ k
      · rw [WR_in c3 (by omega), bx0]
      · rw [WR_out (by omega), WR_in c2 (by omega), bx0]
    · rw [WR_out (by omega), WR_out (by omega), WR_out (by omega), WR_out (by omega)]
theorem sd_M (u : Nat → Int32) (g : Nat → Nat → Int32) (a : Int32) (p m d : Nat) (hm : m < 2 ^ 64) (hL : (S_X9_lend u g (-1) 2).1 = nI d) (hp : p = 2304 + 96 * d) : ∀ i : Nat, p + i ≤ 4096 → L_X9_send u g a (lN m) i = va_up (Q_X9_send_4 u g a (lN m)) 23 (WR (Q_X9_send_4 u g a (lN m) 23) p i (fun k => if 12 ≤ k then b8 (px m (k - 12)) else b8 0)) := by
  intro i
  induction i with
  | zero => intro _; rw [WR_0, up_id]; rfl
  | succ i ih =>
    intro hi
    have e3 : ((2304 : Int32) + 96 * nI d) + nI i = nI (p + i) := by rw [show (2304 : Int32) + 96 * nI d = nI (2304 + 96 * d) from lin 2304 96 d, nI_add, hp]
    have hs := WR_s (Q_X9_send_4 u g a (lN m) 23) p i (fun k => if 12 ≤ k then b8 (px m (k - 12)) else b8 0)
    rw [L_X9_send, ih (by omega), hL, e3, nI_clamp (by omega)]
    by_cases c : 12 ≤ i
    · rw [if_pos (show (12 : Int32) ≤ nI i from nI_le (a := 12) c (by omega)), show (12 : Int32) = nI 12 from rfl, pk_sub c, pat_M _ _ _ _ hm (by omega), va_up_self, up_up]
      rw [if_pos c] at hs
      rw [← hs]
      rfl
    · rw [if_neg (show ¬ (12 : Int32) ≤ nI i from nI_ge (b := 12) (by omega) (by decide)), va_up_self, up_up]
      rw [if_neg c] at hs
      rw [← hs]
      rfl
theorem sim_send {c9 : Nat} {v : Nat → Int32} {f : Nat → Nat → Int32} {u : Nat → Int32} {g : Nat → Nat → Int32} (h : SIM c9 v f u g) (hc : c9 + 1 ≤ 512) (a : Int32) (b : Int64) : (S_X8_send v f a b).1 = (S_X9_send u g a b).1 ∧ SIM (c9 + 1) ((S_X8_send v f a b).2.1) ((S_X8_send v f a b).2.2) (u) ((S_X9_send u g a b).2) := by
  have h9 := h.up hc
  unfold S_X8_send S_X3_letGo S_X9_send
  rw [isin_f v u f g]
  by_cases h0 : S_X8_isFrame v f a = 0
  · rw [if_pos h0, if_pos h0]
    exact ⟨rfl, h9⟩
  · rw [if_neg h0, if_neg h0]
    obtain ⟨n, n1, n2, rfl⟩ := isf h0
    obtain ⟨m, hm, rfl⟩ := wb_of b
    rw [rf_2 h 2]
    by_cases h2 : u 2 = 0
    · rw [if_pos h2, if_pos h2, if_neg (by decide)]
      exact ⟨rfl, h9⟩
    · rw [if_neg h2, if_neg h2]
      by_cases hk : 2 ≤ S_X9_freeOnes u g 2
      · rw [if_pos hk, if_pos hk, if_pos rfl]
        have hz : 2 ≤ fz (g 38) 2 8 := fr_k (k := 2) (by decide) hk
        obtain ⟨d, v', f', hd, eC, eM, -, hS, hh, k1, z1, z2⟩ := lF_2 h9 (h.st1 h2) (fz_ex (by omega))
        obtain ⟨e, v2, f2, he, eC2, eM2, -, hS2, -⟩ := lnx_2 hS (h.st1 h2) hd hh (fz_ex (n := 8) (by omega))
        unfold Q_X9_send_5
        have hq4 : Q_X9_send_4 u g (nI n) (lN m) = va_up (LD (LD g 2 d (-1)) 2 e (nI d)) 23 (DS (DS (LD (LD g 2 d (-1)) 2 e (nI d) 23) (512 + 16 * d) (2304 + 96 * d) 12 1 e) (512 + 16 * e) (2304 + 96 * d + 12) n 0 0) := by
          unfold Q_X9_send_4 Q_X9_send_3 Q_X9_send_2 Q_X9_send_1
          rw [eM]
          dsimp only
          rw [eM2]
          dsimp only
          have e1 : (512 : Int32) + 16 * nI d = nI (512 + 16 * d) := lin 512 16 d
          have e2 : (512 : Int32) + 16 * nI e = nI (512 + 16 * e) := lin 512 16 e
          have e3 : (2304 : Int32) + 96 * nI d = nI (2304 + 96 * d) := lin 2304 96 d
          have e4 : nI (2304 + 96 * d) + 12 = nI (2304 + 96 * d + 12) := nI_add _ 12
          rw [e1, e2, e3, e4]
          generalize LD (LD g 2 d (-1)) 2 e (nI d) = G
          have dM : S_X9_describe u G (nI (512 + 16 * d)) (nI (2304 + 96 * d)) 12 1 (nI e) = _ := ds_M u G (p := 512 + 16 * d) (b := 2304 + 96 * d) (c := 12) (d := 1) (e := e) (by omega) (by omega) (by decide) (by decide) (by omega)
          have dM2 : ∀ G : Nat → Nat → Int32, S_X9_describe u G (nI (512 + 16 * e)) (nI (2304 + 96 * d + 12)) (nI n) 0 0 = _ := fun G => ds_M u G (p := 512 + 16 * e) (b := 2304 + 96 * d + 12) (c := n) (d := 0) (e := 0) (by omega) (by omega) (by omega) (by decide) (by decide)
          rw [dM, dM2, up_up, va_up_self]
        have e12 : ((12 : Int32) + nI n).toNatClampNeg = 12 + n := by
          rw [show (12 : Int32) = nI 12 from rfl, nI_add, nI_clamp (by omega)]
        rw [e12, sd_M u g (nI n) (2304 + 96 * d) m d hm (by rw [eM]) rfl (12 + n) (by omega), hq4, up_up, va_up_self]
        unfold Q_X3_letGo_11 Q_X3_letGo_12 Q_X3_letGo_10 Q_X3_letGo_9 Q_X3_letGo_8 Q_X3_letGo_7 Q_X3_letGo_6 Q_X3_letGo_5 Q_X3_letGo_4 Q_X3_letGo_3 Q_X3_letGo_2 Q_X3_letGo_1 S_X3_descriptorAt S_X8_descriptorsOf
        rw [eC, eM]
        dsimp only
        rw [eC2]
        dsimp only
        refine ⟨rfl, ?_⟩
        have e1 : (256 : Int32) * 2 + 16 * nI d = nI (512 + 16 * d) := lin 512 16 d
        have e2 : (256 : Int32) * 2 + 16 * nI e = nI (512 + 16 * e) := lin 512 16 e
        have e3 : (2304 : Int32) + 96 * nI d = nI (2304 + 96 * d) := lin 2304 96 d
        have e4 : nI (2304 + 96 * d) + 12 = nI (2304 + 96 * d + 12) := nI_add _ 12
        have e5 : nI (2304 + 96 * d) + 8 = nI (2304 + 96 * d + 8) := nI_add _ 8
        have dC : S_X5_setDescriptor v2 f2 (nI (512 + 16 * d)) (nI (2304 + 96 * d)) 12 1 (nI e) = _ := ds_C v2 f2 (p := 512 + 16 * d) (b := 2304 + 96 * d) (c := 12) (d := 1) (e := e) (by omega) (by omega) (by decide) (by decide) (by omega)
        have dC2 : ∀ F : Nat → Nat → Int32, S_X5_setDescriptor v2 F (nI (512 + 16 * e)) (nI (2304 + 96 * d + 12)) (nI n) 0 0 = _ := fun F => ds_C v2 F (p := 512 + 16 * e) (b := 2304 + 96 * d + 12) (c := n) (d := 0) (e := 0) (by omega) (by omega) (by omega) (by decide) (by decide)
        have pC : ∀ F : Nat → Nat → Int32, S_X5_setNumber v2 F (nI (2304 + 96 * d)) 0 8 = _ := fun F => put_C v2 F (2304 + 96 * d) 0 8 (by omega) (by decide) (by decide)
        have pC2 : ∀ F : Nat → Nat → Int32, S_X5_setNumber v2 F (nI (2304 + 96 * d + 8)) 0 4 = _ := fun F => put_C v2 F (2304 + 96 * d + 8) 0 4 (by omega) (by decide) (by decide)
        have fC : ∀ F : Nat → Nat → Int32, S_X3_fillPattern v2 F (nI (2304 + 96 * d + 12)) (nI n) (lN m) = va_up F 2 (WR (F 2) (2304 + 96 * d + 12) n (fun k => b8 (px m k))) := fun F => by
          unfold S_X3_fillPattern
          rw [nI_clamp (by omega)]
          exact fp_C v2 F (2304 + 96 * d + 12) m (nI n) hm n (by omega)
        rw [e1, e2, e3, e4, e5, dC, dC2, pC, pC2, fC]
        simp only [up_up, va_up_self]
        rw [wr3]
        have hE : EQ (f2 2) (LD (LD g 2 d (-1)) 2 e (nI d) 23) := hS2.mem
        exact of_2 (hS2.wr (((hE.ds _ _ _ _ _).ds _ _ _ _ _).wr _ _ _)) hd
      · rw [if_neg hk, if_neg hk, if_neg (by decide)]
        exact ⟨rfl, h9⟩
