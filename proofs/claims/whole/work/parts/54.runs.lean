/-- bytes written one after another at the places P -/
def WB (F : Nat → Int32) (P : Nat → Nat) (B : Nat → Int32) : Nat → (Nat → Int32)
  | 0 => F
  | k + 1 => upd (WB F P B k) (P k) (nB (B k))
theorem WB_s (F : Nat → Int32) (P : Nat → Nat) (B : Nat → Int32) (k : Nat) : WB F P B (k + 1) = upd (WB F P B k) (P k) (nB (B k)) := by rw [WB]
theorem WB_pt {F G : Nat → Int32} {P : Nat → Nat} {B : Nat → Int32} {p : Nat} (h : F p = G p) : ∀ k : Nat, WB F P B k p = WB G P B k p
  | 0 => h
  | k + 1 => by
    rw [WB_s, WB_s]
    by_cases c : p = P k
    · rw [c, pk_us, pk_us]
    · rw [pk_un c, pk_un c, WB_pt h k]
theorem WB_cg {F : Nat → Int32} {P P' : Nat → Nat} {B B' : Nat → Int32} : ∀ {k : Nat}, (∀ i : Nat, i < k → P i = P' i ∧ nB (B i) = nB (B' i)) → WB F P B k = WB F P' B' k
  | 0, _ => rfl
  | k + 1, h => by rw [WB_s, WB_s, WB_cg (fun i hi => h i (by omega)), (h k (by omega)).1, (h k (by omega)).2]
theorem WB_out {F : Nat → Int32} {P : Nat → Nat} {B : Nat → Int32} {p : Nat} : ∀ {k : Nat}, (∀ i : Nat, i < k → p ≠ P i) → WB F P B k p = F p
  | 0, _ => rfl
  | k + 1, h => by rw [WB_s, pk_un (h k (by omega)), WB_out (fun i hi => h i (by omega))]
/-- the class writes a run of bytes at its cursor -/
theorem putrun {f : Nat → Nat → Int32} {v0 : Nat → Int32} {P : Nat → Nat} {K M : Nat} (hC : CU f v0 (fun j => P (0 + j)) (M + K)) (Lc : Nat → (Nat → Int32) × (Nat → Nat → Int32)) (B : Nat → Int32) (h0 : Lc 0 = (v0, f)) (hs : ∀ (i : Nat) (F v : Nat → Int32), i < K → Lc i = (v, va_up f 2 F) → Lc (i + 1) = S_X0_putByte v (va_up f 2 F) (B i)) : ∀ i : Nat, i ≤ K → ∃ v' : Nat → Int32, Lc i = (v', va_up f 2 (WB (f 2) P B i)) ∧ CF v0 v' ∧ CU (va_up f 2 (WB (f 2) P B i)) v' (fun j => P (i + j)) (M + (K - i)) := by
  intro i
  induction i with
  | zero =>
    intro _
    refine ⟨v0, ?_, CF.rfl' v0, ?_⟩
    · rw [h0]; show (v0, f) = (v0, va_up f 2 (f 2)); rw [up_id]
    · show CU (va_up f 2 (f 2)) v0 _ _
      rw [up_id]; exact hC
  | succ i ih =>
    intro hi
    obtain ⟨v1, e1, e2, e3⟩ := ih (by omega)
    rw [show M + (K - i) = (M + (K - (i + 1))) + 1 by omega] at e3
    obtain ⟨v2, a1, a2, a3, a4⟩ := pby_k e3 (B i)
    rw [va_up_self, up_up] at a1 a4
    refine ⟨v2, ?_, e2.tr a3, ?_⟩
    · rw [hs i _ _ (by omega) e1, a1, WB_s]
    · rw [WB_s]; exact a4
/-- the reference writes a run of bytes -/
theorem wrun {u : Nat → Int32} {g : Nat → Nat → Int32} {w m K : Nat} (hS : SGF (g 35) (g 34) 0 w m) (hw : w ≤ 16) (hK : K ≤ m) (Lm : Nat → (Nat → Nat → Int32)) (B : Nat → Int32) (h0 : Lm 0 = g) (hs : ∀ (i : Nat) (G : Nat → Int32), i < K → Lm i = va_up g 23 G → Lm (i + 1) = S_X9_writeByte u (va_up g 23 G) (nI i) (B i)) : ∀ i : Nat, i ≤ K → Lm i = va_up g 23 (WB (g 23) (PL (g 35) (g 34) 0 w) B i) := by
  have hle := hS.le
  intro i
  induction i with
  | zero => intro _; rw [h0]; show g = va_up g 23 (g 23); rw [up_id]
  | succ i ih =>
    intro hi
    have e := ih (by omega)
    rw [hs i _ (by omega) e]
    unfold S_X9_writeByte
    rw [wb_M u _ _ _ w 21 0 m i (by rw [va_up_ne _ _ (by decide), va_up_ne _ _ (by decide)]; exact hS) (by omega) (by omega) (by omega), va_up_self, up_up, va_up_ne _ _ (by decide), va_up_ne _ _ (by decide), WB_s]
/-- the reference writes one byte -/
theorem w1_M {u : Nat → Int32} {g : Nat → Nat → Int32} {w m : Nat} (hS : SGF (g 35) (g 34) 0 w m) (hw : w ≤ 16) (b : Int32) {k : Nat} (hk : k < m) : S_X9_writeByte u g (nI k) b = va_up g 23 (upd (g 23) (PL (g 35) (g 34) 0 w k) (nB b)) := by
  have hle := hS.le
  unfold S_X9_writeByte
  rw [wb_M u _ _ _ w 21 0 m k hS hk (by omega) (by omega)]
theorem r1_M {u : Nat → Int32} {g : Nat → Nat → Int32} {r n : Nat} (hS : SGF (g 33) (g 32) 0 r n) (hr : r ≤ 16) {k : Nat} (hk : k < n) : S_X9_readByte u g (nI k) = nI (bt8 (g 23 (PL (g 33) (g 32) 0 r k))) := by
  have hle := hS.le
  unfold S_X9_readByte
  rw [rb_M u g _ r 21 0 n k hS hk (by omega) (by omega)]
/-- the cursor before all that is written -/
theorem CH.cw {r w n m : Nat} {v : Nat → Int32} {f : Nat → Nat → Int32} {u : Nat → Int32} {g : Nat → Nat → Int32} (h : CH r w n m v f u g) : CU f (S_X0_toWrites v f) (fun j => PL (g 35) (g 34) 0 w (0 + j)) m ∧ CF v (S_X0_toWrites v f) := by
  obtain ⟨h0, ⟨a1, a2, a3, a4⟩, ⟨b1, b2, b3, b4⟩, hR, hW, cR, cW, hl⟩ := h
  have hc : ∀ j : Nat, j < w → f 9 (r + j) = g 35 (0 + j) ∧ f 8 (r + j) = g 34 (0 + j) := fun j hj => by rw [Nat.zero_add]; exact cW j hj
  unfold S_X0_toWrites
  refine ⟨⟨r, w, 0, m, ?_, ?_, ?_, h0, hW.cg hc, Or.inl rfl, by omega, fun k hk => ?_⟩, fun j x y z => ?_⟩
  · simp (disch := omega) only [pk_un, pk_us]; exact a2
  · simp (disch := omega) only [pk_un, pk_us]; exact a1
  · simp (disch := omega) only [pk_un, pk_us]; rfl
  · rw [PL_cg hc]
  · rw [pk_un y, pk_un z, pk_un x]
/-- the cursor before all that is read -/
theorem CH.cr {r w n m : Nat} {v : Nat → Int32} {f : Nat → Nat → Int32} {u : Nat → Int32} {g : Nat → Nat → Int32} (h : CH r w n m v f u g) : CU f (S_X0_toReads v f) (fun j => PL (g 33) (g 32) 0 r (0 + j)) n ∧ CF v (S_X0_toReads v f) := by
  obtain ⟨h0, ⟨a1, a2, a3, a4⟩, ⟨b1, b2, b3, b4⟩, hR, hW, cR, cW, hl⟩ := h
  have hc : ∀ j : Nat, j < r → f 9 (0 + j) = g 33 (0 + j) ∧ f 8 (0 + j) = g 32 (0 + j) := fun j hj => by rw [Nat.zero_add]; exact cR j hj
  unfold S_X0_toReads
  refine ⟨⟨0, r, 0, n, ?_, ?_, ?_, by omega, hR.cg hc, Or.inl rfl, by omega, fun k hk => ?_⟩, fun j x y z => ?_⟩
  · simp (disch := omega) only [pk_un, pk_us]; rfl
  · simp (disch := omega) only [pk_un, pk_us]; rw [a2, Nat.zero_add]
  · simp (disch := omega) only [pk_un, pk_us]; rfl
  · rw [PL_cg hc]
  · rw [pk_un y, pk_un z, pk_un x]
theorem nI_eqW {a b : Nat} (ha : a < 2 ^ 32) (hb : b < 2 ^ 32) : nI a = nI b ↔ a = b := by
  constructor
  · intro h
    have := congrArg (fun x : Int32 => x.toBitVec.toNat) h
    rw [pk_tn ha, pk_tn hb] at this
    exact this
  · intro h; rw [h]
/-- a run of blocks that is there -/
theorem there {v : Nat → Int32} {f : Nat → Nat → Int32} {S z : Nat} (hS : S < 2 ^ 64) (hz : z < 2 ^ 17) (h : ¬ S_X2_areThere v f (lN S) (nI z) = 0) : z = 0 ∨ 64 * S + z ≤ 2048 := by
  by_cases z0 : z = 0
  · exact Or.inl z0
  right
  revert h
  unfold S_X2_areThere
  have ed : nI z / 64 = nI (z / 64) := pk_div (d := 64) (by omega) (by decide) (by decide)
  have er : nI z - nI z / 64 * 64 = nI (z % 64) := pk_rem (d := 64) (by omega) (by decide) (by decide)
  rw [if_neg (nI_ne0 (by omega) (by omega)), er, ed]
  by_cases c1 : nI (z % 64) = 0
  · rw [if_pos c1]
    have hm : z % 64 = 0 := (nI_eq (b := 0) (by omega) (by decide)).mp c1
    have e32 : ((32 - nI (z / 64) : Int32).toInt64).toInt = 32 - (z / 64 : Nat) := by
      rw [Int32.toInt_toInt64]
      exact pk_sub_toInt (a := 32) (by decide) (by omega)
    by_cases c2 : lg_cmp (lN S) 0 < 0
    · rw [if_pos c2]; exact fun h => absurd rfl h
    · rw [if_neg c2]
      by_cases c3 : 0 < lg_cmp (lN S) ((32 - nI (z / 64) : Int32).toInt64)
      · rw [if_pos c3]; exact fun h => absurd rfl h
      · intro _
        rw [lg_cmp_lt, Int64.lt_iff_toInt_lt, show (0 : Int64).toInt = 0 from rfl] at c2
        rw [lg_cmp_gt, Int64.lt_iff_toInt_lt, e32] at c3
        have hS2 : S < 2 ^ 63 := by
          rcases Nat.lt_or_ge S (2 ^ 63) with q | q
          · exact q
          · have := lN_neg hS q; omega
        rw [pk_lT hS2] at c3
        omega
  · rw [if_neg c1]; exact fun h => absurd rfl h
