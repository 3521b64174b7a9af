/-- the gather of a QUEUE, one text for the three -/
def GG (b : Int32) : Nat → Nat → Int32 → Int32 → Int32 → Int32 → (Nat → Int32) → (Nat → Nat → Int32) → Int32 × (Nat → Int32) × (Nat → Nat → Int32)
  | 0, _, _, _, _, _, v1, f1 => (0, v1, f1)
  | d1 + 1, i, base, room, num, inT, v1, f1 =>
    if 16 < (nI i) then (0, v1, f1)
    else if num < room then if ((S_X5_two v1 f1 ((base + (16 * num)) + 12)) &&& 4) = 0 then if ((S_X5_two v1 f1 ((base + (16 * num)) + 12)) &&& 2) = 0 then if (S_X0_addPart v1 f1 (base + (16 * num)) 0).1 = 0 then (0, (S_X0_addPart v1 f1 (base + (16 * num)) 0).2.1, (S_X0_addPart v1 f1 (base + (16 * num)) 0).2.2)
            else if ((S_X5_two v1 f1 ((base + (16 * num)) + 12)) &&& 1) = 0 then (1, (S_X0_addPart v1 f1 (base + (16 * num)) 0).2.1, (S_X0_addPart v1 f1 (base + (16 * num)) 0).2.2)
              else (GG b d1 (i + 1) base room (S_X5_two (S_X0_addPart v1 f1 (base + (16 * num)) 0).2.1 (S_X0_addPart v1 f1 (base + (16 * num)) 0).2.2 ((base + (16 * num)) + 14)) inT (S_X0_addPart v1 f1 (base + (16 * num)) 0).2.1 (S_X0_addPart v1 f1 (base + (16 * num)) 0).2.2)
          else if (S_X0_addPart v1 f1 (base + (16 * num)) 1).1 = 0 then (0, (S_X0_addPart v1 f1 (base + (16 * num)) 1).2.1, (S_X0_addPart v1 f1 (base + (16 * num)) 1).2.2)
            else if ((S_X5_two v1 f1 ((base + (16 * num)) + 12)) &&& 1) = 0 then (1, (S_X0_addPart v1 f1 (base + (16 * num)) 1).2.1, (S_X0_addPart v1 f1 (base + (16 * num)) 1).2.2)
              else (GG b d1 (i + 1) base room (S_X5_two (S_X0_addPart v1 f1 (base + (16 * num)) 1).2.1 (S_X0_addPart v1 f1 (base + (16 * num)) 1).2.2 ((base + (16 * num)) + 14)) inT (S_X0_addPart v1 f1 (base + (16 * num)) 1).2.1 (S_X0_addPart v1 f1 (base + (16 * num)) 1).2.2)
        else if b = 0 then (0, v1, f1)
          else if inT = 0 then if (S_X0_isTable v1 f1 (base + (16 * num)) (S_X5_two v1 f1 ((base + (16 * num)) + 12))) = 0 then (0, v1, f1)
              else (GG b d1 (i + 1) (((S_X5_number v1 f1 (base + (16 * num)) 8) : Int64).toInt32) ((((S_X5_number v1 f1 ((base + (16 * num)) + 8) 4) : Int64).toInt32) / 16) 0 1 v1 f1)
            else (0, v1, f1)
      else (0, v1, f1)
theorem gg_4 (v : Nat → Int32) (f : Nat → Nat → Int32) (b : Int32) : ∀ (d i : Nat) (base room num inT : Int32) (v1 : Nat → Int32) (f1 : Nat → Nat → Int32), L_X0_gather_4 v f b d i base room num inT v1 f1 = GG b d i base room num inT v1 f1 := by
  intro d
  induction d with
  | zero => intros; rfl
  | succ d ih => intro i base room num inT v1 f1; rw [L_X0_gather_4, GG, ih, ih, ih]; rfl
theorem gg_5 (v : Nat → Int32) (f : Nat → Nat → Int32) (b : Int32) : ∀ (d i : Nat) (base room num inT : Int32) (v1 : Nat → Int32) (f1 : Nat → Nat → Int32), L_X0_gather_5 v f b d i base room num inT v1 f1 = GG b d i base room num inT v1 f1 := by
  intro d
  induction d with
  | zero => intros; rfl
  | succ d ih => intro i base room num inT v1 f1; rw [L_X0_gather_5, GG, ih, ih, ih]; rfl
theorem gg_6 (v : Nat → Int32) (f : Nat → Nat → Int32) (b : Int32) : ∀ (d i : Nat) (base room num inT : Int32) (v1 : Nat → Int32) (f1 : Nat → Nat → Int32), L_X0_gather_6 v f b d i base room num inT v1 f1 = GG b d i base room num inT v1 f1 := by
  intro d
  induction d with
  | zero => intros; rfl
  | succ d ih => intro i base room num inT v1 f1; rw [L_X0_gather_6, GG, ih, ih, ih]; rfl
/-- what both sides hold of a chain: r rows to read with n bytes, w rows to write with m bytes -/
def CH (r w n m : Nat) (v : Nat → Int32) (f : Nat → Nat → Int32) (u : Nat → Int32) (g : Nat → Nat → Int32) : Prop :=
  r + w ≤ 16 ∧ (v 28 = nI (r + w) ∧ v 29 = nI r ∧ v 35 = nI n ∧ v 36 = nI m) ∧ (u 4 = nI r ∧ u 5 = nI n ∧ u 6 = nI w ∧ u 7 = nI m) ∧ SGF (g 33) (g 32) 0 r n ∧ SGF (g 35) (g 34) 0 w m ∧ (∀ j : Nat, j < r → f 9 j = g 33 j ∧ f 8 j = g 32 j) ∧ (∀ j : Nat, j < w → f 9 (r + j) = g 35 j ∧ f 8 (r + j) = g 34 j) ∧ (0 < m → v 33 = nI (PL (g 35) (g 34) 0 w (m - 1)))
def FRC (v : Nat → Int32) (f : Nat → Nat → Int32) (v' : Nat → Int32) (f' : Nat → Nat → Int32) : Prop := (∀ j : Nat, j ≠ 28 → j ≠ 29 → j ≠ 33 → j ≠ 35 → j ≠ 36 → v' j = v j) ∧ ∀ j : Nat, j ≠ 8 → j ≠ 9 → f' j = f j
def FRM (u : Nat → Int32) (g : Nat → Nat → Int32) (u' : Nat → Int32) (g' : Nat → Nat → Int32) : Prop := (∀ j : Nat, j ≠ 4 → j ≠ 5 → j ≠ 6 → j ≠ 7 → j ≠ 8 → u' j = u j) ∧ ∀ j : Nat, j ≠ 32 → j ≠ 33 → j ≠ 34 → j ≠ 35 → g' j = g j
theorem FRC.rf (v : Nat → Int32) (f : Nat → Nat → Int32) : FRC v f v f := ⟨fun _ _ _ _ _ _ => rfl, fun _ _ _ => rfl⟩
theorem FRM.rf (u : Nat → Int32) (g : Nat → Nat → Int32) : FRM u g u g := ⟨fun _ _ _ _ _ _ => rfl, fun _ _ _ _ _ => rfl⟩
theorem FRC.tr {v v' v'' : Nat → Int32} {f f' f'' : Nat → Nat → Int32} (h : FRC v f v' f') (h2 : FRC v' f' v'' f'') : FRC v f v'' f'' := ⟨fun j a b c d e => (h2.1 j a b c d e).trans (h.1 j a b c d e), fun j a b => (h2.2 j a b).trans (h.2 j a b)⟩
theorem FRM.tr {u u' u'' : Nat → Int32} {g g' g'' : Nat → Nat → Int32} (h : FRM u g u' g') (h2 : FRM u' g' u'' g'') : FRM u g u'' g'' := ⟨fun j a b c d e => (h2.1 j a b c d e).trans (h.1 j a b c d e), fun j a b c d => (h2.2 j a b c d).trans (h.2 j a b c d)⟩
theorem lN_neg {A : Nat} (h : A < 2 ^ 64) (h2 : 2 ^ 63 ≤ A) : (lN A).toInt < 0 := by
  have e : (lN A).toInt = (BitVec.ofNat 64 A).toInt := rfl
  rw [e, BitVec.toInt_eq_toNat_cond, BitVec.toNat_ofNat, Nat.mod_eq_of_lt h, if_neg (by omega)]
  omega
theorem lc_sub {L : Nat} (h : L < 2 ^ 32) : (4096 - lN L : Int64).toInt = 4096 - (L : Int) := by
  rw [Int64.toInt_sub, pk_lT (by omega), show (4096 : Int64).toInt = 4096 from rfl, Int.bmod_def]
  omega
theorem lies_iff {A L : Nat} (hA : A < 2 ^ 64) (hL : L < 2 ^ 32) : (¬ lg_cmp (lN A) 0 < 0 ∧ ¬ 0 < lg_cmp (lN A) (4096 - lN L)) ↔ A + L ≤ 4096 := by
  rw [lg_cmp_lt, lg_cmp_gt, Int64.lt_iff_toInt_lt, Int64.lt_iff_toInt_lt, lc_sub hL, show (0 : Int64).toInt = 0 from rfl]
  by_cases c : A < 2 ^ 63
  · rw [pk_lT c]; omega
  · have := lN_neg hA (by omega)
    omega
theorem lies_C (v : Nat → Int32) (f : Nat → Nat → Int32) {A L : Nat} (hA : A < 2 ^ 64) (hL : L < 2 ^ 32) : S_X8_liesInMemory v f (lN A) (lN L) = if A + L ≤ 4096 then 1 else 0 := by
  have h := lies_iff hA hL
  unfold S_X8_liesInMemory
  by_cases c1 : lg_cmp (lN A) 0 < 0
  · rw [if_pos c1, if_neg (fun q => (h.mpr q).1 c1)]
  · rw [if_neg c1]
    by_cases c2 : 0 < lg_cmp (lN A) (4096 - lN L)
    · rw [if_pos c2, if_neg (fun q => (h.mpr q).2 c2)]
    · rw [if_neg c2, if_pos (h.mp ⟨c1, c2⟩)]
theorem le0_iff {L : Nat} (h : L < 2 ^ 32) : lg_cmp (lN L) 0 ≤ 0 ↔ L = 0 := by
  rw [lg_cmp_le, Int64.le_iff_toInt_le, pk_lT (by omega), show (0 : Int64).toInt = 0 from rfl]
  omega
theorem eq0_iff {L : Nat} (h : L < 2 ^ 32) : lg_cmp (lN L) 0 = 0 ↔ L = 0 := by
  rw [lg_cmp_eq, show (0 : Int64) = lN 0 from rfl, pk_lEQ (by omega) (by omega)]
theorem gt256_iff {L : Nat} (h : L < 2 ^ 32) : 0 < lg_cmp (lN L) 256 ↔ 256 < L := by
  rw [lg_cmp_gt, show (256 : Int64) = lN 256 from rfl, pk_lLT (by omega) (by omega)]
theorem le256_iff {L : Nat} (h : L < 2 ^ 32) : lg_cmp (lN L) 256 ≤ 0 ↔ L ≤ 256 := by
  rw [lg_cmp_le, show (256 : Int64) = lN 256 from rfl, pk_lLE (by omega) (by omega)]
theorem rem16L {L : Nat} (h : L < 2 ^ 32) : lN L - lN L / 16 * 16 = lN (L % 16) := pk_lRem (b := 16) (by omega) (by decide) (by decide)
/-- the class adds a row: rows and numbers -/
def RWC (f : Nat → Nat → Int32) (k : Nat) (x y : Int32) : Nat → Nat → Int32 := va_up (va_up f 8 (upd (f 8) k x)) 9 (upd (f 9) k y)
theorem ap_no {v : Nat → Int32} {f : Nat → Nat → Int32} {s r p A L : Nat} {b : Int32} (hs : s ≤ 16) (hr : r ≤ s) (h28 : v 28 = nI s) (h29 : v 29 = nI r) (hA : A < 2 ^ 64) (hL : L < 2 ^ 32) (eA : S_X5_number v f (nI p) 8 = lN A) (eL : S_X5_number v f (nI p + 8) 4 = lN L) (h : s = 16 ∨ ¬ (L = 0 ∨ A + L ≤ 4096) ∨ (b = 0 ∧ r < s)) : S_X0_addPart v f (nI p) b = (0, v, f) := by
  unfold S_X0_addPart Q_X0_addPart_1
  rw [h28, h29, eA, eL, lies_C v f hA hL]
  by_cases c : s = 16
  · rw [if_pos (show (16 : Int32) ≤ nI s by rw [c]; decide)]
  · rw [if_neg (show ¬ (16 : Int32) ≤ nI s from nI_ge (b := 16) (by omega) (by decide))]
    by_cases c0 : L = 0
    · obtain ⟨hb, hrs⟩ := (h.resolve_left c).resolve_left (fun q => q (Or.inl c0))
      rw [if_pos ((le0_iff hL).mpr c0), if_pos hb, if_neg (nI_ge hrs (by omega))]
    · rw [if_neg (fun q => c0 ((le0_iff hL).mp q))]
      by_cases c1 : A + L ≤ 4096
      · obtain ⟨hb, hrs⟩ := (h.resolve_left c).resolve_left (fun q => q (Or.inr c1))
        rw [if_pos c1, if_neg (show ¬ (1 : Int32) = 0 by decide), if_pos hb, if_neg (nI_ge hrs (by omega))]
      · rw [if_neg c1, if_pos rfl]
theorem ap_rd {v : Nat → Int32} {f : Nat → Nat → Int32} {r n p A L : Nat} (hs : r < 16) (h28 : v 28 = nI r) (h29 : v 29 = nI r) (h35 : v 35 = nI n) (hA : A < 2 ^ 64) (hL : L < 2 ^ 32) (eA : S_X5_number v f (nI p) 8 = lN A) (eL : S_X5_number v f (nI p + 8) 4 = lN L) (h : L = 0 ∨ A + L ≤ 4096) : S_X0_addPart v f (nI p) 0 = (1, upd (upd (upd v 28 (nI (r + 1))) 29 (nI (r + 1))) 35 (nI (n + L)), RWC f r (nI A) (nI L)) := by
  unfold S_X0_addPart Q_X0_addPart_1 RWC
  have e9 : (va_up f 8 (upd (f 8) r (nI A))) 9 = f 9 := va_up_ne _ _ (by decide)
  have e35 : (upd (upd v 28 (nI (r + 1))) 29 (nI (r + 1))) 35 = nI n := by rw [pk_un (by decide), pk_un (by decide), h35]
  rw [eA, eL, lies_C v f hA hL, h28, h29, lN_i, lN_i, nI_clamp (by omega), e9, nI_1, e35, nI_add, if_neg (show ¬ (16 : Int32) ≤ nI r from nI_ge (b := 16) (by omega) (by decide))]
  by_cases c0 : L = 0
  · rw [if_pos ((le0_iff hL).mpr c0), if_pos rfl, if_pos (nI_le (Nat.le_refl r) (by omega))]
  · rw [if_neg (fun q => c0 ((le0_iff hL).mp q)), if_pos (h.resolve_left c0), if_neg (show ¬ (1 : Int32) = 0 by decide), if_pos rfl, if_pos (nI_le (Nat.le_refl r) (by omega))]
theorem ap_wr {v : Nat → Int32} {f : Nat → Nat → Int32} {s m p A L : Nat} (hs : s < 16) (h28 : v 28 = nI s) (h36 : v 36 = nI m) (hA : A < 2 ^ 64) (hL : L < 2 ^ 32) (eA : S_X5_number v f (nI p) 8 = lN A) (eL : S_X5_number v f (nI p + 8) 4 = lN L) (h : L = 0 ∨ A + L ≤ 4096) : ∃ v' : Nat → Int32, S_X0_addPart v f (nI p) 1 = (1, v', RWC f s (nI A) (nI L)) ∧ (∀ j : Nat, j ≠ 28 → j ≠ 36 → j ≠ 33 → v' j = v j) ∧ v' 28 = nI (s + 1) ∧ v' 36 = nI (m + L) ∧ v' 33 = (if L = 0 then v 33 else nI (A + L - 1)) := by
  unfold S_X0_addPart Q_X0_addPart_1 RWC
  have e9 : (va_up f 8 (upd (f 8) s (nI A))) 9 = f 9 := va_up_ne _ _ (by decide)
  have e36 : (upd v 28 (nI (s + 1))) 36 = nI m := by rw [pk_un (by decide), h36]
  rw [eA, eL, lies_C v f hA hL, h28, lN_add, lN_i, lN_i, lN_i, nI_clamp (by omega), e9, nI_1, e36, nI_add, if_neg (show ¬ (16 : Int32) ≤ nI s from nI_ge (b := 16) (by omega) (by decide))]
  by_cases c0 : L = 0
  · rw [if_pos ((le0_iff hL).mpr c0), if_neg (show ¬ (1 : Int32) = 0 by decide)]
    exact ⟨_, rfl, fun j a b c => pk_un a, pk_us, by rw [pk_un (by decide), h36, c0, Nat.add_zero], by rw [if_pos c0, pk_un (by decide)]⟩
  · rw [if_neg (fun q => c0 ((le0_iff hL).mp q)), if_pos (h.resolve_left c0), if_neg (show ¬ (1 : Int32) = 0 by decide), if_neg (show ¬ (1 : Int32) = 0 by decide)]
    refine ⟨_, rfl, fun j a b c => by rw [pk_un c, pk_un b, pk_un a], by rw [pk_un (by decide), pk_un (by decide), pk_us], by rw [pk_un (by decide), pk_us], ?_⟩
    rw [if_neg c0, pk_us, show A + L = (A + L - 1) + 1 by omega, nI_pred]
    rfl
/-- a row to read, on both sides -/
theorem CH.rd {r n m A L : Nat} {v : Nat → Int32} {f : Nat → Nat → Int32} {u : Nat → Int32} {g : Nat → Nat → Int32} (h : CH r 0 n m v f u g) (hr : r < 16) (hL : L = 0 ∨ A + L ≤ 4096) : CH (r + 1) 0 (n + L) m (upd (upd (upd v 28 (nI (r + 1))) 29 (nI (r + 1))) 35 (nI (n + L))) (RWC f r (nI A) (nI L)) (S_X9_keep u g (nI A) (nI L) 0).1 (S_X9_keep u g (nI A) (nI L) 0).2 := by
  obtain ⟨h0, ⟨a1, a2, a3, a4⟩, ⟨b1, b2, b3, b4⟩, hR, hW, cR, cW, hl⟩ := h
  have hm : m = 0 := hW
  have eS : (va_up (va_up g 32 (upd (g 32) r (nI A))) 33 (upd (g 33) r (nI L))) 33 = upd (g 33) r (nI L) := va_up_self _ _ _
  have eA : (va_up (va_up g 32 (upd (g 32) r (nI A))) 33 (upd (g 33) r (nI L))) 32 = upd (g 32) r (nI A) := by rw [va_up_ne _ _ (by decide), va_up_self]
  have e33 : (va_up g 32 (upd (g 32) r (nI A))) 33 = g 33 := va_up_ne _ _ (by decide)
  have e5 : (upd u 4 (nI (r + 1))) 5 = nI n := by rw [pk_un (by decide), b2]
  have hz : L ≤ 4096 := by omega
  unfold S_X9_keep RWC
  rw [if_pos rfl, b1, nI_clamp (by omega), e33, nI_1, e5, nI_add]
  dsimp only
  refine ⟨by omega, ⟨?_, ?_, ?_, ?_⟩, ⟨?_, ?_, ?_, ?_⟩, ?_, ?_, fun j hj => ?_, fun j hj => by omega, fun q => by omega⟩
  · rw [pk_un (by decide), pk_un (by decide), pk_us]
  · rw [pk_un (by decide), pk_us]
  · rw [pk_us]
  · rw [pk_un (by decide), pk_un (by decide), pk_un (by decide), a4]
  · rw [pk_un (by decide), pk_us]
  · rw [pk_us]
  · rw [pk_un (by decide), pk_un (by decide), b3]
  · rw [pk_un (by decide), pk_un (by decide), b4]
  · rw [eS, eA]
    refine SGF.snoc (z := L) (hR.cg (i := 0) (i' := 0) (fun j hj => by rw [Nat.zero_add]; exact ⟨pk_un (by omega), pk_un (by omega)⟩)) (by rw [Nat.zero_add, pk_us]) hz ?_
    rw [Nat.zero_add, pk_us]
    exact hL.imp _root_.id (fun q => ⟨A, rfl, q⟩)
  · exact hm
  · rw [eS, eA, va_up_self, va_up_ne _ _ (by decide), va_up_self]
    by_cases c : j = r
    · rw [c, pk_us, pk_us, pk_us, pk_us]; exact ⟨rfl, rfl⟩
    · rw [pk_un c, pk_un c, pk_un c, pk_un c]; exact cR j (by omega)
/-- a row to write, on both sides -/
theorem CH.wr {r w n m A L : Nat} {v v' : Nat → Int32} {f : Nat → Nat → Int32} {u : Nat → Int32} {g : Nat → Nat → Int32} (h : CH r w n m v f u g) (hr : r + w < 16) (hL : L = 0 ∨ A + L ≤ 4096) (hv : ∀ j : Nat, j ≠ 28 → j ≠ 36 → j ≠ 33 → v' j = v j) (h28 : v' 28 = nI (r + w + 1)) (h36 : v' 36 = nI (m + L)) (h33 : v' 33 = (if L = 0 then v 33 else nI (A + L - 1))) : CH r (w + 1) n (m + L) v' (RWC f (r + w) (nI A) (nI L)) (S_X9_keep u g (nI A) (nI L) 1).1 (S_X9_keep u g (nI A) (nI L) 1).2 := by
  obtain ⟨h0, ⟨a1, a2, a3, a4⟩, ⟨b1, b2, b3, b4⟩, hR, hW, cR, cW, hl⟩ := h
  have eS : (va_up (va_up g 34 (upd (g 34) w (nI A))) 35 (upd (g 35) w (nI L))) 35 = upd (g 35) w (nI L) := va_up_self _ _ _
  have eA : (va_up (va_up g 34 (upd (g 34) w (nI A))) 35 (upd (g 35) w (nI L))) 34 = upd (g 34) w (nI A) := by rw [va_up_ne _ _ (by decide), va_up_self]
  have e33 : (va_up g 34 (upd (g 34) w (nI A))) 35 = g 35 := va_up_ne _ _ (by decide)
  have e5 : (upd u 6 (nI (w + 1))) 7 = nI m := by rw [pk_un (by decide), b4]
  have hz : L ≤ 4096 := by omega
  have hW2 : SGF (upd (g 35) w (nI L)) (upd (g 34) w (nI A)) 0 w m := hW.cg (i := 0) (i' := 0) (fun j hj => by rw [Nat.zero_add]; exact ⟨pk_un (by omega), pk_un (by omega)⟩)
  unfold S_X9_keep RWC
  rw [if_neg (by decide), b3, nI_clamp (by omega), e33, nI_1, e5, nI_add]
  dsimp only
  refine ⟨by omega, ⟨?_, ?_, ?_, ?_⟩, ⟨?_, ?_, ?_, ?_⟩, ?_, ?_, fun j hj => ?_, fun j hj => ?_, fun q => ?_⟩
  · rw [h28]; rfl
  · rw [hv 29 (by decide) (by decide) (by decide), a2]
  · rw [hv 35 (by decide) (by decide) (by decide), a3]
  · exact h36
  · rw [pk_un (by decide), pk_un (by decide), b1]
  · rw [pk_un (by decide), pk_un (by decide), b2]
  · rw [pk_un (by decide), pk_us]
  · rw [pk_us]
  · rw [va_up_ne _ _ (by decide), va_up_ne _ _ (by decide), va_up_ne _ _ (by decide), va_up_ne _ _ (by decide)]; exact hR
  · rw [eS, eA]
    refine SGF.snoc (z := L) hW2 (by rw [Nat.zero_add, pk_us]) hz ?_
    rw [Nat.zero_add, pk_us]
    exact hL.imp _root_.id (fun q => ⟨A, rfl, q⟩)
  · simp (disch := omega) only [va_up_ne, va_up_self, pk_un]
    exact cR j hj
  · rw [eS, eA, va_up_self, va_up_ne _ _ (by decide), va_up_self]
    by_cases c : j = w
    · rw [c, pk_us, pk_us, pk_us, pk_us]; exact ⟨rfl, rfl⟩
    · simp (disch := omega) only [pk_un]; exact cW j (by omega)
  · rw [eS, eA, h33]
    by_cases c : L = 0
    · rw [if_pos c, show m + L - 1 = m - 1 by omega, PL_snoc1 hW2 (by omega), hl (by omega)]
      congr 1
      exact (PL_cg (i := 0) (i' := 0) (fun j hj => by rw [Nat.zero_add]; exact ⟨pk_un (by omega), pk_un (by omega)⟩)).symm
    · rw [if_neg c, show m + L - 1 = m + (L - 1) by omega, PL_snoc2 (z := L) hW2 (by rw [Nat.zero_add, pk_us]) hz (by omega), Nat.zero_add, pk_us, nI_clamp (by have := hL.resolve_left c; omega)]
      congr 1
      omega
theorem FRC.rd {v : Nat → Int32} {f : Nat → Nat → Int32} (r : Nat) (x y a b c : Int32) : FRC v f (upd (upd (upd v 28 a) 29 b) 35 c) (RWC f r x y) := ⟨fun j q1 q2 q3 q4 q5 => by rw [pk_un q4, pk_un q2, pk_un q1], fun j q1 q2 => by unfold RWC; rw [va_up_ne _ _ q2, va_up_ne _ _ q1]⟩
theorem FRC.wr {v v' : Nat → Int32} {f : Nat → Nat → Int32} (hv : ∀ j : Nat, j ≠ 28 → j ≠ 36 → j ≠ 33 → v' j = v j) (r : Nat) (x y : Int32) : FRC v f v' (RWC f r x y) := ⟨fun j q1 q2 q3 q4 q5 => hv j q1 q5 q3, fun j q1 q2 => by unfold RWC; rw [va_up_ne _ _ q2, va_up_ne _ _ q1]⟩
theorem FRM.kp (u : Nat → Int32) (g : Nat → Nat → Int32) (x y c : Int32) : FRM u g (S_X9_keep u g x y c).1 (S_X9_keep u g x y c).2 := by
  unfold S_X9_keep
  split
  · exact ⟨fun j q1 q2 q3 q4 q5 => by dsimp only; rw [pk_un q2, pk_un q1], fun j q1 q2 q3 q4 => by dsimp only; rw [va_up_ne _ _ q2, va_up_ne _ _ q1]⟩
  · exact ⟨fun j q1 q2 q3 q4 q5 => by dsimp only; rw [pk_un q4, pk_un q3], fun j q1 q2 q3 q4 => by dsimp only; rw [va_up_ne _ _ q4, va_up_ne _ _ q3]⟩
theorem keep8 (u : Nat → Int32) (g : Nat → Nat → Int32) (x y c : Int32) : (S_X9_keep u g x y c).1 8 = u 8 := by
  unfold S_X9_keep
  split
  · dsimp only; rw [pk_un (by decide), pk_un (by decide)]
  · dsimp only; rw [pk_un (by decide), pk_un (by decide)]
