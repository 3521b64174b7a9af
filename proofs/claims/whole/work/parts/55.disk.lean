/-- what the class has read of a request -/
theorem an_rd {c r w n m : Nat} {v : Nat → Int32} {f : Nat → Nat → Int32} {u : Nat → Int32} {g : Nat → Nat → Int32} (h : SIM c v f u g) (hC : CH r w n m v f u g) (hn : 16 ≤ n) : ∃ T S : Nat, T < 2 ^ 32 ∧ S < 2 ^ 64 ∧ Q_X2_answer_1 v f = lN T ∧ Q_X2_answer_3 v f = lN S ∧ CF v (Q_X2_answer_4 v f) ∧ CU f (Q_X2_answer_4 v f) (fun j => PL (g 33) (g 32) 0 r (16 + j)) (n - 16) ∧ S_X9_readNumber u g 0 4 = lN T ∧ S_X9_readNumber u g 8 8 = lN S := by
  obtain ⟨k1, k2⟩ := hC.cr
  obtain ⟨h0, -, -, hR, -⟩ := hC
  have hle := hR.le
  rw [show n = (n - 4) + 4 by omega] at k1
  obtain ⟨x1, x2, x3⟩ := nn_C 4 (by decide) k1
  rw [show n - 4 = (n - 8) + 4 by omega] at x3
  obtain ⟨y1, y2⟩ := sk_C 4 x3
  rw [show n - 8 = (n - 16) + 8 by omega] at y2
  obtain ⟨z1, z2, z3⟩ := nn_C 8 (by decide) y2
  refine ⟨nb (fun j => f 2 (PL (g 33) (g 32) 0 r (0 + j))) 0 4, nb (fun j => f 2 (PL (g 33) (g 32) 0 r (0 + 4 + 4 + j))) 0 8, nb_lt _ _ 4, nb_lt _ _ 8, x1, z1, ((k2.tr x2).tr y1).tr z2, z3, ?_, ?_⟩
  · have := rn_M u g (a := 0) (N := 4) (by omega) hR (by omega) (by decide)
    rw [show (0 : Int32) = nI 0 from rfl, this]
    congr 1
    exact nb_cg (fun k hk => (h.mem _ (PL_lt hR (by omega))).symm)
  · have := rn_M u g (a := 8) (N := 8) (by omega) hR (by omega) (by decide)
    rw [show (8 : Int32) = nI 8 from rfl, this]
    congr 1
    exact nb_cg (fun k hk => (h.mem _ (PL_lt hR (by omega))).symm)
theorem CH.of {r w n m : Nat} {v v' : Nat → Int32} {f : Nat → Nat → Int32} {u : Nat → Int32} {g : Nat → Nat → Int32} (h : CH r w n m v f u g) (hv : CF v v') : CH r w n m v' f u g := h.cg (hv 28 (by decide) (by decide) (by decide)) (hv 29 (by decide) (by decide) (by decide)) (hv 33 (by decide) (by decide) (by decide)) (hv 35 (by decide) (by decide) (by decide)) (hv 36 (by decide) (by decide) (by decide)) rfl rfl rfl rfl rfl rfl rfl rfl rfl rfl
/-- the last byte of the chain, on both sides -/
theorem pl_C {r w n m : Nat} {v : Nat → Int32} {f : Nat → Nat → Int32} {u : Nat → Int32} {g : Nat → Nat → Int32} (hC : CH r w n m v f u g) (hm : 0 < m) (f' : Nat → Nat → Int32) (b : Int32) : S_X0_putLast v f' b = va_up f' 2 (upd (f' 2) (PL (g 35) (g 34) 0 w (m - 1)) (nB b)) := by
  obtain ⟨h0, -, -, -, hW, -, -, hl⟩ := hC
  unfold S_X0_putLast
  rw [hl hm, set_C _ _ _ _ (PL_lt hW (by omega))]
theorem EQ.up {F G : Nat → Int32} (h : EQ F G) (p : Nat) (b : Int32) : EQ (upd F p b) (upd G p b) := by
  intro k hk
  by_cases c : k = p
  · rw [c, pk_us, pk_us]
  · rw [pk_un c, pk_un c, h k hk]
theorem EQ.wb {F G : Nat → Int32} (h : EQ F G) (P : Nat → Nat) (B : Nat → Int32) (k : Nat) : EQ (WB F P B k) (WB G P B k) := fun p hp => WB_pt (h p hp) k
/-- just the result -/
theorem an_1 {c r w n m : Nat} {v v' : Nat → Int32} {f : Nat → Nat → Int32} {u : Nat → Int32} {g : Nat → Nat → Int32} (h : SIM c v f u g) (hC : CH r w n m v f u g) (hm : 0 < m) (hv : CF v v') {F G : Nat → Int32} (hE : EQ F G) (b : Int32) : SIM c v' (S_X0_putLast v' (va_up f 2 F) b) u (S_X9_writeByte u (va_up g 23 G) (nI (m - 1)) b) := by
  have hW := hC.2.2.2.2.1
  have h0 := hC.1
  rw [pl_C (hC.of hv) hm, w1_M (w := w) (m := m) (by rw [va_up_ne _ _ (by decide), va_up_ne _ _ (by decide)]; exact hW) (by omega) b (by omega), up_up, up_up, va_up_self, va_up_self, va_up_ne _ _ (by decide), va_up_ne _ _ (by decide)]
  exact (h.fr (v' := v') (f' := f) (u' := u) (g' := g) (fun j hj => hv j (by omega) (by omega) (by omega)) (fun _ _ => rfl) (fun _ _ _ _ _ => rfl) (fun _ _ _ _ => rfl) h.mem h.dsk).wr (hE.up _ _)
theorem an_10 {c r w n m : Nat} {v v' : Nat → Int32} {f : Nat → Nat → Int32} {u : Nat → Int32} {g : Nat → Nat → Int32} (h : SIM c v f u g) (hC : CH r w n m v f u g) (hm : 0 < m) (hv : CF v v') (b : Int32) : SIM c v' (S_X0_putLast v' f b) u (S_X9_writeByte u g (nI (m - 1)) b) := by
  have := an_1 h hC hm hv h.mem b
  rw [up_id, up_id] at this
  exact this
/-- blocks are read -/
theorem an_out {c r w n m S : Nat} {v v4 : Nat → Int32} {f : Nat → Nat → Int32} {u : Nat → Int32} {g : Nat → Nat → Int32} (h : SIM c v f u g) (hC : CH r w n m v f u g) (hm : 0 < m) (hv : CF v v4) (hS : m - 1 = 0 ∨ 64 * S + (m - 1) ≤ 2048) (hr : ((S_X9_readNumber u g 8 8) : Int64).toInt32 = nI S) : ∃ v' : Nat → Int32, ∃ F G : Nat → Int32, S_X2_copyOut v4 f (64 * nI S) = (nI (m - 1), v', va_up f 2 F) ∧ L_X9_doDisk3 u g (m - 1) = va_up g 23 G ∧ CF v v' ∧ EQ F G := by
  have hC4 := hC.of hv
  obtain ⟨cw, cv⟩ := hC4.cw
  have h36 : v4 36 = nI m := hC4.2.1.2.2.2
  have hW := hC.2.2.2.2.1
  have h0 := hC.1
  have hle := hW.le
  have e64 : (64 : Int32) * nI S = nI (64 * S) := by rw [show (64 : Int32) = nI 64 from rfl, pk_mul]
  have ez : nI m - 1 = nI (m - 1) := pk_sub (a := m) (b := 1) (by omega)
  rw [show m = 1 + (m - 1) by omega] at cw
  obtain ⟨v', a1, a2, a3⟩ := putrun cw (L_X2_copyOut v4 f (64 * nI S)) (fun i => nI (bt8 (f 11 (64 * S + i)))) (by rw [L_X2_copyOut]) (by
    intro i F v9 hi e
    rw [L_X2_copyOut, e]
    dsimp only
    have e9 : S_X2_at v9 (va_up f 2 F) (64 * nI S + nI i) = nI (bt8 (f 11 (64 * S + i))) := by
      unfold S_X2_at
      rw [e64, nI_add, if_neg (nI_pos (by omega)), if_neg (show ¬ (2048 : Int32) ≤ nI (64 * S + i) from nI_ge (b := 2048) (by omega) (by decide)), nI_clamp (by omega), va_up_ne _ _ (by decide), bt8_and]
    rw [e9]) (m - 1) (Nat.le_refl _)
  refine ⟨v', WB (f 2) (PL (g 35) (g 34) 0 w) (fun i => nI (bt8 (f 11 (64 * S + i)))) (m - 1), _, ?_, wrun (u := u) hW (by omega) (K := m - 1) (by omega) (L_X9_doDisk3 u g) (fun i => g 24 (64 * S + i)) (by rw [L_X9_doDisk3]) (by
    intro i G hi e
    rw [L_X9_doDisk3, e, hr, e64, nI_add, nI_clamp (by omega), va_up_ne _ _ (by decide)]) (m - 1) (Nat.le_refl _), (hv.tr cv).tr a2, ?_⟩
  · unfold S_X2_copyOut
    rw [h36, ez, nI_clamp (by omega), a1]
  · have e := EQ.wb h.mem (PL (g 35) (g 34) 0 w) (fun i => nI (bt8 (f 11 (64 * S + i)))) (m - 1)
    rw [WB_cg (F := g 23) (P' := PL (g 35) (g 34) 0 w) (B' := fun i => g 24 (64 * S + i)) (fun i hi => ⟨rfl, nB_c (by
      rw [bt8_n, Nat.mod_eq_of_lt (bt8_lt _), h.dsk _ (by omega)])⟩)] at e
    exact e
/-- the name -/
def nmB (i : Nat) : Int32 := if (5 : Int32) ≤ nI i then 0 else ((((([114, 105, 110, 103, 115] : List Int32).getD (nI i).toNatClampNeg 0) &&& 255) : Int32).toUInt32 % 65536).toInt32
def nmR (i : Nat) : Int32 := if nI i = 0 then 114 else if nI i = 1 then 105 else if nI i = 2 then 110 else if nI i = 3 then 103 else if nI i = 4 then 115 else 0
theorem nm_eq : ∀ i : Nat, i < 20 → nmB i = nmR i := by decide +kernel
theorem an_name {c r w n m K : Nat} {v v4 : Nat → Int32} {f : Nat → Nat → Int32} {u : Nat → Int32} {g : Nat → Nat → Int32} (h : SIM c v f u g) (hC : CH r w n m v f u g) (hm : 0 < m) (hv : CF v v4) (hK : K ≤ 20) (hK2 : K ≤ m - 1) (eK : (if (nI m - 1 : Int32) < 20 then nI m - 1 else 20) = nI K) : ∃ v' : Nat → Int32, ∃ F G : Nat → Int32, S_X2_tellName v4 f = (nI K, v', va_up f 2 F) ∧ L_X9_doDisk u g K = va_up g 23 G ∧ CF v v' ∧ EQ F G := by
  have hC4 := hC.of hv
  obtain ⟨cw, cv⟩ := hC4.cw
  have h36 : v4 36 = nI m := hC4.2.1.2.2.2
  have hW := hC.2.2.2.2.1
  have h0 := hC.1
  rw [show m = (m - K) + K by omega] at cw
  obtain ⟨v', a1, a2, a3⟩ := putrun cw (L_X2_tellName v4 f) nmB (by rw [L_X2_tellName]) (by
    intro i F v9 hi e
    rw [L_X2_tellName, e]
    dsimp only
    have e5 : S_J0_length_8abf5 v9 (va_up f 2 F) = 5 := by unfold S_J0_length_8abf5 S_J0_coder_7d493; decide
    rw [e5]
    unfold nmB
    by_cases c5 : (5 : Int32) ≤ nI i
    · rw [if_pos c5, if_pos c5]
    · rw [if_neg c5, if_neg c5]; rfl) K (Nat.le_refl _)
  refine ⟨v', WB (f 2) (PL (g 35) (g 34) 0 w) nmB K, _, ?_, wrun (u := u) hW (by omega) (K := K) (by omega) (L_X9_doDisk u g) nmR (by rw [L_X9_doDisk]) (by
    intro i G hi e
    rw [L_X9_doDisk, e]
    unfold nmR
    repeat' split
    all_goals rfl) K (Nat.le_refl _), (hv.tr cv).tr a2, ?_⟩
  · unfold S_X2_tellName
    rw [h36, eK, nI_clamp (by omega), a1]
  · have e := EQ.wb h.mem (PL (g 35) (g 34) 0 w) nmB K
    rw [WB_cg (F := g 23) (P' := PL (g 35) (g 34) 0 w) (B' := nmR) (fun i hi => ⟨rfl, by rw [nm_eq i (by omega)]⟩)] at e
    exact e
/-- blocks are written -/
theorem an_in {c r w n m S : Nat} {v v4 : Nat → Int32} {f : Nat → Nat → Int32} {u : Nat → Int32} {g : Nat → Nat → Int32} (h : SIM c v f u g) (hC : CH r w n m v f u g) (hn : 16 ≤ n) (hv : CF v v4) (hCU : CU f v4 (fun j => PL (g 33) (g 32) 0 r (16 + j)) (n - 16)) (hS : n - 16 = 0 ∨ 64 * S + (n - 16) ≤ 2048) (hr : ((S_X9_readNumber u g 8 8) : Int64).toInt32 = nI S) : ∃ v' : Nat → Int32, ∃ F G : Nat → Int32, S_X2_copyIn v4 f (64 * nI S) = (0, v', va_up f 11 F) ∧ L_X9_doDisk2 u g (n - 16) = va_up g 24 G ∧ CF v v' ∧ ∀ p : Nat, p < 2048 → F p = G p := by
  have hC4 := hC.of hv
  have h35 : v4 35 = nI n := hC4.2.1.2.2.1
  have hR := hC.2.2.2.1
  have h0 := hC.1
  have hle := hR.le
  have e64 : (64 : Int32) * nI S = nI (64 * S) := by rw [show (64 : Int32) = nI 64 from rfl, pk_mul]
  have ez : nI n - 16 = nI (n - 16) := pk_sub (a := n) (b := 16) (by omega)
  have hc : ∀ i : Nat, i ≤ n - 16 → ∃ v' : Nat → Int32, L_X2_copyIn v4 f (64 * nI S) i = (v', va_up f 11 (WB (f 11) (fun i => 64 * S + i) (fun i => nI (bt8 (g 23 (PL (g 33) (g 32) 0 r (16 + i))))) i)) ∧ CF v4 v' ∧ CU f v' (fun j => PL (g 33) (g 32) 0 r (16 + i + j)) (n - 16 - i) := by
    intro i
    induction i with
    | zero => intro _; exact ⟨v4, by rw [L_X2_copyIn, WB, up_id], CF.rfl' _, hCU⟩
    | succ i ih =>
      intro hi
      obtain ⟨v1, e1, e2, e3⟩ := ih (by omega)
      rw [show n - 16 - i = (n - 16 - (i + 1)) + 1 by omega] at e3
      have e3' := e3.cg (f' := va_up f 11 (WB (f 11) (fun i => 64 * S + i) (fun i => nI (bt8 (g 23 (PL (g 33) (g 32) 0 r (16 + i))))) i)) (va_up_ne _ _ (by decide)) (va_up_ne _ _ (by decide)) (fun _ _ => rfl)
      obtain ⟨v2, a1, a2, a3, a4⟩ := nby_k e3'
      rw [va_up_ne _ _ (by decide), h.mem _ a2] at a1
      refine ⟨v2, ?_, e2.tr a3, ?_⟩
      · rw [L_X2_copyIn, e1]
        dsimp only
        rw [a1, WB_s]
        dsimp only
        unfold S_X2_set
        rw [e64, nI_add, if_neg (nI_pos (by omega)), if_neg (show ¬ (2048 : Int32) ≤ nI (64 * S + i) from nI_ge (b := 2048) (by omega) (by decide)), nI_clamp (by omega), va_up_self, up_up]
        rfl
      · exact a4.cg (va_up_ne _ _ (by decide)).symm (va_up_ne _ _ (by decide)).symm (fun _ _ => rfl)
  obtain ⟨v', a1, a2, -⟩ := hc (n - 16) (Nat.le_refl _)
  have hd : ∀ i : Nat, i ≤ n - 16 → L_X9_doDisk2 u g i = va_up g 24 (WB (g 24) (fun i => 64 * S + i) (fun i => nI (bt8 (g 23 (PL (g 33) (g 32) 0 r (16 + i))))) i) := by
    intro i
    induction i with
    | zero => intro _; rw [L_X9_doDisk2, WB, up_id]
    | succ i ih =>
      intro hi
      rw [L_X9_doDisk2, ih (by omega), hr, e64, nI_add, nI_clamp (by omega), r1_M (r := r) (n := n) (by rw [va_up_ne _ _ (by decide), va_up_ne _ _ (by decide)]; exact hR) (by omega) (by omega), va_up_self, up_up, WB_s, va_up_ne _ _ (by decide), va_up_ne _ _ (by decide), va_up_ne _ _ (by decide)]
      rfl
  refine ⟨v', WB (f 11) (fun i => 64 * S + i) (fun i => nI (bt8 (g 23 (PL (g 33) (g 32) 0 r (16 + i))))) (n - 16), _, ?_, hd _ (Nat.le_refl _), hv.tr a2, fun p hp => WB_pt (h.dsk p hp) _⟩
  unfold S_X2_copyIn
  rw [h35, ez, nI_clamp (by omega), a1]
