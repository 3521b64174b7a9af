/-- how gather and take end, both alike -/
def OUT (v : Nat → Int32) (f : Nat → Nat → Int32) (u : Nat → Int32) (g : Nat → Nat → Int32) (q : Nat) (X Y : Int32 × (Nat → Int32) × (Nat → Nat → Int32)) : Prop := (∃ (v' : Nat → Int32) (f' : Nat → Nat → Int32) (u' : Nat → Int32) (g' : Nat → Nat → Int32), X = (0, v', f') ∧ Y = (0, upd u' 0 2, g') ∧ FRC v f v' f' ∧ FRM u g u' g') ∨ (∃ (v' : Nat → Int32) (f' : Nat → Nat → Int32) (u' : Nat → Int32) (g' : Nat → Nat → Int32) (r w n m : Nat), X = (1, v', f') ∧ Y = (1, u', va_up g' 29 (upd (g' 29) q ((g' 29 q + 1) &&& 65535))) ∧ FRC v f v' f' ∧ FRM u g u' g' ∧ CH r w n m v' f' u' g')
theorem OUT.tr {v0 v : Nat → Int32} {f0 f : Nat → Nat → Int32} {u0 u : Nat → Int32} {g0 g : Nat → Nat → Int32} {q : Nat} {X Y : Int32 × (Nat → Int32) × (Nat → Nat → Int32)} (h1 : FRC v0 f0 v f) (h2 : FRM u0 g0 u g) (h : OUT v f u g q X Y) : OUT v0 f0 u0 g0 q X Y := by
  rcases h with ⟨v', f', u', g', a1, a2, a3, a4⟩ | ⟨v', f', u', g', r, w, n, m, a1, a2, a3, a4, a5⟩
  · exact Or.inl ⟨v', f', u', g', a1, a2, h1.tr a3, h2.tr a4⟩
  · exact Or.inr ⟨v', f', u', g', r, w, n, m, a1, a2, h1.tr a3, h2.tr a4, a5⟩
theorem tk_bad (u0 : Nat → Int32) (g0 : Nat → Nat → Int32) (q d i : Nat) (tb mn num inT aW : Int32) (u : Nat → Int32) (g : Nat → Nat → Int32) : L_X9_take u0 g0 q (d + 1) i tb mn num inT aW 1 (upd u 8 1) g = (0, upd (upd u 8 1) 0 2, g) := by
  rw [L_X9_take, if_neg (by decide), if_neg (show ¬ (upd u 8 1) 8 = 0 by rw [pk_us]; decide)]
theorem tk_end (u0 : Nat → Int32) (g0 : Nat → Nat → Int32) (q d i : Nat) (tb mn num inT aW : Int32) (u : Nat → Int32) (g : Nat → Nat → Int32) (h : u 8 = 0) : L_X9_take u0 g0 q (d + 1) i tb mn num inT aW 0 u g = (1, u, va_up g 29 (upd (g 29) q ((g 29 q + 1) &&& 65535))) := by
  rw [L_X9_take, if_pos rfl, if_pos h]
theorem OUT.bad (v : Nat → Int32) (f : Nat → Nat → Int32) (u0 : Nat → Int32) (g0 : Nat → Nat → Int32) (q d i : Nat) (tb mn num inT aW : Int32) (u : Nat → Int32) (g : Nat → Nat → Int32) : OUT v f u g q (0, v, f) (L_X9_take u0 g0 q (d + 1) i tb mn num inT aW 1 (upd u 8 1) g) := by
  rw [tk_bad]
  exact Or.inl ⟨v, f, upd u 8 1, g, rfl, rfl, FRC.rf v f, fun j a b c d e => pk_un e, fun _ _ _ _ _ => rfl⟩
theorem tb_no {v : Nat → Int32} {f : Nat → Nat → Int32} {s p A L FL : Nat} (h28 : v 28 = nI s) (hs : s ≤ 16) (hA : A < 2 ^ 64) (hL : L < 2 ^ 32) (eA : S_X5_number v f (nI p) 8 = lN A) (eL : S_X5_number v f (nI p + 8) 4 = lN L) (h : s = 16 ∨ ¬ (nI FL &&& 1 = 0) ∨ ¬ (0 < L ∧ L ≤ 256 ∧ L % 16 = 0 ∧ A + L ≤ 4096)) : S_X0_isTable v f (nI p) (nI FL) = 0 := by
  unfold S_X0_isTable Q_X0_isTable_1
  rw [h28, eA, eL, lies_C v f hA hL, rem16L hL]
  by_cases c : s = 16
  · rw [if_pos (show (16 : Int32) ≤ nI s by rw [c]; decide)]
  · rw [if_neg (show ¬ (16 : Int32) ≤ nI s from nI_ge (b := 16) (by omega) (by decide))]
    by_cases c1 : nI FL &&& 1 = 0
    · have h2 := (h.resolve_left c).resolve_left (fun q => q c1)
      rw [if_pos c1]
      by_cases c2 : L = 0
      · rw [if_pos ((le0_iff hL).mpr c2)]
      · rw [if_neg (fun q => c2 ((le0_iff hL).mp q))]
        by_cases c3 : 256 < L
        · rw [if_pos ((gt256_iff hL).mpr c3)]
        · rw [if_neg (fun q => c3 ((gt256_iff hL).mp q))]
          by_cases c4 : L % 16 = 0
          · rw [if_pos ((eq0_iff (by omega)).mpr c4)]
            rw [if_neg (show ¬ A + L ≤ 4096 by omega), if_pos rfl]
          · rw [if_neg (fun q => c4 ((eq0_iff (by omega)).mp q))]
    · rw [if_neg c1]
theorem tb_ok {v : Nat → Int32} {f : Nat → Nat → Int32} {s p A L FL : Nat} (h28 : v 28 = nI s) (hs : s < 16) (hA : A < 2 ^ 64) (hL : L < 2 ^ 32) (eA : S_X5_number v f (nI p) 8 = lN A) (eL : S_X5_number v f (nI p + 8) 4 = lN L) (h1 : nI FL &&& 1 = 0) (h2 : 0 < L) (h3 : L ≤ 256) (h4 : L % 16 = 0) (h5 : A + L ≤ 4096) : S_X0_isTable v f (nI p) (nI FL) = 1 := by
  unfold S_X0_isTable Q_X0_isTable_1
  rw [h28, eA, eL, lies_C v f hA hL, rem16L hL, if_neg (show ¬ (16 : Int32) ≤ nI s from nI_ge (b := 16) (by omega) (by decide)), if_pos h1, if_neg (fun q => by have := (le0_iff hL).mp q; omega), if_neg (fun q => by have := (gt256_iff hL).mp q; omega), if_pos ((eq0_iff (by omega)).mpr h4), if_pos h5, if_neg (by decide)]
theorem lock (b : Int32) (u0 : Nat → Int32) (g0 : Nat → Nat → Int32) (q : Nat) : ∀ (d e i hop r w n m k B mN : Nat) (inT aW : Int32) (v : Nat → Int32) (f : Nat → Nat → Int32) (u : Nat → Int32) (g : Nat → Nat → Int32), CH r w n m v f u g → r + w + hop = i → hop ≤ 1 → (inT = 0 ↔ hop = 0) → EQ (f 2) (g 23) → u 8 = 0 → u 1 = b → k < 65536 → B + 16 * mN ≤ 4096 → (aW = 0 ↔ w = 0) → 18 ≤ i + d → 19 ≤ e + (r + w) + hop → OUT v f u g q (GG b d i (nI B) (nI mN) (nI k) inT v f) (L_X9_take u0 g0 q e (r + w) (nI B) (nI mN) (nI k) inT aW 1 u g) := by
  intro d
  induction d with
  | zero => intro e i hop r w n m k B mN inT aW v f u g hC hi hh; have := hC.1; omega
  | succ d ih =>
    intro e i hop r w n m k B mN inT aW v f u g hC hi hh hin hE h8 h1 hk hB haW hd he
    have hC0 := hC
    obtain ⟨h0, ⟨a1, a2, a3, a4⟩, ⟨b1, b2, b3, b4⟩, hR, hW, cR, cW, hl⟩ := hC
    obtain ⟨e, rfl⟩ : ∃ e', e = e' + 1 + 1 := ⟨e - 2, by omega⟩
    have bad := OUT.bad v f u0 g0 q e (r + w) (nI B) (nI mN) (nI k) inT aW u g
    rw [L_X9_take, if_neg (show ¬ (1 : Int32) = 0 by decide), if_pos h8]
    by_cases ck : mN ≤ k
    · rw [if_pos (nI_le ck (by omega)), GG, if_neg (nI_nlt ck (by omega))]
      split <;> exact bad
    · have hp : B + 16 * k + 16 ≤ 4096 := by omega
      have eP : nI B + 16 * nI k = nI (B + 16 * k) := by rw [show (16 : Int32) = nI 16 from rfl, pk_mul, nI_add]
      generalize hP : B + 16 * k = p at *
      rw [if_neg (nI_ge (by omega) (by omega))]
      have hA : nb (g 23) p 8 < 2 ^ 64 := nb_lt _ _ 8
      have hL : nb (g 23) (p + 8) 4 < 2 ^ 32 := nb_lt _ _ 4
      have hN : nb (g 23) (p + 14) 2 < 65536 := nb_lt _ _ 2
      have eFA : nb (f 2) p 8 = nb (g 23) p 8 := nb_cg (fun j hj => hE _ (by omega))
      have eFL : nb (f 2) (p + 8) 4 = nb (g 23) (p + 8) 4 := nb_cg (fun j hj => hE _ (by omega))
      have eFF : nb (f 2) (p + 12) 2 = nb (g 23) (p + 12) 2 := nb_cg (fun j hj => hE _ (by omega))
      have eFN : nb (f 2) (p + 14) 2 = nb (g 23) (p + 14) 2 := nb_cg (fun j hj => hE _ (by omega))
      have p8' : nI p + 8 = nI (p + 8) := nI_add p 8
      have p12 : nI p + 12 = nI (p + 12) := nI_add p 12
      have p14 : nI p + 14 = nI (p + 14) := nI_add p 14
      have cA : S_X5_number v f (nI p) 8 = lN (nb (g 23) p 8) := by rw [num_C _ _ _ _ (by omega) (by decide), eFA]
      have cL : S_X5_number v f (nI p + 8) 4 = lN (nb (g 23) (p + 8) 4) := by rw [p8', num_C _ _ _ _ (by omega) (by decide), eFL]
      have cF : S_X5_two v f (nI p + 12) = nI (nb (g 23) (p + 12) 2) := by rw [p12, two_C _ _ _ (by omega), eFF]
      have cN : ∀ (v' : Nat → Int32) (f' : Nat → Nat → Int32), f' 2 = f 2 → S_X5_two v' f' (nI p + 14) = nI (nb (g 23) (p + 14) 2) := fun v' f' h => by rw [p14, two_C _ _ _ (by omega), h, eFN]
      have mA : S_X9_number u g (nI p) 8 = lN (nb (g 23) p 8) := num_M _ _ _ _ (by omega) (by decide)
      have mL : S_X9_number u g (nI p + 8) 4 = lN (nb (g 23) (p + 8) 4) := by rw [p8', num_M _ _ _ _ (by omega) (by decide)]
      have mF : S_X9_number u g (nI p + 12) 2 = lN (nb (g 23) (p + 12) 2) := by rw [p12, num_M _ _ _ _ (by omega) (by decide)]
      have mN' : ∀ (u' : Nat → Int32) (g' : Nat → Nat → Int32), g' 23 = g 23 → S_X9_number u' g' (nI p + 14) 2 = lN (nb (g 23) (p + 14) 2) := fun u' g' h => by rw [p14, num_M _ _ _ _ (by omega) (by decide), h]
      generalize nb (g 23) p 8 = A at *
      generalize nb (g 23) (p + 8) 4 = L at *
      generalize nb (g 23) (p + 12) 2 = FL at *
      generalize nb (g 23) (p + 14) 2 = NX at *
      by_cases c16 : r + w = 16
      · rw [if_pos (show nI (r + w) = 16 by rw [c16]; rfl), GG, eP, cF, if_pos (nI_lt (by omega) (by omega))]
        rw [ap_no (b := 0) (s := 16) (r := r) (by omega) (by omega) (by rw [a1, c16]) a2 hA hL cA cL (Or.inl rfl), ap_no (b := 1) (s := 16) (r := r) (by omega) (by omega) (by rw [a1, c16]) a2 hA hL cA cL (Or.inl rfl), tb_no (s := 16) (by rw [a1, c16]) (by omega) hA hL cA cL (Or.inl rfl)]
        dsimp only
        repeat rw [if_pos rfl]
        repeat' split
        all_goals exact bad
      · have c15 : r + w < 16 := by omega
        rw [if_neg (show ¬ nI (r + w) = 16 from fun h => c16 ((nI_eq (b := 16) (by omega) (by decide)).mp h)), GG, eP, cF, if_neg (show ¬ (16 : Int32) < nI i from nI_nlt (b := i) (a := 16) (by omega) (by decide)), if_pos (nI_lt (by omega) (by omega))]
        have e8 : Q_X9_take_2 u0 g0 q (r + w) (nI B) (nI mN) (nI k) inT aW 1 u g = lN L := by unfold Q_X9_take_2; rw [eP, mL]
        have e4 : Q_X9_take_4 u0 g0 q (r + w) (nI B) (nI mN) (nI k) inT aW 1 u g = if nI FL &&& 4 = 0 then 0 else 1 := by unfold Q_X9_take_4 Q_X9_take_3; rw [eP, mF, lN_i]
        have e5 : Q_X9_take_5 u0 g0 q (r + w) (nI B) (nI mN) (nI k) inT aW 1 u g = if nI FL &&& 2 = 0 then 0 else 1 := by unfold Q_X9_take_5 Q_X9_take_3; rw [eP, mF, lN_i]
        have e6 : Q_X9_take_6 u0 g0 q (r + w) (nI B) (nI mN) (nI k) inT aW 1 u g = if nI FL &&& 1 = 0 then 0 else 1 := by unfold Q_X9_take_6 Q_X9_take_3; rw [eP, mF, lN_i]
        have e7 : Q_X9_take_7 u0 g0 q (r + w) (nI B) (nI mN) (nI k) inT aW 1 u g = if (L = 0 ∨ A + L ≤ 4096) then 1 else 0 := by
          unfold Q_X9_take_7
          rw [e8, eP, mA]
          by_cases c0 : L = 0
          · rw [if_pos ((eq0_iff hL).mpr c0), if_pos (Or.inl c0)]
          · rw [if_neg (fun h => c0 ((eq0_iff hL).mp h))]
            have hh2 := lies_iff hA hL
            by_cases c1 : lg_cmp (lN A) 0 < 0
            · rw [if_pos c1, if_neg (fun h => (hh2.mpr (h.resolve_left c0)).1 c1)]
            · rw [if_neg c1]
              by_cases c2 : 0 < lg_cmp (lN A) (4096 - lN L)
              · rw [if_pos c2, if_neg (fun h => (hh2.mpr (h.resolve_left c0)).2 c2)]
              · rw [if_neg c2, if_pos (Or.inr (hh2.mp ⟨c1, c2⟩))]
        by_cases cT : nI FL &&& 4 = 0
        · have e9 : Q_X9_take_8 u0 g0 q (r + w) (nI B) (nI mN) (nI k) inT aW 1 u g = 0 := by unfold Q_X9_take_8; rw [e4, if_pos cT, if_pos rfl]
          rw [if_pos e9, if_pos cT, e7]
          by_cases cL2 : L = 0 ∨ A + L ≤ 4096
          · rw [if_pos cL2, if_neg (show ¬ (1 : Int32) = 0 by decide), e5, e4, if_pos cT, if_pos rfl, if_pos rfl]
            have e10 : ∀ c : Int32, Q_X9_take_5 u0 g0 q (r + w) (nI B) (nI mN) (nI k) inT aW 1 u g = c → Q_X9_take_9 u0 g0 q (r + w) (nI B) (nI mN) (nI k) inT aW 1 u g = (S_X9_keep u g (nI A) (nI L) c).1 ∧ Q_X9_take_10 u0 g0 q (r + w) (nI B) (nI mN) (nI k) inT aW 1 u g = (S_X9_keep u g (nI A) (nI L) c).2 := by
              intro c hc
              unfold Q_X9_take_9 Q_X9_take_10
              rw [hc, e8, eP, mA, lN_i, lN_i]
              exact ⟨rfl, rfl⟩
            have e12 : ∀ c : Int32, Q_X9_take_5 u0 g0 q (r + w) (nI B) (nI mN) (nI k) inT aW 1 u g = c → Q_X9_take_12 u0 g0 q (r + w) (nI B) (nI mN) (nI k) inT aW 1 u g = lN NX := by
              intro c hc
              unfold Q_X9_take_12
              rw [(e10 c hc).1, (e10 c hc).2, eP]
              exact mN' _ _ ((FRM.kp u g _ _ _).2 23 (by decide) (by decide) (by decide) (by decide))
            by_cases cW2 : nI FL &&& 2 = 0
            · rw [if_pos cW2, if_pos cW2, if_pos rfl]
              rw [if_pos cW2] at e5
              rw [(e10 0 e5).1, (e10 0 e5).2, e12 0 e5, lN_i, e6]
              by_cases cw : w = 0
              · subst cw
                rw [if_pos (haW.mpr rfl), ap_rd (r := r) c15 a1 a2 a3 hA hL cA cL cL2]
                dsimp only
                rw [if_neg (show ¬ (1 : Int32) = 0 by decide)]
                have hC2 := hC0.rd c15 cL2
                have hF1 : FRC v f (upd (upd (upd v 28 (nI (r + 1))) 29 (nI (r + 1))) 35 (nI (n + L))) (RWC f r (nI A) (nI L)) := FRC.rd r _ _ _ _ _
                have hF2 := FRM.kp u g (nI A) (nI L) 0
                have h8' := keep8 u g (nI A) (nI L) 0
                by_cases cn : nI FL &&& 1 = 0
                · rw [if_pos cn, if_pos cn, tk_end _ _ _ _ _ _ _ _ _ _ _ _ (h8'.trans h8)]
                  exact Or.inr ⟨_, _, _, _, _, _, _, _, rfl, rfl, hF1, hF2, hC2⟩
                · rw [if_neg cn, if_neg cn, cN _ _ (hF1.2 2 (by decide) (by decide))]
                  refine OUT.tr hF1 hF2 (ih (e + 1) (i + 1) hop (r + 1) 0 _ _ NX B mN inT _ _ _ _ _ hC2 (by omega) hh hin ?_ (h8'.trans h8) ?_ hN hB ⟨fun _ => rfl, fun _ => rfl⟩ (by omega) (by omega))
                  · rw [hF1.2 2 (by decide) (by decide), hF2.2 23 (by decide) (by decide) (by decide) (by decide)]; exact hE
                  · rw [hF2.1 1 (by decide) (by decide) (by decide) (by decide) (by decide)]; exact h1
              · rw [if_neg (fun h => cw (haW.mp h)), ap_no (b := 0) (s := r + w) (r := r) (by omega) (by omega) a1 a2 hA hL cA cL (Or.inr (Or.inr ⟨rfl, by omega⟩))]
                dsimp only
                rw [if_pos rfl]
                exact bad
            · rw [if_neg cW2, if_neg cW2, if_neg (show ¬ (1 : Int32) = 0 by decide)]
              rw [if_neg cW2] at e5
              rw [(e10 1 e5).1, (e10 1 e5).2, e12 1 e5, lN_i, e6]
              obtain ⟨v', x1, x2, x3, x4, x5⟩ := ap_wr (m := m) c15 a1 a4 hA hL cA cL cL2
              rw [x1]
              dsimp only
              rw [if_neg (show ¬ (1 : Int32) = 0 by decide)]
              have hC2 := hC0.wr c15 cL2 x2 x3 x4 x5
              have hF1 : FRC v f v' (RWC f (r + w) (nI A) (nI L)) := FRC.wr x2 _ _ _
              have hF2 := FRM.kp u g (nI A) (nI L) 1
              have h8' := keep8 u g (nI A) (nI L) 1
              have e11 : Q_X9_take_11 u0 g0 q (r + w) (nI B) (nI mN) (nI k) inT aW 1 u g = 1 := by unfold Q_X9_take_11; split <;> rfl
              rw [e11]
              by_cases cn : nI FL &&& 1 = 0
              · rw [if_pos cn, if_pos cn, tk_end _ _ _ _ _ _ _ _ _ _ _ _ (h8'.trans h8)]
                exact Or.inr ⟨_, _, _, _, _, _, _, _, rfl, rfl, hF1, hF2, hC2⟩
              · rw [if_neg cn, if_neg cn, cN _ _ (hF1.2 2 (by decide) (by decide))]
                refine OUT.tr hF1 hF2 (ih (e + 1) (i + 1) hop r (w + 1) _ _ NX B mN inT _ _ _ _ _ hC2 (by omega) hh hin ?_ (h8'.trans h8) ?_ hN hB ⟨fun h => absurd h (by decide), fun h => by omega⟩ (by omega) (by omega))
                · rw [hF1.2 2 (by decide) (by decide), hF2.2 23 (by decide) (by decide) (by decide) (by decide)]; exact hE
                · rw [hF2.1 1 (by decide) (by decide) (by decide) (by decide) (by decide)]; exact h1
          · rw [if_neg cL2, if_pos rfl]
            rw [ap_no (b := 0) (s := r + w) (r := r) (by omega) (by omega) a1 a2 hA hL cA cL (Or.inr (Or.inl cL2)), ap_no (b := 1) (s := r + w) (r := r) (by omega) (by omega) a1 a2 hA hL cA cL (Or.inr (Or.inl cL2))]
            dsimp only
            repeat rw [if_pos rfl]
            split <;> exact bad
        · rw [if_neg cT]
          have e9 : Q_X9_take_8 u0 g0 q (r + w) (nI B) (nI mN) (nI k) inT aW 1 u g = if b = 0 then 1 else if nI FL &&& 1 = 0 then if inT = 0 then if L = 0 then 1 else if L % 16 = 0 then if L ≤ 256 then 0 else 1 else 1 else 1 else 1 := by
            unfold Q_X9_take_8
            rw [e4, if_neg cT, if_neg (show ¬ (1 : Int32) = 0 by decide), h1, e6, e8, rem16L hL]
            by_cases z1 : b = 0
            · rw [if_pos z1, if_pos z1]
            · rw [if_neg z1, if_neg z1]
              by_cases z2 : nI FL &&& 1 = 0
              · rw [if_pos z2, if_pos rfl, if_pos z2]
                by_cases z3 : inT = 0
                · rw [if_pos z3, if_pos z3]
                  by_cases z4 : L = 0
                  · rw [if_pos ((eq0_iff hL).mpr z4), if_pos z4]
                  · rw [if_neg (fun h => z4 ((eq0_iff hL).mp h)), if_neg z4]
                    by_cases z5 : L % 16 = 0
                    · rw [if_pos ((eq0_iff (by omega)).mpr z5), if_pos z5]
                      by_cases z6 : L ≤ 256
                      · rw [if_pos ((le256_iff hL).mpr z6), if_pos z6]
                      · rw [if_neg (fun h => z6 ((le256_iff hL).mp h)), if_neg z6]
                    · rw [if_neg (fun h => z5 ((eq0_iff (by omega)).mp h)), if_neg z5]
                · rw [if_neg z3, if_neg z3]
              · rw [if_neg z2, if_neg (show ¬ (1 : Int32) = 0 by decide), if_neg z2]
          rw [e9, e7]
          by_cases z1 : b = 0
          · rw [if_pos z1, if_pos z1, if_neg (show ¬ (1 : Int32) = 0 by decide)]
            exact bad
          · rw [if_neg z1, if_neg z1]
            by_cases z3 : inT = 0
            · rw [if_pos z3, if_pos z3]
              by_cases zz : (nI FL &&& 1 = 0) ∧ 0 < L ∧ L ≤ 256 ∧ L % 16 = 0 ∧ A + L ≤ 4096
              · obtain ⟨y1, y2, y3, y4, y5⟩ := zz
                rw [if_pos y1, if_neg (show ¬ L = 0 by omega), if_pos y4, if_pos y3, if_pos rfl, if_pos (Or.inr y5), if_neg (show ¬ (1 : Int32) = 0 by decide), tb_ok a1 c15 hA hL cA cL y1 y2 y3 y4 y5, if_neg (show ¬ (1 : Int32) = 0 by decide), cA, cL, e4, if_neg cT, if_neg (show ¬ (1 : Int32) = 0 by decide), if_neg (show ¬ (1 : Int32) = 0 by decide), e8, mA, lN_i, lN_i]
                have ed : lN L / 16 = lN (L / 16) := pk_lDiv (b := 16) (by omega) (by decide) (by decide)
                have ed2 : nI L / 16 = nI (L / 16) := pk_div (d := 16) (by omega) (by decide) (by decide)
                rw [ed, ed2, lN_i, show (0 : Int32) = nI 0 from rfl]
                have hr := ih (e + 1) (i + 1) (hop + 1) r w n m 0 A (L / 16) 1 aW v f u g hC0 (by omega) (by have := hin.mp z3; omega) ⟨fun h => absurd h (by decide), fun h => by omega⟩ hE h8 h1 (by omega) (by omega) haW (by omega) (by omega)
                split <;> exact hr
              · rw [tb_no (s := r + w) a1 (by omega) hA hL cA cL (by by_cases y1 : nI FL &&& 1 = 0
                                                                     · exact Or.inr (Or.inr (fun h => zz ⟨y1, h⟩))
                                                                     · exact Or.inr (Or.inl y1)), if_pos rfl]
                by_cases y1 : nI FL &&& 1 = 0
                · rw [if_pos y1]
                  by_cases y2 : L = 0
                  · rw [if_pos y2, if_neg (show ¬ (1 : Int32) = 0 by decide)]; exact bad
                  · rw [if_neg y2]
                    by_cases y4 : L % 16 = 0
                    · rw [if_pos y4]
                      by_cases y3 : L ≤ 256
                      · rw [if_pos y3, if_pos rfl, if_neg (show ¬ (L = 0 ∨ A + L ≤ 4096) from fun h => zz ⟨y1, by omega, y3, y4, h.resolve_left y2⟩), if_pos rfl]
                        exact bad
                      · rw [if_neg y3, if_neg (show ¬ (1 : Int32) = 0 by decide)]; exact bad
                    · rw [if_neg y4, if_neg (show ¬ (1 : Int32) = 0 by decide)]; exact bad
                · rw [if_neg y1, if_neg (show ¬ (1 : Int32) = 0 by decide)]; exact bad
            · rw [if_neg z3, if_neg z3]
              have : (if nI FL &&& 1 = 0 then (1 : Int32) else 1) = 1 := by split <;> rfl
              rw [this, if_neg (show ¬ (1 : Int32) = 0 by decide)]
              exact bad
