/-- n rows from i on, t bytes in all -/
def SGF (S A : Nat → Int32) : Nat → Nat → Nat → Prop
  | _, 0, t => t = 0
  | i, n + 1, t => ∃ z t' : Nat, S i = nI z ∧ z ≤ 4096 ∧ (z = 0 ∨ MA (A i) z) ∧ t = z + t' ∧ SGF S A (i + 1) n t'
/-- the place of the byte k -/
def PL (S A : Nat → Int32) : Nat → Nat → Nat → Nat
  | _, 0, _ => 0
  | i, n + 1, k => if k < (S i).toNatClampNeg then (A i).toNatClampNeg + k else PL S A (i + 1) n (k - (S i).toNatClampNeg)
theorem SGF.cg {S A S' A' : Nat → Int32} : ∀ {n i i' t : Nat}, SGF S A i n t → (∀ j : Nat, j < n → S' (i' + j) = S (i + j) ∧ A' (i' + j) = A (i + j)) → SGF S' A' i' n t
  | 0, _, _, _, h, _ => h
  | n + 1, i, i', t, ⟨z, t', e1, e2, e3, e4, e5⟩, hc => ⟨z, t', (hc 0 (by omega)).1.trans e1, e2, e3.imp _root_.id (fun h => by rw [show A' i' = A i from (hc 0 (by omega)).2]; exact h), e4, e5.cg (fun j hj => by have := hc (j + 1) (by omega); rw [show i' + (j + 1) = i' + 1 + j by omega, show i + (j + 1) = i + 1 + j by omega] at this; exact this)⟩
theorem PL_cg {S A S' A' : Nat → Int32} : ∀ {n i i' k : Nat}, (∀ j : Nat, j < n → S' (i' + j) = S (i + j) ∧ A' (i' + j) = A (i + j)) → PL S' A' i' n k = PL S A i n k
  | 0, _, _, _, _ => rfl
  | n + 1, i, i', k, hc => by
    rw [PL, PL, show S' i' = S i from (hc 0 (by omega)).1, show A' i' = A i from (hc 0 (by omega)).2]
    rw [PL_cg (n := n) (S := S) (A := A) (i := i + 1) (i' := i' + 1) (fun j hj => by have := hc (j + 1) (by omega); rw [show i' + (j + 1) = i' + 1 + j by omega, show i + (j + 1) = i + 1 + j by omega] at this; exact this)]
theorem SGF.snoc {S A : Nat → Int32} : ∀ {n i t z : Nat}, SGF S A i n t → S (i + n) = nI z → z ≤ 4096 → (z = 0 ∨ MA (A (i + n)) z) → SGF S A i (n + 1) (t + z)
  | 0, i, t, z, h, e1, e2, e3 => ⟨z, 0, e1, e2, e3, by rw [show t = 0 from h]; omega, rfl⟩
  | n + 1, i, t, z, ⟨y, t', f1, f2, f3, f4, f5⟩, e1, e2, e3 => ⟨y, t' + z, f1, f2, f3, by omega, f5.snoc (by rw [show i + 1 + n = i + (n + 1) by omega]; exact e1) e2 (by rw [show i + 1 + n = i + (n + 1) by omega]; exact e3)⟩
theorem SGF.le {S A : Nat → Int32} : ∀ {n i t : Nat}, SGF S A i n t → t ≤ 4096 * n
  | 0, _, t, h => by rw [show t = 0 from h]; omega
  | n + 1, i, t, ⟨z, t', e1, e2, e3, e4, e5⟩ => by have := e5.le; omega
theorem PL_s (S A : Nat → Int32) (i n k : Nat) : PL S A i (n + 1) k = if k < (S i).toNatClampNeg then (A i).toNatClampNeg + k else PL S A (i + 1) n (k - (S i).toNatClampNeg) := by rw [PL]
theorem PL_snoc1 {S A : Nat → Int32} : ∀ {n i t k : Nat}, SGF S A i n t → k < t → PL S A i (n + 1) k = PL S A i n k
  | 0, i, t, k, h, hk => by rw [show t = 0 from h] at hk; omega
  | n + 1, i, t, k, ⟨z, t', e1, e2, e3, e4, e5⟩, hk => by
    rw [PL_s S A i (n + 1), PL_s S A i n, e1, nI_clamp (by omega)]
    by_cases c : k < z
    · rw [if_pos c, if_pos c]
    · rw [if_neg c, if_neg c, PL_snoc1 e5 (by omega)]
theorem PL_snoc2 {S A : Nat → Int32} : ∀ {n i t z o : Nat}, SGF S A i n t → S (i + n) = nI z → z ≤ 4096 → o < z → PL S A i (n + 1) (t + o) = (A (i + n)).toNatClampNeg + o
  | 0, i, t, z, o, h, e, hz, ho => by
    rw [show t = 0 from h, PL, show S i = nI z from e, nI_clamp (by omega), if_pos (by omega), Nat.zero_add]; rfl
  | n + 1, i, t, z, o, ⟨y, t', e1, e2, e3, e4, e5⟩, e, hz, ho => by
    rw [PL, e1, nI_clamp (by omega), if_neg (by omega), show t + o - y = t' + o by omega, PL_snoc2 e5 (z := z) (by rw [show i + 1 + n = i + (n + 1) by omega]; exact e) hz ho, show i + 1 + n = i + (n + 1) by omega]
theorem PL_lt {S A : Nat → Int32} : ∀ {n i t k : Nat}, SGF S A i n t → k < t → PL S A i n k < 4096
  | 0, i, t, k, h, hk => by rw [show t = 0 from h] at hk; omega
  | n + 1, i, t, k, ⟨z, t', e1, e2, e3, e4, e5⟩, hk => by
    rw [PL, e1, nI_clamp (by omega)]
    by_cases c : k < z
    · rw [if_pos c]
      obtain ⟨p, ep, hp⟩ := e3.resolve_left (by omega)
      rw [ep, nI_clamp (by omega)]
      omega
    · rw [if_neg c]
      exact PL_lt e5 (by omega)
/-- the reference reads the byte k -/
theorem rb_M (u : Nat → Int32) (g : Nat → Nat → Int32) (a : Int32) : ∀ (n d i t k : Nat), SGF (g 33) (g 32) i n t → k < t → n < d → t < 2 ^ 31 → L_X9_readByte u g a d i (nI k) = nI (bt8 (g 23 (PL (g 33) (g 32) i n k))) := by
  intro n
  induction n with
  | zero => intro d i t k h hk; rw [show t = 0 from h] at hk; omega
  | succ n ih =>
    intro d i t k h hk hd ht
    obtain ⟨z, t', e1, e2, e3, e4, e5⟩ := h
    obtain ⟨d, rfl⟩ : ∃ e, d = e + 1 := ⟨d - 1, by omega⟩
    rw [L_X9_readByte, PL, e1, nI_clamp (by omega)]
    by_cases c : k < z
    · rw [if_pos ((nI_ltI (by omega) (by omega)).mpr c), if_pos c]
      obtain ⟨p, ep, hp⟩ := e3.resolve_left (by omega)
      rw [ep, nI_add, nI_clamp (by omega), nI_clamp (by omega), bt8_and]
    · rw [if_neg (fun q => c ((nI_ltI (by omega) (by omega)).mp q)), if_neg c, pk_sub (by omega)]
      exact ih d (i + 1) t' (k - z) e5 (by omega) (by omega) (by omega)
/-- the reference writes the byte k -/
theorem wb_M (u : Nat → Int32) (g : Nat → Nat → Int32) (a b : Int32) : ∀ (n d i t k : Nat), SGF (g 35) (g 34) i n t → k < t → n < d → t < 2 ^ 31 → L_X9_writeByte u g a b d i (nI k) = va_up g 23 (upd (g 23) (PL (g 35) (g 34) i n k) (nB b)) := by
  intro n
  induction n with
  | zero => intro d i t k h hk; rw [show t = 0 from h] at hk; omega
  | succ n ih =>
    intro d i t k h hk hd ht
    obtain ⟨z, t', e1, e2, e3, e4, e5⟩ := h
    obtain ⟨d, rfl⟩ : ∃ e, d = e + 1 := ⟨d - 1, by omega⟩
    rw [L_X9_writeByte, PL, e1, nI_clamp (by omega)]
    by_cases c : k < z
    · rw [if_pos ((nI_ltI (by omega) (by omega)).mpr c), if_pos c]
      obtain ⟨p, ep, hp⟩ := e3.resolve_left (by omega)
      rw [ep, nI_add, nI_clamp (by omega), nI_clamp (by omega)]
      rfl
    · rw [if_neg (fun q => c ((nI_ltI (by omega) (by omega)).mp q)), if_neg c, pk_sub (by omega)]
      exact ih d (i + 1) t' (k - z) e5 (by omega) (by omega) (by omega)
/-- the class's cursor stands before m bytes with the places P -/
def CU (f : Nat → Nat → Int32) (v : Nat → Int32) (P : Nat → Nat) (m : Nat) : Prop := ∃ p n o t : Nat, v 30 = nI p ∧ v 31 = nI (p + n) ∧ v 32 = nI o ∧ p + n ≤ 16 ∧ SGF (f 9) (f 8) p n t ∧ (o = 0 ∨ o ≤ (f 9 p).toNatClampNeg) ∧ t = o + m ∧ ∀ k : Nat, k < m → PL (f 9) (f 8) p n (o + k) = P k
def CF (v v' : Nat → Int32) : Prop := ∀ j : Nat, j ≠ 30 → j ≠ 31 → j ≠ 32 → v' j = v j
theorem CF.rfl' (v : Nat → Int32) : CF v v := fun _ _ _ _ => rfl
theorem CF.tr {a b c : Nat → Int32} (h1 : CF a b) (h2 : CF b c) : CF a c := fun j x y z => (h2 j x y z).trans (h1 j x y z)
theorem np_L (v0 : Nat → Int32) (f : Nat → Nat → Int32) : ∀ (n d p o t m : Nat) (v : Nat → Int32) (P : Nat → Nat), v 30 = nI p → v 31 = nI (p + n) → v 32 = nI o → p + n ≤ 16 → SGF (f 9) (f 8) p n t → (o = 0 ∨ o ≤ (f 9 p).toNatClampNeg) → t = o + (m + 1) → (∀ k : Nat, k < m + 1 → PL (f 9) (f 8) p n (o + k) = P k) → n < d → ∃ v' : Nat → Int32, L_X0_nextPlace v0 f d v = (nI (P 0), v') ∧ P 0 < 4096 ∧ CF v v' ∧ CU f v' (fun k => P (k + 1)) m := by
  intro n
  induction n with
  | zero => intro d p o t m v P h0 h1 h2 hp hS ho ht hP hd; rw [show t = 0 from hS] at ht; omega
  | succ n ih =>
    intro d p o t m v P h0 h1 h2 hp hS ho ht hP hd
    have hS0 := hS
    obtain ⟨z, t', e1, e2, e3, e4, e5⟩ := hS
    obtain ⟨d, rfl⟩ : ∃ e, d = e + 1 := ⟨d - 1, by omega⟩
    rw [e1, nI_clamp (by omega)] at ho
    rw [L_X0_nextPlace, h0, h1, h2, if_neg (nI_ge (by omega) (by omega)), if_neg (show ¬ (16 : Int32) ≤ nI p from nI_ge (b := 16) (by omega) (by decide)), nI_clamp (by omega), e1]
    by_cases c : z ≤ o
    · rw [if_pos ((nI_leI (by omega) (by omega)).mpr c)]
      have hoz : o = z := by omega
      obtain ⟨v', a1, a2, a3, a4⟩ := ih d (p + 1) 0 t' m (upd (upd v 30 (nI p + 1)) 32 0) P (by rw [pk_un (by decide), pk_us, nI_1]) (by rw [pk_un (by decide), pk_un (by decide), h1]; congr 1; omega) (by rw [pk_us]; rfl) (by omega) e5 (Or.inl rfl) (by omega) (fun k hk => by
        have := hP k hk
        rw [PL, e1, nI_clamp (by omega), if_neg (by omega), show o + k - z = k by omega] at this
        rw [Nat.zero_add]; exact this) (by omega)
      refine ⟨v', a1, a2, fun j x y z9 => ?_, a4⟩
      rw [a3 j x y z9, pk_un z9, pk_un x]
    · rw [if_neg (fun q => c ((nI_leI (by omega) (by omega)).mp q))]
      obtain ⟨b, eb, hb⟩ := e3.resolve_left (by omega)
      have hP0 := hP 0 (by omega)
      rw [PL, e1, nI_clamp (by omega), if_pos (by omega), eb, nI_clamp (by omega), Nat.add_zero] at hP0
      refine ⟨upd v 32 (nI o + 1), ?_, by omega, fun j x y z9 => pk_un z9, p, n + 1, o + 1, t, ?_, ?_, ?_, hp, hS0, ?_, by omega, fun k hk => ?_⟩
      · rw [pk_un (by decide), h0, nI_clamp (by omega), eb, nI_1, nI_add, ← hP0, show b + (o + 1) = (b + o) + 1 by omega, nI_pred]
      · rw [pk_un (by decide), h0]
      · rw [pk_un (by decide), h1]
      · rw [pk_us, nI_1]
      · rw [e1, nI_clamp (by omega)]; omega
      · have := hP (k + 1) (by omega)
        rw [show o + 1 + k = o + (k + 1) by omega]; exact this
theorem np_C {f : Nat → Nat → Int32} {v : Nat → Int32} {P : Nat → Nat} {m : Nat} (h : CU f v P (m + 1)) : ∃ v' : Nat → Int32, S_X0_nextPlace v f = (nI (P 0), v') ∧ P 0 < 4096 ∧ CF v v' ∧ CU f v' (fun k => P (k + 1)) m := by
  obtain ⟨p, n, o, t, h0, h1, h2, hp, hS, ho, ht, hP⟩ := h
  exact np_L v f n 17 p o t m v P h0 h1 h2 hp hS ho ht hP (by omega)
theorem CU.cg {f f' : Nat → Nat → Int32} {v : Nat → Int32} {P P' : Nat → Nat} {m : Nat} (h : CU f v P m) (h8 : f' 8 = f 8) (h9 : f' 9 = f 9) (hP : ∀ k : Nat, k < m → P k = P' k) : CU f' v P' m := by
  obtain ⟨p, n, o, t, a0, a1, a2, hp, hS, ho, ht, hP9⟩ := h
  exact ⟨p, n, o, t, a0, a1, a2, hp, by rw [h8, h9]; exact hS, by rw [h9]; exact ho, ht, fun k hk => by rw [h8, h9, hP9 k hk, hP k hk]⟩
/-- the class reads a byte -/
theorem nby_C {f : Nat → Nat → Int32} {v : Nat → Int32} {P : Nat → Nat} {m : Nat} (h : CU f v P (m + 1)) : ∃ v' : Nat → Int32, S_X0_nextByte v f = (nI (bt8 (f 2 (P 0))), v') ∧ P 0 < 4096 ∧ CF v v' ∧ CU f v' (fun k => P (k + 1)) m := by
  obtain ⟨v', e, h1, h2, h3⟩ := np_C h
  refine ⟨v', ?_, h1, h2, h3⟩
  unfold S_X0_nextByte Q_X0_nextByte_1
  rw [e, at_C _ _ _ h1]
/-- the class writes a byte -/
theorem pby_C {f : Nat → Nat → Int32} {v : Nat → Int32} {P : Nat → Nat} {m : Nat} (h : CU f v P (m + 1)) (b : Int32) : ∃ v' : Nat → Int32, S_X0_putByte v f b = (v', va_up f 2 (upd (f 2) (P 0) (nB b))) ∧ P 0 < 4096 ∧ CF v v' ∧ CU (va_up f 2 (upd (f 2) (P 0) (nB b))) v' (fun k => P (k + 1)) m := by
  obtain ⟨v', e, h1, h2, h3⟩ := np_C h
  refine ⟨v', ?_, h1, h2, h3.cg rfl rfl (fun _ _ => rfl)⟩
  unfold S_X0_putByte Q_X0_putByte_1
  rw [e, set_C _ _ _ _ h1]
theorem nby_k {f : Nat → Nat → Int32} {v : Nat → Int32} {P : Nat → Nat} {m k : Nat} (h : CU f v (fun j => P (k + j)) (m + 1)) : ∃ v' : Nat → Int32, S_X0_nextByte v f = (nI (bt8 (f 2 (P k))), v') ∧ P k < 4096 ∧ CF v v' ∧ CU f v' (fun j => P (k + 1 + j)) m := by
  obtain ⟨v', e, h1, h2, h3⟩ := nby_C h
  exact ⟨v', e, h1, h2, h3.cg rfl rfl (fun j _ => by show P (k + (j + 1)) = P (k + 1 + j); congr 1; omega)⟩
theorem pby_k {f : Nat → Nat → Int32} {v : Nat → Int32} {P : Nat → Nat} {m k : Nat} (h : CU f v (fun j => P (k + j)) (m + 1)) (b : Int32) : ∃ v' : Nat → Int32, S_X0_putByte v f b = (v', va_up f 2 (upd (f 2) (P k) (nB b))) ∧ P k < 4096 ∧ CF v v' ∧ CU (va_up f 2 (upd (f 2) (P k) (nB b))) v' (fun j => P (k + 1 + j)) m := by
  obtain ⟨v', e, h1, h2, h3⟩ := pby_C h b
  exact ⟨v', e, h1, h2, h3.cg rfl rfl (fun j _ => by show P (k + (j + 1)) = P (k + 1 + j); congr 1; omega)⟩
/-- skip -/
theorem sk_C {f : Nat → Nat → Int32} {v : Nat → Int32} {P : Nat → Nat} {k m : Nat} (N : Nat) (h : CU f v (fun j => P (k + j)) (m + N)) : CF v (S_X0_skip v f N) ∧ CU f (S_X0_skip v f N) (fun j => P (k + N + j)) m := by
  have h9 : ∀ i : Nat, i ≤ N → CF v (L_X0_skip v f N i) ∧ CU f (L_X0_skip v f N i) (fun j => P (k + i + j)) (m + (N - i)) := by
    intro i
    induction i with
    | zero => intro _; exact ⟨CF.rfl' v, by rw [L_X0_skip]; exact h⟩
    | succ i ih =>
      intro hi
      obtain ⟨i1, i2⟩ := ih (by omega)
      rw [show m + (N - i) = (m + (N - (i + 1))) + 1 by omega] at i2
      obtain ⟨v', e, h1, h2, h3⟩ := np_C i2
      rw [L_X0_skip, e]
      exact ⟨i1.tr h2, h3.cg rfl rfl (fun j _ => by show P (k + i + (j + 1)) = P (k + (i + 1) + j); congr 1; omega)⟩
  have := h9 N (Nat.le_refl N)
  rw [Nat.sub_self] at this
  exact this
/-- the class reads a number at its cursor -/
theorem nn_C {f : Nat → Nat → Int32} {v : Nat → Int32} {P : Nat → Nat} {k m : Nat} (N : Nat) (hN : N ≤ 8) (h : CU f v (fun j => P (k + j)) (m + N)) : (S_X0_nextNumber v f N).1 = lN (nb (fun j => f 2 (P (k + j))) 0 N) ∧ CF v (S_X0_nextNumber v f N).2 ∧ CU f (S_X0_nextNumber v f N).2 (fun j => P (k + N + j)) m := by
  have h9 : ∀ i : Nat, i ≤ N → (L_X0_nextNumber v f N i).1 = L_X5_number v (va_up f 2 (fun j => f 2 (P (k + j)))) (nI 0) N i ∧ CF v (L_X0_nextNumber v f N i).2 ∧ CU f (L_X0_nextNumber v f N i).2 (fun j => P (k + i + j)) (m + (N - i)) := by
    intro i
    induction i with
    | zero => intro _; rw [L_X0_nextNumber, L_X5_number]; exact ⟨rfl, CF.rfl' v, h⟩
    | succ i ih =>
      intro hi
      obtain ⟨i0, i1, i2⟩ := ih (by omega)
      rw [show m + (N - i) = (m + (N - (i + 1))) + 1 by omega] at i2
      obtain ⟨v', e, h1, h2, h3⟩ := nby_k (P := P) (k := k + i) i2
      rw [L_X0_nextNumber, L_X5_number, e, i0, nI_add, Nat.zero_add, at_C _ _ _ (by omega), va_up_self]
      exact ⟨rfl, i1.tr h2, h3⟩
  have h1 := h9 N (Nat.le_refl N)
  rw [Nat.sub_self] at h1
  unfold S_X0_nextNumber
  refine ⟨?_, h1.2⟩
  show (L_X0_nextNumber v f N N).1 = _
  rw [h1.1]
  have := num_C v (va_up f 2 (fun j => f 2 (P (k + j)))) 0 N (by omega) hN
  rw [va_up_self] at this
  exact this
/-- the reference reads a number of the chain -/
theorem rn_M (u : Nat → Int32) (g : Nat → Nat → Int32) {r n a N : Nat} (hr : r ≤ 16) (hS : SGF (g 33) (g 32) 0 r n) (ha : a + N ≤ n) (hN : N ≤ 8) : S_X9_readNumber u g (nI a) N = lN (nb (fun j => g 23 (PL (g 33) (g 32) 0 r (a + j))) 0 N) := by
  have hle := hS.le
  have h9 : ∀ (d i : Nat) (x : Int64), i ≤ N → L_X9_readNumber u g (nI a) N d i x = L_X9_number u (va_up g 23 (fun j => g 23 (PL (g 33) (g 32) 0 r (a + j)))) (nI 0) N d i x := by
    intro d
    induction d with
    | zero => intro i x _; rw [L_X9_readNumber, L_X9_number]
    | succ d ih =>
      intro i x hi
      rw [L_X9_readNumber, L_X9_number]
      by_cases c : kd i < 0
      · rw [if_pos c, if_pos c]
      · rw [if_neg c, if_neg c, ih (i - 1) _ (by omega)]
        match i, c, hi with
        | 0, c, _ => exact absurd (show kd 0 < 0 by decide) c
        | i + 1, c, hi =>
          unfold S_X9_readByte
          rw [show kd (i + 1) = nI i from rfl, nI_add, nI_add, rb_M u g _ r 21 0 n (a + i) hS (by omega) (by omega) (by omega), Nat.zero_add, nI_clamp (by omega), va_up_self, bt8_and]
  unfold S_X9_readNumber
  rw [h9 _ _ _ (Nat.le_refl N)]
  have := num_M u (va_up g 23 (fun j => g 23 (PL (g 33) (g 32) 0 r (a + j)))) 0 N (by omega) hN
  rw [va_up_self] at this
  exact this
