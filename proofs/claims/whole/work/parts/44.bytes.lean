def WR (F : Nat → Int32) (p N : Nat) (B : Nat → Int32) : Nat → Int32 := fun k => if p ≤ k ∧ k < p + N then B (k - p) else F k
theorem WR_0 (F : Nat → Int32) (p : Nat) (B : Nat → Int32) : WR F p 0 B = F := funext fun k => if_neg (by omega)
theorem WR_s (F : Nat → Int32) (p n : Nat) (B : Nat → Int32) : upd (WR F p n B) (p + n) (B n) = WR F p (n + 1) B := by
  funext k
  unfold upd WR
  by_cases h : k = p + n
  · rw [if_pos h, if_pos (by omega), h, Nat.add_sub_cancel_left]
  · rw [if_neg h]
    by_cases h2 : p ≤ k ∧ k < p + n
    · rw [if_pos h2, if_pos (by omega)]
    · rw [if_neg h2, if_neg (by omega)]
theorem WR_in {F : Nat → Int32} {p N : Nat} {B : Nat → Int32} {k : Nat} (h : p ≤ k) (h2 : k < p + N) : WR F p N B k = B (k - p) := if_pos ⟨h, h2⟩
theorem WR_out {F : Nat → Int32} {p N : Nat} {B : Nat → Int32} {k : Nat} (h : k < p ∨ p + N ≤ k) : WR F p N B k = F k := if_neg (by omega)
theorem WR_B {F : Nat → Int32} {p N : Nat} {B B' : Nat → Int32} (h : ∀ i : Nat, i < N → B i = B' i) : WR F p N B = WR F p N B' := by
  funext k
  unfold WR
  by_cases h2 : p ≤ k ∧ k < p + N
  · rw [if_pos h2, if_pos h2, h _ (by omega)]
  · rw [if_neg h2, if_neg h2]
theorem up_up {α : Type} (f : Nat → α) (j : Nat) (x y : α) : va_up (va_up f j x) j y = va_up f j y := by
  funext k
  unfold va_up
  split <;> rfl
theorem up_id {α : Type} (f : Nat → α) (j : Nat) : va_up f j (f j) = f := by
  funext k
  unfold va_up
  split
  · rename_i h; rw [h]
  · rfl
def nB (x : Int32) : Int32 := vp_nar .byte (x.toInt8.toInt32)
theorem i8 {x y : Int32} (h : bt8 x = bt8 y) : x.toInt8 = y.toInt8 := by
  apply Int8.toBitVec_inj.mp
  rw [Int32.toBitVec_toInt8, Int32.toBitVec_toInt8]
  apply BitVec.eq_of_toNat_eq
  rw [BitVec.signExtend_eq_setWidth_of_le _ (by decide), BitVec.signExtend_eq_setWidth_of_le _ (by decide), BitVec.toNat_setWidth, BitVec.toNat_setWidth]
  exact h
theorem nB_c {x y : Int32} (h : bt8 x = bt8 y) : nB x = nB y := by unfold nB; rw [i8 h]
theorem bt8_n (n : Nat) : bt8 (nI n) = n % 256 := by
  show (n % 2 ^ 32) % 256 = n % 256
  omega
theorem bt8_add (a b : Int32) : bt8 (a + b) = (bt8 a + bt8 b) % 256 := by
  unfold bt8
  rw [Int32.toBitVec_add, BitVec.toNat_add]
  omega
theorem bt8_bt (x : Int32) : bt8 (x &&& 255) = bt8 x := by
  rw [bt8_and, bt8_n, Nat.mod_eq_of_lt (bt8_lt x)]
def b8 (n : Nat) : Int32 := nB (nI n)
theorem nB_b (x : Int32) : nB x = b8 (bt8 x) := nB_c (by rw [bt8_n, Nat.mod_eq_of_lt (bt8_lt x)])
/-- a byte that is kept is read back -/
theorem bt8_nB (x : Int32) : bt8 (nB x) = bt8 x := by
  have h1 : nB x = x.toInt8.toInt32 := by
    unfold nB vp_nar
    rw [pk_nb]
  rw [h1]
  unfold bt8
  rw [Int8.toBitVec_toInt32, Int32.toBitVec_toInt8, BitVec.signExtend_eq_setWidth_of_le x.toBitVec (by decide)]
  have h2 : ∀ y : BitVec 8, (y.signExtend 32).toNat % 256 = y.toNat := by decide +kernel
  rw [h2, BitVec.toNat_setWidth]
theorem sar {n k : Nat} (hn : n < 2 ^ 64) (hk : k ≤ 56) : ∃ m : Nat, m < 2 ^ 64 ∧ lN n >>> ((nI k).toInt64 &&& 63) = lN m ∧ m % 256 = n / 2 ^ k % 256 := by
  refine ⟨(lN n >>> ((nI k).toInt64 &&& 63)).toBitVec.toNat, BitVec.isLt _, wb_inj (by rw [wb_tb]; simp), ?_⟩
  rw [wb_c k (by omega), Int64.toBitVec_shiftRight, wb_tb, wb_tb, wb_sm k (by omega), BitVec.sshiftRight_eq', BitVec.toNat_ofNat, Nat.mod_eq_of_lt (show k < 2 ^ 64 by omega)]
  apply Nat.eq_of_testBit_eq
  intro i
  rw [show 256 = 2 ^ 8 from rfl, Nat.testBit_mod_two_pow, Nat.testBit_mod_two_pow]
  by_cases h : i < 8
  · rw [decide_eq_true h, Bool.true_and, Bool.true_and, BitVec.testBit_toNat, BitVec.getLsbD_sshiftRight, if_pos (by omega), decide_eq_false (by omega), Bool.not_false, Bool.true_and, BitVec.getLsbD, BitVec.toNat_ofNat, Nat.mod_eq_of_lt hn, Nat.testBit_div_two_pow, Nat.add_comm]
  · rw [decide_eq_false h, Bool.false_and, Bool.false_and]
/-- the byte i of a number -/
def bx (n i : Nat) : Int32 := b8 (n / 2 ^ (8 * i) % 256)
theorem put_cb (n i : Nat) (hn : n < 2 ^ 64) (hi : i < 8) : nB ((((((lN n).toUInt64 >>> (((8 * (nI i)) : Int32).toInt64.toUInt64 &&& Int64.toUInt64 63)).toInt64) : Int64).toInt32) &&& 255) = bx n i := by
  rw [show (8 : Int32) = nI 8 from rfl, pk_mul, wb_shr hn (by omega), lN_i]
  refine nB_c ?_
  rw [bt8_bt, bt8_n, bt8_n, Nat.mod_mod]
theorem put_mb (n i : Nat) (hn : n < 2 ^ 64) (hi : i < 8) : nB ((((lN n) >>> (((nI (8 * i)) : Int32).toInt64 &&& 63)) : Int64).toInt32) = bx n i := by
  obtain ⟨m, hm, e, h⟩ := sar hn (k := 8 * i) (by omega)
  rw [e, lN_i]
  refine nB_c ?_
  rw [bt8_n, bt8_n, Nat.mod_mod, h]
theorem set_C (v : Nat → Int32) (f : Nat → Nat → Int32) (p : Nat) (b : Int32) (hp : p < 4096) : S_X5_set v f (nI p) b = va_up f 2 (upd (f 2) p (nB b)) := by
  unfold S_X5_set
  rw [if_neg (nI_pos (by omega)), if_neg (show ¬ (4096 : Int32) ≤ nI p from nI_ge (b := 4096) hp (by decide)), nI_clamp (by omega)]
  rfl
/-- the class writes a number -/
theorem put_C (v : Nat → Int32) (f : Nat → Nat → Int32) (p n N : Nat) (hp : p + N ≤ 4096) (hN : N ≤ 8) (hn : n < 2 ^ 64) : S_X5_setNumber v f (nI p) (lN n) N = va_up f 2 (WR (f 2) p N (bx n)) := by
  have h : ∀ i : Nat, i ≤ N → L_X5_setNumber v f (nI p) (lN n) N i = va_up f 2 (WR (f 2) p i (bx n)) := by
    intro i
    induction i with
    | zero => intro _; rw [WR_0, up_id]; rfl
    | succ i ih =>
      intro hi
      rw [L_X5_setNumber, ih (by omega), nI_add, set_C _ _ _ _ (by omega), put_cb n i hn (by omega), va_up_self, WR_s, up_up]
  exact h N (Nat.le_refl N)
/-- the reference writes a number -/
theorem put_M (u : Nat → Int32) (g : Nat → Nat → Int32) (p n N : Nat) (hp : p + N ≤ 4096) (hN : N ≤ 8) (hn : n < 2 ^ 64) : S_X9_put u g (nI p) (lN n) N = va_up g 23 (WR (g 23) p N (bx n)) := by
  have h : ∀ i : Nat, i ≤ N → L_X9_put u g (nI p) (lN n) N i = va_up g 23 (WR (g 23) p i (bx n)) := by
    intro i
    induction i with
    | zero => intro _; rw [WR_0, up_id]; rfl
    | succ i ih =>
      intro hi
      have e := put_mb n i hn (by omega)
      unfold nB at e
      rw [L_X9_put, ih (by omega), nI_add, nI_clamp (by omega), e, va_up_self, WR_s, up_up]
  exact h N (Nat.le_refl N)
/-- the byte i of a pattern -/
def px (n i : Nat) : Nat := (n / 2 ^ (8 * (i % 8)) + i) % 256
theorem pat_C (v : Nat → Int32) (f : Nat → Nat → Int32) (n i : Nat) (hn : n < 2 ^ 64) (hi : i < 2 ^ 31) : S_X8_patternByte v f (lN n) (nI i) = nI (px n i) := by
  unfold S_X8_patternByte px
  rw [pk_andN (by omega) (m := 7) 3 rfl, show (8 : Int32) = nI 8 from rfl, pk_mul, show (2 : Nat) ^ 3 = 8 from rfl, wb_shr hn (by omega), lN_i, nI_add, bt8_and, bt8_n]
theorem pat_M (u : Nat → Int32) (g : Nat → Nat → Int32) (n i : Nat) (hn : n < 2 ^ 64) (hi : i < 2 ^ 31) : S_X9_frameByte u g (lN n) (nI i) = nI (px n i) := by
  unfold S_X9_frameByte px
  rw [show (8 : Int32) = nI 8 from rfl, pk_rem hi (by decide) (by decide), pk_mul]
  obtain ⟨m, hm, e, h⟩ := sar hn (k := 8 * (i % 8)) (by omega)
  rw [e, show (255 : Int64) = lN (2 ^ 8 - 1) from rfl, wb_mask hm (by decide), lN_i, nI_add, bt8_and, bt8_n, show (2 : Nat) ^ 8 = 256 from rfl, h]
  congr 1
  omega
