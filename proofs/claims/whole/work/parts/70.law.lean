/-- the script -/
def SXc (κ : KT) (b L : Nat) (xs : Nat → Int32) : Prop := match κ with
  | (p, l, e, R, s, m, args, below, meth, c, A, Q, ε0, nL0) => va_X b L xs s s.heap ∧ b < s.heap.size ∧ ¬ A b
section LAWR
variable {κ : KT} {ε : ET} {own : String} {cc : ByteArray} {nL : Nat} {ret : Option FieldType} {fr lo mc ms : Nat} {k n : Nat} {ω : va_W} {pc : Nat} {lv : List (Nat × Value)} {st : List Value}
theorem j_scl (C : CX κ ε own cc nL ret fr lo mc ms) {b L : Nat} {xs : Nat → Int32} (hX : SXc κ b L xs) (hd : decode cc pc = .ok (.arraylength, 1)) (h : JW κ k n ω (pc + 1) lv (.int (nI L) :: st)) : JW κ k n ω pc lv (.ref b :: st) := by
  obtain ⟨p, l, e, R, s, m, args, below, meth, c, A, Q, ε0, nL0⟩ := κ
  obtain ⟨⟨hx, hb, hml, hown, hts⟩, hr, hlk, hA, hG, hR, rfl, rfl⟩ := C
  obtain ⟨h1, h2, h3⟩ := hX
  intro H locs ls hP hD hS hl
  exact va_slen hx hb h1 h2 h3 hS hd (h H locs ls hP hD hS hl)
theorem j_scr (C : CX κ ε own cc nL ret fr lo mc ms) {b L : Nat} {xs : Nat → Int32} {q : Nat} (hX : SXc κ b L xs) (hd : decode cc pc = .ok (.iaload, 1)) (hq : q < L) (hL : L < 2 ^ 31) (h : JW κ k n ω (pc + 1) lv (.int (xs q) :: st)) : JW κ k n ω pc lv (.int (nI q) :: .ref b :: st) := by
  obtain ⟨p, l, e, R, s, m, args, below, meth, c, A, Q, ε0, nL0⟩ := κ
  obtain ⟨⟨hx, hb, hml, hown, hts⟩, hr, hlk, hA, hG, hR, rfl, rfl⟩ := C
  obtain ⟨h1, h2, h3⟩ := hX
  intro H locs ls hP hD hS hl
  refine va_sld hx hb h1 h2 h3 hS (vp_in_nI hq hL) hd ?_
  rw [nI_clamp (by omega)]
  exact h H locs ls hP hD hS hl
end LAWR
theorem nI6 {j : Nat} : nI (6 * j) + 6 = nI (6 * (j + 1)) := by
  rw [show (6 : Int32) = nI 6 from rfl, nI_add]
  rfl
set_option maxHeartbeats 8000000 in
set_option maxRecDepth 100000 in
theorem law_loop {κ : KT} {ε : ET} {ret : Option FieldType} {b L : Nat} {xs : Nat → Int32} (hL : L ≤ 3072) (C : CX κ ε RL cL_law 4 ret 12 448 43 15205) (hX : SXc κ b L xs) (ad : Nat → Nat) (hend : ∀ (v : Nat → Int32) (f : Nat → Nat → Int32) (u : Nat → Int32) (g : Nat → Nat → Int32) (lv : List (Nat × Value)), JW κ 43 15205 (WD ε ad v f u g) 752 lv []) :
    ∀ (d j : Nat) (v : Nat → Int32) (f : Nat → Nat → Int32) (u : Nat → Int32) (g : Nat → Nat → Int32), SIM j v f u g → 6 * j ≤ L → L < 6 * (j + d) + 6 → JW κ 43 15205 (WD ε ad v f u g) 18 [(3, .int (nI (6 * j))), (2, .ref (ad 22)), (1, .ref (ad 0)), (0, .ref b)] [] := by
  have hhead : ∀ (j : Nat) (v : Nat → Int32) (f : Nat → Nat → Int32) (u : Nat → Int32) (g : Nat → Nat → Int32), 6 * j ≤ L → (6 * j + 6 ≤ L → JW κ 43 15205 (WD ε ad v f u g) 27 [(3, .int (nI (6 * j))), (2, .ref (ad 22)), (1, .ref (ad 0)), (0, .ref b)] []) → JW κ 43 15205 (WD ε ad v f u g) 18 [(3, .int (nI (6 * j))), (2, .ref (ad 22)), (1, .ref (ad 0)), (0, .ref b)] [] := by
    intro j v f u g hj hb
    refine j_iload_n (i := 3) C dL_law_18 rfl 0 rfl ?_
    refine j_aload_n (i := 0) C dL_law_19 rfl 3 rfl ?_
    refine j_scl C hX dL_law_20 ?_
    refine j_bipush (x := 6) C dL_law_21 (by decide) ?_
    refine j_isub C dL_law_23 ?_
    refine j_icmp_gt (tgt := 752) C dL_law_24 (by decide) (fun _ => hend _ _ _ _ _) (fun c9 => ?_)
    refine hb ?_
    rw [Int32.lt_iff_toInt_lt, nI_toInt (by omega), show (6 : Int32) = nI 6 from rfl, pk_sub_toInt (by omega) (by omega)] at c9
    omega
  intro d
  induction d with
  | zero =>
    intro j v f u g hsim hj hd
    exact hhead j v f u g hj (fun h => by omega)
  | succ d ih =>
    intro j v f u g hsim hj hd
    refine hhead j v f u g hj (fun h6 => ?_)
    have hc5 : j + 1 ≤ 512 := by omega
    refine j_aload_n (i := 0) C dL_law_27 rfl 3 rfl ?_
    refine j_iload_n (i := 3) C dL_law_28 rfl 0 rfl ?_
    refine j_scr (q := (6 * j)) C hX dL_law_29 (by omega) (by omega) ?_
    refine j_bipush (x := 31) C dL_law_30 (by decide) ?_
    refine j_iand C dL_law_32 ?_
    by_cases c_1 : ((xs (6 * j)) &&& 31) = 0
    · refine j_tswIn (kv := 0) (off := 87) (tgt := 120) C dL_law_33 c_1 (by decide) (by decide) (by decide) (by decide) ?_
      refine j_aload_n (i := 1) C dL_law_120 rfl 2 rfl ?_
      refine j_aload_n (i := 0) C dL_law_121 rfl 3 rfl ?_
      refine j_iload_n (i := 3) C dL_law_122 rfl 0 rfl ?_
      refine j_iconst (x := 1) C dL_law_123 (by decide) ?_
      refine j_iaddN (a := (6 * j)) (b := 1) C dL_law_124 rfl rfl ?_
      refine j_scr (q := ((6 * j) + 1)) C hX dL_law_125 (by omega) (by omega) ?_
      refine j_if_eq (tgt := 133) C dL_law_126 (by decide) (fun c_2 => ?_) (fun c_2 => ?_)
      · refine j_iconst (x := 0) C dL_law_133 (by decide) ?_
        refine c_V (As := [.int 0]) (rest := []) (st1 := [.int ((S_X8_start v f 0).1)]) C (c_X8_start ε ad v f u g 0  (by first | exact Or.inl rfl | exact Or.inr rfl)) mv_X8_start lm_L_13 dL_law_134 0 wl_0 rfl rfl rfl (by decide) (Nat.le_of_ble_eq_true rfl) rfl ?_
        refine j_aload_n (i := 2) C dL_law_137 rfl 1 rfl ?_
        refine j_aload_n (i := 0) C dL_law_138 rfl 3 rfl ?_
        refine j_iload_n (i := 3) C dL_law_139 rfl 0 rfl ?_
        refine j_iconst (x := 1) C dL_law_140 (by decide) ?_
        refine j_iaddN (a := (6 * j)) (b := 1) C dL_law_141 rfl rfl ?_
        refine j_scr (q := ((6 * j) + 1)) C hX dL_law_142 (by omega) (by omega) ?_
        refine j_if_eq (tgt := 150) C dL_law_143 (by decide) (fun _ => ?_) (fun c9 => absurd c_2 c9)
        refine j_iconst (x := 0) C dL_law_150 (by decide) ?_
        refine c_V (As := [.int 0]) (rest := [.int ((S_X8_start v f 0).1)]) (st1 := [.int ((S_X9_start u g 0).1), .int ((S_X8_start v f 0).1)]) C (c_X9_start ε ad ((S_X8_start v f 0).2.1) ((S_X8_start v f 0).2.2) u g 0  (by first | exact Or.inl rfl | exact Or.inr rfl)) mv_X9_start lm_L_17 dL_law_151 22 wl_22 rfl rfl rfl (by decide) (Nat.le_of_ble_eq_true rfl) rfl ?_
        refine j_icmp_eq (tgt := 746) C dL_law_154 (by decide) (fun _ => ?_) (fun c9 => absurd (sim_start hsim hc5 0 (by first | exact Or.inl rfl | exact Or.inr rfl)).1 c9)
        refine j_iinc (y := ((nI (6 * j)) + 6)) (lv' := [(3, .int ((nI (6 * j)) + 6)), (2, .ref (ad 22)), (1, .ref (ad 0)), (0, .ref b)]) C dL_law_746 0 rfl rfl (by decide) rfl ?_
        refine j_goto (tgt := 18) C dL_law_749 (by decide) ?_
        refine j_lv (lv' := [(3, .int ((nI (6 * j)) + 6)), (2, .ref (ad 22)), (1, .ref (ad 0)), (0, .ref b)]) [0, 1, 2, 3] rfl ?_
        refine j_to (lv2 := [(3, .int (nI (6 * (j + 1)))), (2, .ref (ad 22)), (1, .ref (ad 0)), (0, .ref b)]) rfl (by rw [nI6]) rfl ?_
        exact ih (j + 1) ((S_X8_start v f 0).2.1) ((S_X8_start v f 0).2.2) ((S_X9_start u g 0).2.1) ((S_X9_start u g 0).2.2) (sim_start hsim hc5 0 (by first | exact Or.inl rfl | exact Or.inr rfl)).2 (by omega) (by omega)
      · refine j_iconst (x := 1) C dL_law_129 (by decide) ?_
        refine j_goto (tgt := 134) C dL_law_130 (by decide) ?_
        refine c_V (As := [.int 1]) (rest := []) (st1 := [.int ((S_X8_start v f 1).1)]) C (c_X8_start ε ad v f u g 1  (by first | exact Or.inl rfl | exact Or.inr rfl)) mv_X8_start lm_L_13 dL_law_134 0 wl_0 rfl rfl rfl (by decide) (Nat.le_of_ble_eq_true rfl) rfl ?_
        refine j_aload_n (i := 2) C dL_law_137 rfl 1 rfl ?_
        refine j_aload_n (i := 0) C dL_law_138 rfl 3 rfl ?_
        refine j_iload_n (i := 3) C dL_law_139 rfl 0 rfl ?_
        refine j_iconst (x := 1) C dL_law_140 (by decide) ?_
        refine j_iaddN (a := (6 * j)) (b := 1) C dL_law_141 rfl rfl ?_
        refine j_scr (q := ((6 * j) + 1)) C hX dL_law_142 (by omega) (by omega) ?_
        refine j_if_eq (tgt := 150) C dL_law_143 (by decide) (fun c9 => absurd c9 c_2) (fun _ => ?_)
        refine j_iconst (x := 1) C dL_law_146 (by decide) ?_
        refine j_goto (tgt := 151) C dL_law_147 (by decide) ?_
        refine c_V (As := [.int 1]) (rest := [.int ((S_X8_start v f 1).1)]) (st1 := [.int ((S_X9_start u g 1).1), .int ((S_X8_start v f 1).1)]) C (c_X9_start ε ad ((S_X8_start v f 1).2.1) ((S_X8_start v f 1).2.2) u g 1  (by first | exact Or.inl rfl | exact Or.inr rfl)) mv_X9_start lm_L_17 dL_law_151 22 wl_22 rfl rfl rfl (by decide) (Nat.le_of_ble_eq_true rfl) rfl ?_
        refine j_icmp_eq (tgt := 746) C dL_law_154 (by decide) (fun _ => ?_) (fun c9 => absurd (sim_start hsim hc5 1 (by first | exact Or.inl rfl | exact Or.inr rfl)).1 c9)
        refine j_iinc (y := ((nI (6 * j)) + 6)) (lv' := [(3, .int ((nI (6 * j)) + 6)), (2, .ref (ad 22)), (1, .ref (ad 0)), (0, .ref b)]) C dL_law_746 0 rfl rfl (by decide) rfl ?_
        refine j_goto (tgt := 18) C dL_law_749 (by decide) ?_
        refine j_lv (lv' := [(3, .int ((nI (6 * j)) + 6)), (2, .ref (ad 22)), (1, .ref (ad 0)), (0, .ref b)]) [0, 1, 2, 3] rfl ?_
        refine j_to (lv2 := [(3, .int (nI (6 * (j + 1)))), (2, .ref (ad 22)), (1, .ref (ad 0)), (0, .ref b)]) rfl (by rw [nI6]) rfl ?_
        exact ih (j + 1) ((S_X8_start v f 1).2.1) ((S_X8_start v f 1).2.2) ((S_X9_start u g 1).2.1) ((S_X9_start u g 1).2.2) (sim_start hsim hc5 1 (by first | exact Or.inl rfl | exact Or.inr rfl)).2 (by omega) (by omega)
    · by_cases c_3 : ((xs (6 * j)) &&& 31) = 1
      · refine j_tswIn (kv := 1) (off := 126) (tgt := 159) C dL_law_33 c_3 (by decide) (by decide) (by decide) (by decide) ?_
        refine j_aload_n (i := 1) C dL_law_159 rfl 2 rfl ?_
        refine j_aload_n (i := 0) C dL_law_160 rfl 3 rfl ?_
        refine j_iload_n (i := 3) C dL_law_161 rfl 0 rfl ?_
        refine j_iconst (x := 1) C dL_law_162 (by decide) ?_
        refine j_iaddN (a := (6 * j)) (b := 1) C dL_law_163 rfl rfl ?_
        refine j_scr (q := ((6 * j) + 1)) C hX dL_law_164 (by omega) (by omega) ?_
        refine j_if_eq (tgt := 172) C dL_law_165 (by decide) (fun c_4 => ?_) (fun c_4 => ?_)
        · refine j_iconst (x := 0) C dL_law_172 (by decide) ?_
          refine c_V (As := [.int 0]) (rest := []) (st1 := [.int ((S_X8_reset v f 0).1)]) C (c_X8_reset ε ad v f u g 0  (by first | exact Or.inl rfl | exact Or.inr rfl)) mv_X8_reset lm_L_18 dL_law_173 0 wl_0 rfl rfl rfl (by decide) (Nat.le_of_ble_eq_true rfl) rfl ?_
          refine j_aload_n (i := 2) C dL_law_176 rfl 1 rfl ?_
          refine j_aload_n (i := 0) C dL_law_177 rfl 3 rfl ?_
          refine j_iload_n (i := 3) C dL_law_178 rfl 0 rfl ?_
          refine j_iconst (x := 1) C dL_law_179 (by decide) ?_
          refine j_iaddN (a := (6 * j)) (b := 1) C dL_law_180 rfl rfl ?_
          refine j_scr (q := ((6 * j) + 1)) C hX dL_law_181 (by omega) (by omega) ?_
          refine j_if_eq (tgt := 189) C dL_law_182 (by decide) (fun _ => ?_) (fun c9 => absurd c_4 c9)
          refine j_iconst (x := 0) C dL_law_189 (by decide) ?_
          refine c_V (As := [.int 0]) (rest := [.int ((S_X8_reset v f 0).1)]) (st1 := [.int ((S_X9_reset u g 0).1), .int ((S_X8_reset v f 0).1)]) C (c_X9_reset ε ad ((S_X8_reset v f 0).2.1) ((S_X8_reset v f 0).2.2) u g 0  (by first | exact Or.inl rfl | exact Or.inr rfl)) mv_X9_reset lm_L_21 dL_law_190 22 wl_22 rfl rfl rfl (by decide) (Nat.le_of_ble_eq_true rfl) rfl ?_
          refine j_icmp_eq (tgt := 746) C dL_law_193 (by decide) (fun _ => ?_) (fun c9 => absurd (sim_reset hsim hc5 0 (by first | exact Or.inl rfl | exact Or.inr rfl)).1 c9)
          refine j_iinc (y := ((nI (6 * j)) + 6)) (lv' := [(3, .int ((nI (6 * j)) + 6)), (2, .ref (ad 22)), (1, .ref (ad 0)), (0, .ref b)]) C dL_law_746 0 rfl rfl (by decide) rfl ?_
          refine j_goto (tgt := 18) C dL_law_749 (by decide) ?_
          refine j_lv (lv' := [(3, .int ((nI (6 * j)) + 6)), (2, .ref (ad 22)), (1, .ref (ad 0)), (0, .ref b)]) [0, 1, 2, 3] rfl ?_
          refine j_to (lv2 := [(3, .int (nI (6 * (j + 1)))), (2, .ref (ad 22)), (1, .ref (ad 0)), (0, .ref b)]) rfl (by rw [nI6]) rfl ?_
          exact ih (j + 1) ((S_X8_reset v f 0).2.1) ((S_X8_reset v f 0).2.2) ((S_X9_reset u g 0).2.1) ((S_X9_reset u g 0).2.2) (sim_reset hsim hc5 0 (by first | exact Or.inl rfl | exact Or.inr rfl)).2 (by omega) (by omega)
        · refine j_iconst (x := 1) C dL_law_168 (by decide) ?_
          refine j_goto (tgt := 173) C dL_law_169 (by decide) ?_
          refine c_V (As := [.int 1]) (rest := []) (st1 := [.int ((S_X8_reset v f 1).1)]) C (c_X8_reset ε ad v f u g 1  (by first | exact Or.inl rfl | exact Or.inr rfl)) mv_X8_reset lm_L_18 dL_law_173 0 wl_0 rfl rfl rfl (by decide) (Nat.le_of_ble_eq_true rfl) rfl ?_
          refine j_aload_n (i := 2) C dL_law_176 rfl 1 rfl ?_
          refine j_aload_n (i := 0) C dL_law_177 rfl 3 rfl ?_
          refine j_iload_n (i := 3) C dL_law_178 rfl 0 rfl ?_
          refine j_iconst (x := 1) C dL_law_179 (by decide) ?_
          refine j_iaddN (a := (6 * j)) (b := 1) C dL_law_180 rfl rfl ?_
          refine j_scr (q := ((6 * j) + 1)) C hX dL_law_181 (by omega) (by omega) ?_
          refine j_if_eq (tgt := 189) C dL_law_182 (by decide) (fun c9 => absurd c9 c_4) (fun _ => ?_)
          refine j_iconst (x := 1) C dL_law_185 (by decide) ?_
          refine j_goto (tgt := 190) C dL_law_186 (by decide) ?_
          refine c_V (As := [.int 1]) (rest := [.int ((S_X8_reset v f 1).1)]) (st1 := [.int ((S_X9_reset u g 1).1), .int ((S_X8_reset v f 1).1)]) C (c_X9_reset ε ad ((S_X8_reset v f 1).2.1) ((S_X8_reset v f 1).2.2) u g 1  (by first | exact Or.inl rfl | exact Or.inr rfl)) mv_X9_reset lm_L_21 dL_law_190 22 wl_22 rfl rfl rfl (by decide) (Nat.le_of_ble_eq_true rfl) rfl ?_
          refine j_icmp_eq (tgt := 746) C dL_law_193 (by decide) (fun _ => ?_) (fun c9 => absurd (sim_reset hsim hc5 1 (by first | exact Or.inl rfl | exact Or.inr rfl)).1 c9)
          refine j_iinc (y := ((nI (6 * j)) + 6)) (lv' := [(3, .int ((nI (6 * j)) + 6)), (2, .ref (ad 22)), (1, .ref (ad 0)), (0, .ref b)]) C dL_law_746 0 rfl rfl (by decide) rfl ?_
          refine j_goto (tgt := 18) C dL_law_749 (by decide) ?_
          refine j_lv (lv' := [(3, .int ((nI (6 * j)) + 6)), (2, .ref (ad 22)), (1, .ref (ad 0)), (0, .ref b)]) [0, 1, 2, 3] rfl ?_
          refine j_to (lv2 := [(3, .int (nI (6 * (j + 1)))), (2, .ref (ad 22)), (1, .ref (ad 0)), (0, .ref b)]) rfl (by rw [nI6]) rfl ?_
          exact ih (j + 1) ((S_X8_reset v f 1).2.1) ((S_X8_reset v f 1).2.2) ((S_X9_reset u g 1).2.1) ((S_X9_reset u g 1).2.2) (sim_reset hsim hc5 1 (by first | exact Or.inl rfl | exact Or.inr rfl)).2 (by omega) (by omega)
      · by_cases c_5 : ((xs (6 * j)) &&& 31) = 2
        · refine j_tswIn (kv := 2) (off := 165) (tgt := 198) C dL_law_33 c_5 (by decide) (by decide) (by decide) (by decide) ?_
          refine j_aload_n (i := 1) C dL_law_198 rfl 2 rfl ?_
          refine j_aload_n (i := 0) C dL_law_199 rfl 3 rfl ?_
          refine j_iload_n (i := 3) C dL_law_200 rfl 0 rfl ?_
          refine j_iconst (x := 1) C dL_law_201 (by decide) ?_
          refine j_iaddN (a := (6 * j)) (b := 1) C dL_law_202 rfl rfl ?_
          refine j_scr (q := ((6 * j) + 1)) C hX dL_law_203 (by omega) (by omega) ?_
          refine j_aload_n (i := 0) C dL_law_204 rfl 3 rfl ?_
          refine j_iload_n (i := 3) C dL_law_205 rfl 0 rfl ?_
          refine j_iconst (x := 2) C dL_law_206 (by decide) ?_
          refine j_iaddN (a := (6 * j)) (b := 2) C dL_law_207 rfl rfl ?_
          refine j_scr (q := ((6 * j) + 2)) C hX dL_law_208 (by omega) (by omega) ?_
          refine j_aload_n (i := 0) C dL_law_209 rfl 3 rfl ?_
          refine j_iload_n (i := 3) C dL_law_210 rfl 0 rfl ?_
          refine j_iconst (x := 3) C dL_law_211 (by decide) ?_
          refine j_iaddN (a := (6 * j)) (b := 3) C dL_law_212 rfl rfl ?_
          refine j_scr (q := ((6 * j) + 3)) C hX dL_law_213 (by omega) (by omega) ?_
          refine j_aload_n (i := 0) C dL_law_214 rfl 3 rfl ?_
          refine j_iload_n (i := 3) C dL_law_215 rfl 0 rfl ?_
          refine j_iconst (x := 4) C dL_law_216 (by decide) ?_
          refine j_iaddN (a := (6 * j)) (b := 4) C dL_law_217 rfl rfl ?_
          refine j_scr (q := ((6 * j) + 4)) C hX dL_law_218 (by omega) (by omega) ?_
          refine j_aload_n (i := 0) C dL_law_219 rfl 3 rfl ?_
          refine j_iload_n (i := 3) C dL_law_220 rfl 0 rfl ?_
          refine j_iconst (x := 5) C dL_law_221 (by decide) ?_
          refine j_iaddN (a := (6 * j)) (b := 5) C dL_law_222 rfl rfl ?_
          refine j_scr (q := ((6 * j) + 5)) C hX dL_law_223 (by omega) (by omega) ?_
          refine c_V (As := [.int (xs ((6 * j) + 1)), .int (xs ((6 * j) + 2)), .int (xs ((6 * j) + 3)), .int (xs ((6 * j) + 4)), .int (xs ((6 * j) + 5))]) (rest := []) (st1 := [.int ((S_X8_queue v f (xs ((6 * j) + 1)) (xs ((6 * j) + 2)) (xs ((6 * j) + 3)) (xs ((6 * j) + 4)) (xs ((6 * j) + 5))).1)]) C (c_X8_queue ε ad v f u g (xs ((6 * j) + 1)) (xs ((6 * j) + 2)) (xs ((6 * j) + 3)) (xs ((6 * j) + 4)) (xs ((6 * j) + 5))  ) mv_X8_queue lm_L_22 dL_law_224 0 wl_0 rfl rfl rfl (by decide) (Nat.le_of_ble_eq_true rfl) rfl ?_
          refine j_aload_n (i := 2) C dL_law_227 rfl 1 rfl ?_
          refine j_aload_n (i := 0) C dL_law_228 rfl 3 rfl ?_
          refine j_iload_n (i := 3) C dL_law_229 rfl 0 rfl ?_
          refine j_iconst (x := 1) C dL_law_230 (by decide) ?_
          refine j_iaddN (a := (6 * j)) (b := 1) C dL_law_231 rfl rfl ?_
          refine j_scr (q := ((6 * j) + 1)) C hX dL_law_232 (by omega) (by omega) ?_
          refine j_aload_n (i := 0) C dL_law_233 rfl 3 rfl ?_
          refine j_iload_n (i := 3) C dL_law_234 rfl 0 rfl ?_
          refine j_iconst (x := 2) C dL_law_235 (by decide) ?_
          refine j_iaddN (a := (6 * j)) (b := 2) C dL_law_236 rfl rfl ?_
          refine j_scr (q := ((6 * j) + 2)) C hX dL_law_237 (by omega) (by omega) ?_
          refine j_aload_n (i := 0) C dL_law_238 rfl 3 rfl ?_
          refine j_iload_n (i := 3) C dL_law_239 rfl 0 rfl ?_
          refine j_iconst (x := 3) C dL_law_240 (by decide) ?_
          refine j_iaddN (a := (6 * j)) (b := 3) C dL_law_241 rfl rfl ?_
          refine j_scr (q := ((6 * j) + 3)) C hX dL_law_242 (by omega) (by omega) ?_
          refine j_aload_n (i := 0) C dL_law_243 rfl 3 rfl ?_
          refine j_iload_n (i := 3) C dL_law_244 rfl 0 rfl ?_
          refine j_iconst (x := 4) C dL_law_245 (by decide) ?_
          refine j_iaddN (a := (6 * j)) (b := 4) C dL_law_246 rfl rfl ?_
          refine j_scr (q := ((6 * j) + 4)) C hX dL_law_247 (by omega) (by omega) ?_
          refine j_aload_n (i := 0) C dL_law_248 rfl 3 rfl ?_
          refine j_iload_n (i := 3) C dL_law_249 rfl 0 rfl ?_
          refine j_iconst (x := 5) C dL_law_250 (by decide) ?_
          refine j_iaddN (a := (6 * j)) (b := 5) C dL_law_251 rfl rfl ?_
          refine j_scr (q := ((6 * j) + 5)) C hX dL_law_252 (by omega) (by omega) ?_
          refine c_V (As := [.int (xs ((6 * j) + 1)), .int (xs ((6 * j) + 2)), .int (xs ((6 * j) + 3)), .int (xs ((6 * j) + 4)), .int (xs ((6 * j) + 5))]) (rest := [.int ((S_X8_queue v f (xs ((6 * j) + 1)) (xs ((6 * j) + 2)) (xs ((6 * j) + 3)) (xs ((6 * j) + 4)) (xs ((6 * j) + 5))).1)]) (st1 := [.int ((S_X9_queue u g (xs ((6 * j) + 1)) (xs ((6 * j) + 2)) (xs ((6 * j) + 3)) (xs ((6 * j) + 4)) (xs ((6 * j) + 5))).1), .int ((S_X8_queue v f (xs ((6 * j) + 1)) (xs ((6 * j) + 2)) (xs ((6 * j) + 3)) (xs ((6 * j) + 4)) (xs ((6 * j) + 5))).1)]) C (c_X9_queue ε ad ((S_X8_queue v f (xs ((6 * j) + 1)) (xs ((6 * j) + 2)) (xs ((6 * j) + 3)) (xs ((6 * j) + 4)) (xs ((6 * j) + 5))).2) f u g (xs ((6 * j) + 1)) (xs ((6 * j) + 2)) (xs ((6 * j) + 3)) (xs ((6 * j) + 4)) (xs ((6 * j) + 5))  ) mv_X9_queue lm_L_26 dL_law_253 22 wl_22 rfl rfl rfl (by decide) (Nat.le_of_ble_eq_true rfl) rfl ?_
          refine j_icmp_eq (tgt := 746) C dL_law_256 (by decide) (fun _ => ?_) (fun c9 => absurd (sim_queue hsim hc5 (xs ((6 * j) + 1)) (xs ((6 * j) + 2)) (xs ((6 * j) + 3)) (xs ((6 * j) + 4)) (xs ((6 * j) + 5))).1 c9)
          refine j_iinc (y := ((nI (6 * j)) + 6)) (lv' := [(3, .int ((nI (6 * j)) + 6)), (2, .ref (ad 22)), (1, .ref (ad 0)), (0, .ref b)]) C dL_law_746 0 rfl rfl (by decide) rfl ?_
          refine j_goto (tgt := 18) C dL_law_749 (by decide) ?_
          refine j_lv (lv' := [(3, .int ((nI (6 * j)) + 6)), (2, .ref (ad 22)), (1, .ref (ad 0)), (0, .ref b)]) [0, 1, 2, 3] rfl ?_
          refine j_to (lv2 := [(3, .int (nI (6 * (j + 1)))), (2, .ref (ad 22)), (1, .ref (ad 0)), (0, .ref b)]) rfl (by rw [nI6]) rfl ?_
          exact ih (j + 1) ((S_X8_queue v f (xs ((6 * j) + 1)) (xs ((6 * j) + 2)) (xs ((6 * j) + 3)) (xs ((6 * j) + 4)) (xs ((6 * j) + 5))).2) f u ((S_X9_queue u g (xs ((6 * j) + 1)) (xs ((6 * j) + 2)) (xs ((6 * j) + 3)) (xs ((6 * j) + 4)) (xs ((6 * j) + 5))).2) (sim_queue hsim hc5 (xs ((6 * j) + 1)) (xs ((6 * j) + 2)) (xs ((6 * j) + 3)) (xs ((6 * j) + 4)) (xs ((6 * j) + 5))).2 (by omega) (by omega)
        · by_cases c_6 : ((xs (6 * j)) &&& 31) = 3
          · refine j_tswIn (kv := 3) (off := 228) (tgt := 261) C dL_law_33 c_6 (by decide) (by decide) (by decide) (by decide) ?_
            refine j_aload_n (i := 1) C dL_law_261 rfl 2 rfl ?_
            refine c_V (As := []) (rest := []) (st1 := [.int ((S_X8_run v f).1)]) C (c_X8_run ε ad v f u g   ) mv_X8_run lm_L_27 dL_law_262 0 wl_0 rfl rfl rfl (by decide) (Nat.le_of_ble_eq_true rfl) rfl ?_
            refine j_aload_n (i := 2) C dL_law_265 rfl 1 rfl ?_
            refine c_V (As := []) (rest := [.int ((S_X8_run v f).1)]) (st1 := [.int ((S_X9_run u g).1), .int ((S_X8_run v f).1)]) C (c_X9_run ε ad ((S_X8_run v f).2) f u g   ) mv_X9_run lm_L_31 dL_law_266 22 wl_22 rfl rfl rfl (by decide) (Nat.le_of_ble_eq_true rfl) rfl ?_
            refine j_icmp_eq (tgt := 746) C dL_law_269 (by decide) (fun _ => ?_) (fun c9 => absurd (sim_run hsim hc5 ).1 c9)
            refine j_iinc (y := ((nI (6 * j)) + 6)) (lv' := [(3, .int ((nI (6 * j)) + 6)), (2, .ref (ad 22)), (1, .ref (ad 0)), (0, .ref b)]) C dL_law_746 0 rfl rfl (by decide) rfl ?_
            refine j_goto (tgt := 18) C dL_law_749 (by decide) ?_
            refine j_lv (lv' := [(3, .int ((nI (6 * j)) + 6)), (2, .ref (ad 22)), (1, .ref (ad 0)), (0, .ref b)]) [0, 1, 2, 3] rfl ?_
            refine j_to (lv2 := [(3, .int (nI (6 * (j + 1)))), (2, .ref (ad 22)), (1, .ref (ad 0)), (0, .ref b)]) rfl (by rw [nI6]) rfl ?_
            exact ih (j + 1) ((S_X8_run v f).2) f ((S_X9_run u g).2) g (sim_run hsim hc5 ).2 (by omega) (by omega)
          · by_cases c_7 : ((xs (6 * j)) &&& 31) = 4
            · refine j_tswIn (kv := 4) (off := 241) (tgt := 274) C dL_law_33 c_7 (by decide) (by decide) (by decide) (by decide) ?_
              refine j_aload_n (i := 1) C dL_law_274 rfl 2 rfl ?_
              refine j_aload_n (i := 0) C dL_law_275 rfl 3 rfl ?_
              refine j_iload_n (i := 3) C dL_law_276 rfl 0 rfl ?_
              refine j_iconst (x := 1) C dL_law_277 (by decide) ?_
              refine j_iaddN (a := (6 * j)) (b := 1) C dL_law_278 rfl rfl ?_
              refine j_scr (q := ((6 * j) + 1)) C hX dL_law_279 (by omega) (by omega) ?_
              refine j_aload_n (i := 0) C dL_law_280 rfl 3 rfl ?_
              refine j_iload_n (i := 3) C dL_law_281 rfl 0 rfl ?_
              refine j_iconst (x := 2) C dL_law_282 (by decide) ?_
              refine j_iaddN (a := (6 * j)) (b := 2) C dL_law_283 rfl rfl ?_
              refine j_scr (q := ((6 * j) + 2)) C hX dL_law_284 (by omega) (by omega) ?_
              refine c_V (As := [.int (xs ((6 * j) + 1)), .int (xs ((6 * j) + 2))]) (rest := []) (st1 := [.int ((S_X8_poke v f (xs ((6 * j) + 1)) (xs ((6 * j) + 2))).1)]) C (c_X8_poke ε ad v f u g (xs ((6 * j) + 1)) (xs ((6 * j) + 2))  ) mv_X8_poke lm_L_32 dL_law_285 0 wl_0 rfl rfl rfl (by decide) (Nat.le_of_ble_eq_true rfl) rfl ?_
              refine j_aload_n (i := 2) C dL_law_288 rfl 1 rfl ?_
              refine j_aload_n (i := 0) C dL_law_289 rfl 3 rfl ?_
              refine j_iload_n (i := 3) C dL_law_290 rfl 0 rfl ?_
              refine j_iconst (x := 1) C dL_law_291 (by decide) ?_
              refine j_iaddN (a := (6 * j)) (b := 1) C dL_law_292 rfl rfl ?_
              refine j_scr (q := ((6 * j) + 1)) C hX dL_law_293 (by omega) (by omega) ?_
              refine j_aload_n (i := 0) C dL_law_294 rfl 3 rfl ?_
              refine j_iload_n (i := 3) C dL_law_295 rfl 0 rfl ?_
              refine j_iconst (x := 2) C dL_law_296 (by decide) ?_
              refine j_iaddN (a := (6 * j)) (b := 2) C dL_law_297 rfl rfl ?_
              refine j_scr (q := ((6 * j) + 2)) C hX dL_law_298 (by omega) (by omega) ?_
              refine c_V (As := [.int (xs ((6 * j) + 1)), .int (xs ((6 * j) + 2))]) (rest := [.int ((S_X8_poke v f (xs ((6 * j) + 1)) (xs ((6 * j) + 2))).1)]) (st1 := [.int ((S_X9_poke u g (xs ((6 * j) + 1)) (xs ((6 * j) + 2))).1), .int ((S_X8_poke v f (xs ((6 * j) + 1)) (xs ((6 * j) + 2))).1)]) C (c_X9_poke ε ad v ((S_X8_poke v f (xs ((6 * j) + 1)) (xs ((6 * j) + 2))).2) u g (xs ((6 * j) + 1)) (xs ((6 * j) + 2))  ) mv_X9_poke lm_L_36 dL_law_299 22 wl_22 rfl rfl rfl (by decide) (Nat.le_of_ble_eq_true rfl) rfl ?_
              refine j_icmp_eq (tgt := 746) C dL_law_302 (by decide) (fun _ => ?_) (fun c9 => absurd (sim_poke hsim hc5 (xs ((6 * j) + 1)) (xs ((6 * j) + 2))).1 c9)
              refine j_iinc (y := ((nI (6 * j)) + 6)) (lv' := [(3, .int ((nI (6 * j)) + 6)), (2, .ref (ad 22)), (1, .ref (ad 0)), (0, .ref b)]) C dL_law_746 0 rfl rfl (by decide) rfl ?_
              refine j_goto (tgt := 18) C dL_law_749 (by decide) ?_
              refine j_lv (lv' := [(3, .int ((nI (6 * j)) + 6)), (2, .ref (ad 22)), (1, .ref (ad 0)), (0, .ref b)]) [0, 1, 2, 3] rfl ?_
              refine j_to (lv2 := [(3, .int (nI (6 * (j + 1)))), (2, .ref (ad 22)), (1, .ref (ad 0)), (0, .ref b)]) rfl (by rw [nI6]) rfl ?_
              exact ih (j + 1) v ((S_X8_poke v f (xs ((6 * j) + 1)) (xs ((6 * j) + 2))).2) u ((S_X9_poke u g (xs ((6 * j) + 1)) (xs ((6 * j) + 2))).2) (sim_poke hsim hc5 (xs ((6 * j) + 1)) (xs ((6 * j) + 2))).2 (by omega) (by omega)
            · by_cases c_8 : ((xs (6 * j)) &&& 31) = 5
              · refine j_tswIn (kv := 5) (off := 274) (tgt := 307) C dL_law_33 c_8 (by decide) (by decide) (by decide) (by decide) ?_
                refine j_aload_n (i := 1) C dL_law_307 rfl 2 rfl ?_
                refine j_aload_n (i := 0) C dL_law_308 rfl 3 rfl ?_
                refine j_iload_n (i := 3) C dL_law_309 rfl 0 rfl ?_
                refine j_iconst (x := 1) C dL_law_310 (by decide) ?_
                refine j_iaddN (a := (6 * j)) (b := 1) C dL_law_311 rfl rfl ?_
                refine j_scr (q := ((6 * j) + 1)) C hX dL_law_312 (by omega) (by omega) ?_
                refine c_V (As := [.int (xs ((6 * j) + 1))]) (rest := []) (st1 := [.int (S_X8_peek v f (xs ((6 * j) + 1)))]) C (c_X8_peek ε ad v f u g (xs ((6 * j) + 1))  ) mv_X8_peek lm_L_37 dL_law_313 0 wl_0 rfl rfl rfl (by decide) (Nat.le_of_ble_eq_true rfl) rfl ?_
                refine j_aload_n (i := 2) C dL_law_316 rfl 1 rfl ?_
                refine j_aload_n (i := 0) C dL_law_317 rfl 3 rfl ?_
                refine j_iload_n (i := 3) C dL_law_318 rfl 0 rfl ?_
                refine j_iconst (x := 1) C dL_law_319 (by decide) ?_
                refine j_iaddN (a := (6 * j)) (b := 1) C dL_law_320 rfl rfl ?_
                refine j_scr (q := ((6 * j) + 1)) C hX dL_law_321 (by omega) (by omega) ?_
                refine c_V (As := [.int (xs ((6 * j) + 1))]) (rest := [.int (S_X8_peek v f (xs ((6 * j) + 1)))]) (st1 := [.int (S_X9_peek u g (xs ((6 * j) + 1))), .int (S_X8_peek v f (xs ((6 * j) + 1)))]) C (c_X9_peek ε ad v f u g (xs ((6 * j) + 1))  ) mv_X9_peek lm_L_41 dL_law_322 22 wl_22 rfl rfl rfl (by decide) (Nat.le_of_ble_eq_true rfl) rfl ?_
                refine j_icmp_eq (tgt := 746) C dL_law_325 (by decide) (fun _ => ?_) (fun c9 => absurd (sim_peek hsim hc5 (xs ((6 * j) + 1))).1 c9)
                refine j_iinc (y := ((nI (6 * j)) + 6)) (lv' := [(3, .int ((nI (6 * j)) + 6)), (2, .ref (ad 22)), (1, .ref (ad 0)), (0, .ref b)]) C dL_law_746 0 rfl rfl (by decide) rfl ?_
                refine j_goto (tgt := 18) C dL_law_749 (by decide) ?_
                refine j_lv (lv' := [(3, .int ((nI (6 * j)) + 6)), (2, .ref (ad 22)), (1, .ref (ad 0)), (0, .ref b)]) [0, 1, 2, 3] rfl ?_
                refine j_to (lv2 := [(3, .int (nI (6 * (j + 1)))), (2, .ref (ad 22)), (1, .ref (ad 0)), (0, .ref b)]) rfl (by rw [nI6]) rfl ?_
                exact ih (j + 1) v f u g (sim_peek hsim hc5 (xs ((6 * j) + 1))).2 (by omega) (by omega)
              · by_cases c_9 : ((xs (6 * j)) &&& 31) = 6
                · refine j_tswIn (kv := 6) (off := 297) (tgt := 330) C dL_law_33 c_9 (by decide) (by decide) (by decide) (by decide) ?_
                  refine j_aload_n (i := 1) C dL_law_330 rfl 2 rfl ?_
                  refine j_aload_n (i := 0) C dL_law_331 rfl 3 rfl ?_
                  refine j_iload_n (i := 3) C dL_law_332 rfl 0 rfl ?_
                  refine j_iconst (x := 1) C dL_law_333 (by decide) ?_
                  refine j_iaddN (a := (6 * j)) (b := 1) C dL_law_334 rfl rfl ?_
                  refine j_scr (q := ((6 * j) + 1)) C hX dL_law_335 (by omega) (by omega) ?_
                  refine c_V (As := [.int (xs ((6 * j) + 1))]) (rest := []) (st1 := [.int ((S_X8_step v f (xs ((6 * j) + 1))).1)]) C (c_X8_step ε ad v f u g (xs ((6 * j) + 1))  ) mv_X8_step lm_L_42 dL_law_336 0 wl_0 rfl rfl rfl (by decide) (Nat.le_of_ble_eq_true rfl) rfl ?_
                  refine j_aload_n (i := 2) C dL_law_339 rfl 1 rfl ?_
                  refine j_aload_n (i := 0) C dL_law_340 rfl 3 rfl ?_
                  refine j_iload_n (i := 3) C dL_law_341 rfl 0 rfl ?_
                  refine j_iconst (x := 1) C dL_law_342 (by decide) ?_
                  refine j_iaddN (a := (6 * j)) (b := 1) C dL_law_343 rfl rfl ?_
                  refine j_scr (q := ((6 * j) + 1)) C hX dL_law_344 (by omega) (by omega) ?_
                  refine c_V (As := [.int (xs ((6 * j) + 1))]) (rest := [.int ((S_X8_step v f (xs ((6 * j) + 1))).1)]) (st1 := [.int ((S_X9_step u g (xs ((6 * j) + 1))).1), .int ((S_X8_step v f (xs ((6 * j) + 1))).1)]) C (c_X9_step ε ad ((S_X8_step v f (xs ((6 * j) + 1))).2.1) ((S_X8_step v f (xs ((6 * j) + 1))).2.2) u g (xs ((6 * j) + 1))  hsim.minv) mv_X9_step lm_L_45 dL_law_345 22 wl_22 rfl rfl rfl (by decide) (Nat.le_of_ble_eq_true rfl) rfl ?_
                  refine j_icmp_eq (tgt := 746) C dL_law_348 (by decide) (fun _ => ?_) (fun c9 => absurd (sim_step hsim hc5 (xs ((6 * j) + 1))).1 c9)
                  refine j_iinc (y := ((nI (6 * j)) + 6)) (lv' := [(3, .int ((nI (6 * j)) + 6)), (2, .ref (ad 22)), (1, .ref (ad 0)), (0, .ref b)]) C dL_law_746 0 rfl rfl (by decide) rfl ?_
                  refine j_goto (tgt := 18) C dL_law_749 (by decide) ?_
                  refine j_lv (lv' := [(3, .int ((nI (6 * j)) + 6)), (2, .ref (ad 22)), (1, .ref (ad 0)), (0, .ref b)]) [0, 1, 2, 3] rfl ?_
                  refine j_to (lv2 := [(3, .int (nI (6 * (j + 1)))), (2, .ref (ad 22)), (1, .ref (ad 0)), (0, .ref b)]) rfl (by rw [nI6]) rfl ?_
                  exact ih (j + 1) ((S_X8_step v f (xs ((6 * j) + 1))).2.1) ((S_X8_step v f (xs ((6 * j) + 1))).2.2) ((S_X9_step u g (xs ((6 * j) + 1))).2.1) ((S_X9_step u g (xs ((6 * j) + 1))).2.2) (sim_step hsim hc5 (xs ((6 * j) + 1))).2 (by omega) (by omega)
                · by_cases c_10 : ((xs (6 * j)) &&& 31) = 7
                  · refine j_tswIn (kv := 7) (off := 320) (tgt := 353) C dL_law_33 c_10 (by decide) (by decide) (by decide) (by decide) ?_
                    refine j_aload_n (i := 1) C dL_law_353 rfl 2 rfl ?_
                    refine j_aload_n (i := 0) C dL_law_354 rfl 3 rfl ?_
                    refine j_iload_n (i := 3) C dL_law_355 rfl 0 rfl ?_
                    refine j_iconst (x := 1) C dL_law_356 (by decide) ?_
                    refine j_iaddN (a := (6 * j)) (b := 1) C dL_law_357 rfl rfl ?_
                    refine j_scr (q := ((6 * j) + 1)) C hX dL_law_358 (by omega) (by omega) ?_
                    refine j_aload_n (i := 0) C dL_law_359 rfl 3 rfl ?_
                    refine j_iload_n (i := 3) C dL_law_360 rfl 0 rfl ?_
                    refine j_iconst (x := 2) C dL_law_361 (by decide) ?_
                    refine j_iaddN (a := (6 * j)) (b := 2) C dL_law_362 rfl rfl ?_
                    refine j_scr (q := ((6 * j) + 2)) C hX dL_law_363 (by omega) (by omega) ?_
                    refine j_i2l C dL_law_364 ?_
                    refine j_bipush (x := 32) C dL_law_365 (by decide) ?_
                    refine j_lshl C dL_law_367 ?_
                    refine j_aload_n (i := 0) C dL_law_368 rfl 3 rfl ?_
                    refine j_iload_n (i := 3) C dL_law_369 rfl 0 rfl ?_
                    refine j_iconst (x := 3) C dL_law_370 (by decide) ?_
                    refine j_iaddN (a := (6 * j)) (b := 3) C dL_law_371 rfl rfl ?_
                    refine j_scr (q := ((6 * j) + 3)) C hX dL_law_372 (by omega) (by omega) ?_
                    refine j_i2l C dL_law_373 ?_
                    refine j_ldc2 C dL_law_374 ll_L_46 ?_
                    refine j_land C dL_law_377 ?_
                    refine j_lor C dL_law_378 ?_
                    refine c_V (As := [.int (xs ((6 * j) + 1)), .long (((((xs ((6 * j) + 2)) : Int32).toInt64) <<< ((32 : Int32).toInt64 &&& 63)) ||| ((((xs ((6 * j) + 3)) : Int32).toInt64) &&& 4294967295))]) (rest := []) (st1 := [.int ((S_X8_arrive v f (xs ((6 * j) + 1)) (((((xs ((6 * j) + 2)) : Int32).toInt64) <<< ((32 : Int32).toInt64 &&& 63)) ||| ((((xs ((6 * j) + 3)) : Int32).toInt64) &&& 4294967295))).1)]) C (c_X8_arrive ε ad v f u g (xs ((6 * j) + 1)) (((((xs ((6 * j) + 2)) : Int32).toInt64) <<< ((32 : Int32).toInt64 &&& 63)) ||| ((((xs ((6 * j) + 3)) : Int32).toInt64) &&& 4294967295))  ) mv_X8_arrive lm_L_48 dL_law_379 0 wl_0 rfl rfl rfl (by decide) (Nat.le_of_ble_eq_true rfl) rfl ?_
                    refine j_aload_n (i := 2) C dL_law_382 rfl 1 rfl ?_
                    refine j_aload_n (i := 0) C dL_law_383 rfl 3 rfl ?_
                    refine j_iload_n (i := 3) C dL_law_384 rfl 0 rfl ?_
                    refine j_iconst (x := 1) C dL_law_385 (by decide) ?_
                    refine j_iaddN (a := (6 * j)) (b := 1) C dL_law_386 rfl rfl ?_
                    refine j_scr (q := ((6 * j) + 1)) C hX dL_law_387 (by omega) (by omega) ?_
                    refine j_aload_n (i := 0) C dL_law_388 rfl 3 rfl ?_
                    refine j_iload_n (i := 3) C dL_law_389 rfl 0 rfl ?_
                    refine j_iconst (x := 2) C dL_law_390 (by decide) ?_
                    refine j_iaddN (a := (6 * j)) (b := 2) C dL_law_391 rfl rfl ?_
                    refine j_scr (q := ((6 * j) + 2)) C hX dL_law_392 (by omega) (by omega) ?_
                    refine j_i2l C dL_law_393 ?_
                    refine j_bipush (x := 32) C dL_law_394 (by decide) ?_
                    refine j_lshl C dL_law_396 ?_
                    refine j_aload_n (i := 0) C dL_law_397 rfl 3 rfl ?_
                    refine j_iload_n (i := 3) C dL_law_398 rfl 0 rfl ?_
                    refine j_iconst (x := 3) C dL_law_399 (by decide) ?_
                    refine j_iaddN (a := (6 * j)) (b := 3) C dL_law_400 rfl rfl ?_
                    refine j_scr (q := ((6 * j) + 3)) C hX dL_law_401 (by omega) (by omega) ?_
                    refine j_i2l C dL_law_402 ?_
                    refine j_ldc2 C dL_law_403 ll_L_46 ?_
                    refine j_land C dL_law_406 ?_
                    refine j_lor C dL_law_407 ?_
                    refine c_V (As := [.int (xs ((6 * j) + 1)), .long (((((xs ((6 * j) + 2)) : Int32).toInt64) <<< ((32 : Int32).toInt64 &&& 63)) ||| ((((xs ((6 * j) + 3)) : Int32).toInt64) &&& 4294967295))]) (rest := [.int ((S_X8_arrive v f (xs ((6 * j) + 1)) (((((xs ((6 * j) + 2)) : Int32).toInt64) <<< ((32 : Int32).toInt64 &&& 63)) ||| ((((xs ((6 * j) + 3)) : Int32).toInt64) &&& 4294967295))).1)]) (st1 := [.int ((S_X9_arrive u g (xs ((6 * j) + 1)) (((((xs ((6 * j) + 2)) : Int32).toInt64) <<< ((32 : Int32).toInt64 &&& 63)) ||| ((((xs ((6 * j) + 3)) : Int32).toInt64) &&& 4294967295))).1), .int ((S_X8_arrive v f (xs ((6 * j) + 1)) (((((xs ((6 * j) + 2)) : Int32).toInt64) <<< ((32 : Int32).toInt64 &&& 63)) ||| ((((xs ((6 * j) + 3)) : Int32).toInt64) &&& 4294967295))).1)]) C (c_X9_arrive ε ad ((S_X8_arrive v f (xs ((6 * j) + 1)) (((((xs ((6 * j) + 2)) : Int32).toInt64) <<< ((32 : Int32).toInt64 &&& 63)) ||| ((((xs ((6 * j) + 3)) : Int32).toInt64) &&& 4294967295))).2.1) ((S_X8_arrive v f (xs ((6 * j) + 1)) (((((xs ((6 * j) + 2)) : Int32).toInt64) <<< ((32 : Int32).toInt64 &&& 63)) ||| ((((xs ((6 * j) + 3)) : Int32).toInt64) &&& 4294967295))).2.2) u g (xs ((6 * j) + 1)) (((((xs ((6 * j) + 2)) : Int32).toInt64) <<< ((32 : Int32).toInt64 &&& 63)) ||| ((((xs ((6 * j) + 3)) : Int32).toInt64) &&& 4294967295))  hsim.minv) mv_X9_arrive lm_L_52 dL_law_408 22 wl_22 rfl rfl rfl (by decide) (Nat.le_of_ble_eq_true rfl) rfl ?_
                    refine j_icmp_eq (tgt := 746) C dL_law_411 (by decide) (fun _ => ?_) (fun c9 => absurd (sim_arrive hsim hc5 (xs ((6 * j) + 1)) (((((xs ((6 * j) + 2)) : Int32).toInt64) <<< ((32 : Int32).toInt64 &&& 63)) ||| ((((xs ((6 * j) + 3)) : Int32).toInt64) &&& 4294967295))).1 c9)
                    refine j_iinc (y := ((nI (6 * j)) + 6)) (lv' := [(3, .int ((nI (6 * j)) + 6)), (2, .ref (ad 22)), (1, .ref (ad 0)), (0, .ref b)]) C dL_law_746 0 rfl rfl (by decide) rfl ?_
                    refine j_goto (tgt := 18) C dL_law_749 (by decide) ?_
                    refine j_lv (lv' := [(3, .int ((nI (6 * j)) + 6)), (2, .ref (ad 22)), (1, .ref (ad 0)), (0, .ref b)]) [0, 1, 2, 3] rfl ?_
                    refine j_to (lv2 := [(3, .int (nI (6 * (j + 1)))), (2, .ref (ad 22)), (1, .ref (ad 0)), (0, .ref b)]) rfl (by rw [nI6]) rfl ?_
                    exact ih (j + 1) ((S_X8_arrive v f (xs ((6 * j) + 1)) (((((xs ((6 * j) + 2)) : Int32).toInt64) <<< ((32 : Int32).toInt64 &&& 63)) ||| ((((xs ((6 * j) + 3)) : Int32).toInt64) &&& 4294967295))).2.1) ((S_X8_arrive v f (xs ((6 * j) + 1)) (((((xs ((6 * j) + 2)) : Int32).toInt64) <<< ((32 : Int32).toInt64 &&& 63)) ||| ((((xs ((6 * j) + 3)) : Int32).toInt64) &&& 4294967295))).2.2) ((S_X9_arrive u g (xs ((6 * j) + 1)) (((((xs ((6 * j) + 2)) : Int32).toInt64) <<< ((32 : Int32).toInt64 &&& 63)) ||| ((((xs ((6 * j) + 3)) : Int32).toInt64) &&& 4294967295))).2.1) ((S_X9_arrive u g (xs ((6 * j) + 1)) (((((xs ((6 * j) + 2)) : Int32).toInt64) <<< ((32 : Int32).toInt64 &&& 63)) ||| ((((xs ((6 * j) + 3)) : Int32).toInt64) &&& 4294967295))).2.2) (sim_arrive hsim hc5 (xs ((6 * j) + 1)) (((((xs ((6 * j) + 2)) : Int32).toInt64) <<< ((32 : Int32).toInt64 &&& 63)) ||| ((((xs ((6 * j) + 3)) : Int32).toInt64) &&& 4294967295))).2 (by omega) (by omega)
                  · by_cases c_11 : ((xs (6 * j)) &&& 31) = 8
                    · refine j_tswIn (kv := 8) (off := 383) (tgt := 416) C dL_law_33 c_11 (by decide) (by decide) (by decide) (by decide) ?_
                      refine j_aload_n (i := 1) C dL_law_416 rfl 2 rfl ?_
                      refine j_aload_n (i := 0) C dL_law_417 rfl 3 rfl ?_
                      refine j_iload_n (i := 3) C dL_law_418 rfl 0 rfl ?_
                      refine j_iconst (x := 1) C dL_law_419 (by decide) ?_
                      refine j_iaddN (a := (6 * j)) (b := 1) C dL_law_420 rfl rfl ?_
                      refine j_scr (q := ((6 * j) + 1)) C hX dL_law_421 (by omega) (by omega) ?_
                      refine c_V (As := [.int (xs ((6 * j) + 1))]) (rest := []) (st1 := [.int ((S_X8_read v f (xs ((6 * j) + 1))).1)]) C (c_X8_read ε ad v f u g (xs ((6 * j) + 1))  ) mv_X8_read lm_L_53 dL_law_422 0 wl_0 rfl rfl rfl (by decide) (Nat.le_of_ble_eq_true rfl) rfl ?_
                      refine j_aload_n (i := 2) C dL_law_425 rfl 1 rfl ?_
                      refine j_aload_n (i := 0) C dL_law_426 rfl 3 rfl ?_
                      refine j_iload_n (i := 3) C dL_law_427 rfl 0 rfl ?_
                      refine j_iconst (x := 1) C dL_law_428 (by decide) ?_
                      refine j_iaddN (a := (6 * j)) (b := 1) C dL_law_429 rfl rfl ?_
                      refine j_scr (q := ((6 * j) + 1)) C hX dL_law_430 (by omega) (by omega) ?_
                      refine c_V (As := [.int (xs ((6 * j) + 1))]) (rest := [.int ((S_X8_read v f (xs ((6 * j) + 1))).1)]) (st1 := [.int ((S_X9_read u g (xs ((6 * j) + 1))).1), .int ((S_X8_read v f (xs ((6 * j) + 1))).1)]) C (c_X9_read ε ad ((S_X8_read v f (xs ((6 * j) + 1))).2.1) ((S_X8_read v f (xs ((6 * j) + 1))).2.2) u g (xs ((6 * j) + 1))  hsim.minv) mv_X9_read lm_L_56 dL_law_431 22 wl_22 rfl rfl rfl (by decide) (Nat.le_of_ble_eq_true rfl) rfl ?_
                      refine j_icmp_eq (tgt := 746) C dL_law_434 (by decide) (fun _ => ?_) (fun c9 => absurd (sim_read hsim hc5 (xs ((6 * j) + 1))).1 c9)
                      refine j_iinc (y := ((nI (6 * j)) + 6)) (lv' := [(3, .int ((nI (6 * j)) + 6)), (2, .ref (ad 22)), (1, .ref (ad 0)), (0, .ref b)]) C dL_law_746 0 rfl rfl (by decide) rfl ?_
                      refine j_goto (tgt := 18) C dL_law_749 (by decide) ?_
                      refine j_lv (lv' := [(3, .int ((nI (6 * j)) + 6)), (2, .ref (ad 22)), (1, .ref (ad 0)), (0, .ref b)]) [0, 1, 2, 3] rfl ?_
                      refine j_to (lv2 := [(3, .int (nI (6 * (j + 1)))), (2, .ref (ad 22)), (1, .ref (ad 0)), (0, .ref b)]) rfl (by rw [nI6]) rfl ?_
                      exact ih (j + 1) ((S_X8_read v f (xs ((6 * j) + 1))).2.1) ((S_X8_read v f (xs ((6 * j) + 1))).2.2) u ((S_X9_read u g (xs ((6 * j) + 1))).2) (sim_read hsim hc5 (xs ((6 * j) + 1))).2 (by omega) (by omega)
                    · by_cases c_12 : ((xs (6 * j)) &&& 31) = 9
                      · refine j_tswIn (kv := 9) (off := 406) (tgt := 439) C dL_law_33 c_12 (by decide) (by decide) (by decide) (by decide) ?_
                        refine j_aload_n (i := 1) C dL_law_439 rfl 2 rfl ?_
                        refine j_aload_n (i := 0) C dL_law_440 rfl 3 rfl ?_
                        refine j_iload_n (i := 3) C dL_law_441 rfl 0 rfl ?_
                        refine j_iconst (x := 1) C dL_law_442 (by decide) ?_
                        refine j_iaddN (a := (6 * j)) (b := 1) C dL_law_443 rfl rfl ?_
                        refine j_scr (q := ((6 * j) + 1)) C hX dL_law_444 (by omega) (by omega) ?_
                        refine j_aload_n (i := 0) C dL_law_445 rfl 3 rfl ?_
                        refine j_iload_n (i := 3) C dL_law_446 rfl 0 rfl ?_
                        refine j_iconst (x := 2) C dL_law_447 (by decide) ?_
                        refine j_iaddN (a := (6 * j)) (b := 2) C dL_law_448 rfl rfl ?_
                        refine j_scr (q := ((6 * j) + 2)) C hX dL_law_449 (by omega) (by omega) ?_
                        refine j_i2l C dL_law_450 ?_
                        refine j_bipush (x := 32) C dL_law_451 (by decide) ?_
                        refine j_lshl C dL_law_453 ?_
                        refine j_aload_n (i := 0) C dL_law_454 rfl 3 rfl ?_
                        refine j_iload_n (i := 3) C dL_law_455 rfl 0 rfl ?_
                        refine j_iconst (x := 3) C dL_law_456 (by decide) ?_
                        refine j_iaddN (a := (6 * j)) (b := 3) C dL_law_457 rfl rfl ?_
                        refine j_scr (q := ((6 * j) + 3)) C hX dL_law_458 (by omega) (by omega) ?_
                        refine j_i2l C dL_law_459 ?_
                        refine j_ldc2 C dL_law_460 ll_L_46 ?_
                        refine j_land C dL_law_463 ?_
                        refine j_lor C dL_law_464 ?_
                        refine c_V (As := [.int (xs ((6 * j) + 1)), .long (((((xs ((6 * j) + 2)) : Int32).toInt64) <<< ((32 : Int32).toInt64 &&& 63)) ||| ((((xs ((6 * j) + 3)) : Int32).toInt64) &&& 4294967295))]) (rest := []) (st1 := [.int ((S_X8_write v f (xs ((6 * j) + 1)) (((((xs ((6 * j) + 2)) : Int32).toInt64) <<< ((32 : Int32).toInt64 &&& 63)) ||| ((((xs ((6 * j) + 3)) : Int32).toInt64) &&& 4294967295))).1)]) C (c_X8_write ε ad v f u g (xs ((6 * j) + 1)) (((((xs ((6 * j) + 2)) : Int32).toInt64) <<< ((32 : Int32).toInt64 &&& 63)) ||| ((((xs ((6 * j) + 3)) : Int32).toInt64) &&& 4294967295))  ) mv_X8_write lm_L_57 dL_law_465 0 wl_0 rfl rfl rfl (by decide) (Nat.le_of_ble_eq_true rfl) rfl ?_
                        refine j_aload_n (i := 2) C dL_law_468 rfl 1 rfl ?_
                        refine j_aload_n (i := 0) C dL_law_469 rfl 3 rfl ?_
                        refine j_iload_n (i := 3) C dL_law_470 rfl 0 rfl ?_
                        refine j_iconst (x := 1) C dL_law_471 (by decide) ?_
                        refine j_iaddN (a := (6 * j)) (b := 1) C dL_law_472 rfl rfl ?_
                        refine j_scr (q := ((6 * j) + 1)) C hX dL_law_473 (by omega) (by omega) ?_
                        refine j_aload_n (i := 0) C dL_law_474 rfl 3 rfl ?_
                        refine j_iload_n (i := 3) C dL_law_475 rfl 0 rfl ?_
                        refine j_iconst (x := 2) C dL_law_476 (by decide) ?_
                        refine j_iaddN (a := (6 * j)) (b := 2) C dL_law_477 rfl rfl ?_
                        refine j_scr (q := ((6 * j) + 2)) C hX dL_law_478 (by omega) (by omega) ?_
                        refine j_i2l C dL_law_479 ?_
                        refine j_bipush (x := 32) C dL_law_480 (by decide) ?_
                        refine j_lshl C dL_law_482 ?_
                        refine j_aload_n (i := 0) C dL_law_483 rfl 3 rfl ?_
                        refine j_iload_n (i := 3) C dL_law_484 rfl 0 rfl ?_
                        refine j_iconst (x := 3) C dL_law_485 (by decide) ?_
                        refine j_iaddN (a := (6 * j)) (b := 3) C dL_law_486 rfl rfl ?_
                        refine j_scr (q := ((6 * j) + 3)) C hX dL_law_487 (by omega) (by omega) ?_
                        refine j_i2l C dL_law_488 ?_
                        refine j_ldc2 C dL_law_489 ll_L_46 ?_
                        refine j_land C dL_law_492 ?_
                        refine j_lor C dL_law_493 ?_
                        refine c_V (As := [.int (xs ((6 * j) + 1)), .long (((((xs ((6 * j) + 2)) : Int32).toInt64) <<< ((32 : Int32).toInt64 &&& 63)) ||| ((((xs ((6 * j) + 3)) : Int32).toInt64) &&& 4294967295))]) (rest := [.int ((S_X8_write v f (xs ((6 * j) + 1)) (((((xs ((6 * j) + 2)) : Int32).toInt64) <<< ((32 : Int32).toInt64 &&& 63)) ||| ((((xs ((6 * j) + 3)) : Int32).toInt64) &&& 4294967295))).1)]) (st1 := [.int ((S_X9_write u g (xs ((6 * j) + 1)) (((((xs ((6 * j) + 2)) : Int32).toInt64) <<< ((32 : Int32).toInt64 &&& 63)) ||| ((((xs ((6 * j) + 3)) : Int32).toInt64) &&& 4294967295))).1), .int ((S_X8_write v f (xs ((6 * j) + 1)) (((((xs ((6 * j) + 2)) : Int32).toInt64) <<< ((32 : Int32).toInt64 &&& 63)) ||| ((((xs ((6 * j) + 3)) : Int32).toInt64) &&& 4294967295))).1)]) C (c_X9_write ε ad ((S_X8_write v f (xs ((6 * j) + 1)) (((((xs ((6 * j) + 2)) : Int32).toInt64) <<< ((32 : Int32).toInt64 &&& 63)) ||| ((((xs ((6 * j) + 3)) : Int32).toInt64) &&& 4294967295))).2.1) ((S_X8_write v f (xs ((6 * j) + 1)) (((((xs ((6 * j) + 2)) : Int32).toInt64) <<< ((32 : Int32).toInt64 &&& 63)) ||| ((((xs ((6 * j) + 3)) : Int32).toInt64) &&& 4294967295))).2.2) u g (xs ((6 * j) + 1)) (((((xs ((6 * j) + 2)) : Int32).toInt64) <<< ((32 : Int32).toInt64 &&& 63)) ||| ((((xs ((6 * j) + 3)) : Int32).toInt64) &&& 4294967295))  hsim.minv) mv_X9_write lm_L_60 dL_law_494 22 wl_22 rfl rfl rfl (by decide) (Nat.le_of_ble_eq_true rfl) rfl ?_
                        refine j_icmp_eq (tgt := 746) C dL_law_497 (by decide) (fun _ => ?_) (fun c9 => absurd (sim_write hsim hc5 (xs ((6 * j) + 1)) (((((xs ((6 * j) + 2)) : Int32).toInt64) <<< ((32 : Int32).toInt64 &&& 63)) ||| ((((xs ((6 * j) + 3)) : Int32).toInt64) &&& 4294967295))).1 c9)
                        refine j_iinc (y := ((nI (6 * j)) + 6)) (lv' := [(3, .int ((nI (6 * j)) + 6)), (2, .ref (ad 22)), (1, .ref (ad 0)), (0, .ref b)]) C dL_law_746 0 rfl rfl (by decide) rfl ?_
                        refine j_goto (tgt := 18) C dL_law_749 (by decide) ?_
                        refine j_lv (lv' := [(3, .int ((nI (6 * j)) + 6)), (2, .ref (ad 22)), (1, .ref (ad 0)), (0, .ref b)]) [0, 1, 2, 3] rfl ?_
                        refine j_to (lv2 := [(3, .int (nI (6 * (j + 1)))), (2, .ref (ad 22)), (1, .ref (ad 0)), (0, .ref b)]) rfl (by rw [nI6]) rfl ?_
                        exact ih (j + 1) ((S_X8_write v f (xs ((6 * j) + 1)) (((((xs ((6 * j) + 2)) : Int32).toInt64) <<< ((32 : Int32).toInt64 &&& 63)) ||| ((((xs ((6 * j) + 3)) : Int32).toInt64) &&& 4294967295))).2.1) ((S_X8_write v f (xs ((6 * j) + 1)) (((((xs ((6 * j) + 2)) : Int32).toInt64) <<< ((32 : Int32).toInt64 &&& 63)) ||| ((((xs ((6 * j) + 3)) : Int32).toInt64) &&& 4294967295))).2.2) u ((S_X9_write u g (xs ((6 * j) + 1)) (((((xs ((6 * j) + 2)) : Int32).toInt64) <<< ((32 : Int32).toInt64 &&& 63)) ||| ((((xs ((6 * j) + 3)) : Int32).toInt64) &&& 4294967295))).2) (sim_write hsim hc5 (xs ((6 * j) + 1)) (((((xs ((6 * j) + 2)) : Int32).toInt64) <<< ((32 : Int32).toInt64 &&& 63)) ||| ((((xs ((6 * j) + 3)) : Int32).toInt64) &&& 4294967295))).2 (by omega) (by omega)
                      · by_cases c_13 : ((xs (6 * j)) &&& 31) = 10
                        · refine j_tswIn (kv := 10) (off := 469) (tgt := 502) C dL_law_33 c_13 (by decide) (by decide) (by decide) (by decide) ?_
                          refine j_aload_n (i := 1) C dL_law_502 rfl 2 rfl ?_
                          refine j_aload_n (i := 0) C dL_law_503 rfl 3 rfl ?_
                          refine j_iload_n (i := 3) C dL_law_504 rfl 0 rfl ?_
                          refine j_iconst (x := 1) C dL_law_505 (by decide) ?_
                          refine j_iaddN (a := (6 * j)) (b := 1) C dL_law_506 rfl rfl ?_
                          refine j_scr (q := ((6 * j) + 1)) C hX dL_law_507 (by omega) (by omega) ?_
                          refine j_aload_n (i := 0) C dL_law_508 rfl 3 rfl ?_
                          refine j_iload_n (i := 3) C dL_law_509 rfl 0 rfl ?_
                          refine j_iconst (x := 2) C dL_law_510 (by decide) ?_
                          refine j_iaddN (a := (6 * j)) (b := 2) C dL_law_511 rfl rfl ?_
                          refine j_scr (q := ((6 * j) + 2)) C hX dL_law_512 (by omega) (by omega) ?_
                          refine j_i2l C dL_law_513 ?_
                          refine j_bipush (x := 32) C dL_law_514 (by decide) ?_
                          refine j_lshl C dL_law_516 ?_
                          refine j_aload_n (i := 0) C dL_law_517 rfl 3 rfl ?_
                          refine j_iload_n (i := 3) C dL_law_518 rfl 0 rfl ?_
                          refine j_iconst (x := 3) C dL_law_519 (by decide) ?_
                          refine j_iaddN (a := (6 * j)) (b := 3) C dL_law_520 rfl rfl ?_
                          refine j_scr (q := ((6 * j) + 3)) C hX dL_law_521 (by omega) (by omega) ?_
                          refine j_i2l C dL_law_522 ?_
                          refine j_ldc2 C dL_law_523 ll_L_46 ?_
                          refine j_land C dL_law_526 ?_
                          refine j_lor C dL_law_527 ?_
                          refine c_V (As := [.int (xs ((6 * j) + 1)), .long (((((xs ((6 * j) + 2)) : Int32).toInt64) <<< ((32 : Int32).toInt64 &&& 63)) ||| ((((xs ((6 * j) + 3)) : Int32).toInt64) &&& 4294967295))]) (rest := []) (st1 := [.int ((S_X8_send v f (xs ((6 * j) + 1)) (((((xs ((6 * j) + 2)) : Int32).toInt64) <<< ((32 : Int32).toInt64 &&& 63)) ||| ((((xs ((6 * j) + 3)) : Int32).toInt64) &&& 4294967295))).1)]) C (c_X8_send ε ad v f u g (xs ((6 * j) + 1)) (((((xs ((6 * j) + 2)) : Int32).toInt64) <<< ((32 : Int32).toInt64 &&& 63)) ||| ((((xs ((6 * j) + 3)) : Int32).toInt64) &&& 4294967295))  ) mv_X8_send lm_L_61 dL_law_528 0 wl_0 rfl rfl rfl (by decide) (Nat.le_of_ble_eq_true rfl) rfl ?_
                          refine j_aload_n (i := 2) C dL_law_531 rfl 1 rfl ?_
                          refine j_aload_n (i := 0) C dL_law_532 rfl 3 rfl ?_
                          refine j_iload_n (i := 3) C dL_law_533 rfl 0 rfl ?_
                          refine j_iconst (x := 1) C dL_law_534 (by decide) ?_
                          refine j_iaddN (a := (6 * j)) (b := 1) C dL_law_535 rfl rfl ?_
                          refine j_scr (q := ((6 * j) + 1)) C hX dL_law_536 (by omega) (by omega) ?_
                          refine j_aload_n (i := 0) C dL_law_537 rfl 3 rfl ?_
                          refine j_iload_n (i := 3) C dL_law_538 rfl 0 rfl ?_
                          refine j_iconst (x := 2) C dL_law_539 (by decide) ?_
                          refine j_iaddN (a := (6 * j)) (b := 2) C dL_law_540 rfl rfl ?_
                          refine j_scr (q := ((6 * j) + 2)) C hX dL_law_541 (by omega) (by omega) ?_
                          refine j_i2l C dL_law_542 ?_
                          refine j_bipush (x := 32) C dL_law_543 (by decide) ?_
                          refine j_lshl C dL_law_545 ?_
                          refine j_aload_n (i := 0) C dL_law_546 rfl 3 rfl ?_
                          refine j_iload_n (i := 3) C dL_law_547 rfl 0 rfl ?_
                          refine j_iconst (x := 3) C dL_law_548 (by decide) ?_
                          refine j_iaddN (a := (6 * j)) (b := 3) C dL_law_549 rfl rfl ?_
                          refine j_scr (q := ((6 * j) + 3)) C hX dL_law_550 (by omega) (by omega) ?_
                          refine j_i2l C dL_law_551 ?_
                          refine j_ldc2 C dL_law_552 ll_L_46 ?_
                          refine j_land C dL_law_555 ?_
                          refine j_lor C dL_law_556 ?_
                          refine c_V (As := [.int (xs ((6 * j) + 1)), .long (((((xs ((6 * j) + 2)) : Int32).toInt64) <<< ((32 : Int32).toInt64 &&& 63)) ||| ((((xs ((6 * j) + 3)) : Int32).toInt64) &&& 4294967295))]) (rest := [.int ((S_X8_send v f (xs ((6 * j) + 1)) (((((xs ((6 * j) + 2)) : Int32).toInt64) <<< ((32 : Int32).toInt64 &&& 63)) ||| ((((xs ((6 * j) + 3)) : Int32).toInt64) &&& 4294967295))).1)]) (st1 := [.int ((S_X9_send u g (xs ((6 * j) + 1)) (((((xs ((6 * j) + 2)) : Int32).toInt64) <<< ((32 : Int32).toInt64 &&& 63)) ||| ((((xs ((6 * j) + 3)) : Int32).toInt64) &&& 4294967295))).1), .int ((S_X8_send v f (xs ((6 * j) + 1)) (((((xs ((6 * j) + 2)) : Int32).toInt64) <<< ((32 : Int32).toInt64 &&& 63)) ||| ((((xs ((6 * j) + 3)) : Int32).toInt64) &&& 4294967295))).1)]) C (c_X9_send ε ad ((S_X8_send v f (xs ((6 * j) + 1)) (((((xs ((6 * j) + 2)) : Int32).toInt64) <<< ((32 : Int32).toInt64 &&& 63)) ||| ((((xs ((6 * j) + 3)) : Int32).toInt64) &&& 4294967295))).2.1) ((S_X8_send v f (xs ((6 * j) + 1)) (((((xs ((6 * j) + 2)) : Int32).toInt64) <<< ((32 : Int32).toInt64 &&& 63)) ||| ((((xs ((6 * j) + 3)) : Int32).toInt64) &&& 4294967295))).2.2) u g (xs ((6 * j) + 1)) (((((xs ((6 * j) + 2)) : Int32).toInt64) <<< ((32 : Int32).toInt64 &&& 63)) ||| ((((xs ((6 * j) + 3)) : Int32).toInt64) &&& 4294967295))  hsim.minv) mv_X9_send lm_L_64 dL_law_557 22 wl_22 rfl rfl rfl (by decide) (Nat.le_of_ble_eq_true rfl) rfl ?_
                          refine j_icmp_eq (tgt := 746) C dL_law_560 (by decide) (fun _ => ?_) (fun c9 => absurd (sim_send hsim hc5 (xs ((6 * j) + 1)) (((((xs ((6 * j) + 2)) : Int32).toInt64) <<< ((32 : Int32).toInt64 &&& 63)) ||| ((((xs ((6 * j) + 3)) : Int32).toInt64) &&& 4294967295))).1 c9)
                          refine j_iinc (y := ((nI (6 * j)) + 6)) (lv' := [(3, .int ((nI (6 * j)) + 6)), (2, .ref (ad 22)), (1, .ref (ad 0)), (0, .ref b)]) C dL_law_746 0 rfl rfl (by decide) rfl ?_
                          refine j_goto (tgt := 18) C dL_law_749 (by decide) ?_
                          refine j_lv (lv' := [(3, .int ((nI (6 * j)) + 6)), (2, .ref (ad 22)), (1, .ref (ad 0)), (0, .ref b)]) [0, 1, 2, 3] rfl ?_
                          refine j_to (lv2 := [(3, .int (nI (6 * (j + 1)))), (2, .ref (ad 22)), (1, .ref (ad 0)), (0, .ref b)]) rfl (by rw [nI6]) rfl ?_
                          exact ih (j + 1) ((S_X8_send v f (xs ((6 * j) + 1)) (((((xs ((6 * j) + 2)) : Int32).toInt64) <<< ((32 : Int32).toInt64 &&& 63)) ||| ((((xs ((6 * j) + 3)) : Int32).toInt64) &&& 4294967295))).2.1) ((S_X8_send v f (xs ((6 * j) + 1)) (((((xs ((6 * j) + 2)) : Int32).toInt64) <<< ((32 : Int32).toInt64 &&& 63)) ||| ((((xs ((6 * j) + 3)) : Int32).toInt64) &&& 4294967295))).2.2) u ((S_X9_send u g (xs ((6 * j) + 1)) (((((xs ((6 * j) + 2)) : Int32).toInt64) <<< ((32 : Int32).toInt64 &&& 63)) ||| ((((xs ((6 * j) + 3)) : Int32).toInt64) &&& 4294967295))).2) (sim_send hsim hc5 (xs ((6 * j) + 1)) (((((xs ((6 * j) + 2)) : Int32).toInt64) <<< ((32 : Int32).toInt64 &&& 63)) ||| ((((xs ((6 * j) + 3)) : Int32).toInt64) &&& 4294967295))).2 (by omega) (by omega)
                        · by_cases c_14 : ((xs (6 * j)) &&& 31) = 11
                          · refine j_tswIn (kv := 11) (off := 532) (tgt := 565) C dL_law_33 c_14 (by decide) (by decide) (by decide) (by decide) ?_
                            refine j_aload_n (i := 1) C dL_law_565 rfl 2 rfl ?_
                            refine c_V (As := []) (rest := []) (st1 := [.int ((S_X8_post v f).1)]) C (c_X8_post ε ad v f u g   ) mv_X8_post lm_L_65 dL_law_566 0 wl_0 rfl rfl rfl (by decide) (Nat.le_of_ble_eq_true rfl) rfl ?_
                            refine j_aload_n (i := 2) C dL_law_569 rfl 1 rfl ?_
                            refine c_V (As := []) (rest := [.int ((S_X8_post v f).1)]) (st1 := [.int ((S_X9_post u g).1), .int ((S_X8_post v f).1)]) C (c_X9_post ε ad ((S_X8_post v f).2.1) ((S_X8_post v f).2.2) u g   hsim.minv) mv_X9_post lm_L_68 dL_law_570 22 wl_22 rfl rfl rfl (by decide) (Nat.le_of_ble_eq_true rfl) rfl ?_
                            refine j_icmp_eq (tgt := 746) C dL_law_573 (by decide) (fun _ => ?_) (fun c9 => absurd (sim_post hsim hc5 ).1 c9)
                            refine j_iinc (y := ((nI (6 * j)) + 6)) (lv' := [(3, .int ((nI (6 * j)) + 6)), (2, .ref (ad 22)), (1, .ref (ad 0)), (0, .ref b)]) C dL_law_746 0 rfl rfl (by decide) rfl ?_
                            refine j_goto (tgt := 18) C dL_law_749 (by decide) ?_
                            refine j_lv (lv' := [(3, .int ((nI (6 * j)) + 6)), (2, .ref (ad 22)), (1, .ref (ad 0)), (0, .ref b)]) [0, 1, 2, 3] rfl ?_
                            refine j_to (lv2 := [(3, .int (nI (6 * (j + 1)))), (2, .ref (ad 22)), (1, .ref (ad 0)), (0, .ref b)]) rfl (by rw [nI6]) rfl ?_
                            exact ih (j + 1) ((S_X8_post v f).2.1) ((S_X8_post v f).2.2) u ((S_X9_post u g).2) (sim_post hsim hc5 ).2 (by omega) (by omega)
                          · by_cases c_15 : ((xs (6 * j)) &&& 31) = 12
                            · refine j_tswIn (kv := 12) (off := 545) (tgt := 578) C dL_law_33 c_15 (by decide) (by decide) (by decide) (by decide) ?_
                              refine j_aload_n (i := 1) C dL_law_578 rfl 2 rfl ?_
                              refine j_aload_n (i := 0) C dL_law_579 rfl 3 rfl ?_
                              refine j_iload_n (i := 3) C dL_law_580 rfl 0 rfl ?_
                              refine j_iconst (x := 1) C dL_law_581 (by decide) ?_
                              refine j_iaddN (a := (6 * j)) (b := 1) C dL_law_582 rfl rfl ?_
                              refine j_scr (q := ((6 * j) + 1)) C hX dL_law_583 (by omega) (by omega) ?_
                              refine c_V (As := [.int (xs ((6 * j) + 1))]) (rest := []) (st1 := [.int ((S_X8_collect v f (xs ((6 * j) + 1))).1)]) C (c_X8_collect ε ad v f u g (xs ((6 * j) + 1))  ) mv_X8_collect lm_L_69 dL_law_584 0 wl_0 rfl rfl rfl (by decide) (Nat.le_of_ble_eq_true rfl) rfl ?_
                              refine j_aload_n (i := 2) C dL_law_587 rfl 1 rfl ?_
                              refine j_aload_n (i := 0) C dL_law_588 rfl 3 rfl ?_
                              refine j_iload_n (i := 3) C dL_law_589 rfl 0 rfl ?_
                              refine j_iconst (x := 1) C dL_law_590 (by decide) ?_
                              refine j_iaddN (a := (6 * j)) (b := 1) C dL_law_591 rfl rfl ?_
                              refine j_scr (q := ((6 * j) + 1)) C hX dL_law_592 (by omega) (by omega) ?_
                              refine c_V (As := [.int (xs ((6 * j) + 1))]) (rest := [.int ((S_X8_collect v f (xs ((6 * j) + 1))).1)]) (st1 := [.int ((S_X9_collect u g (xs ((6 * j) + 1))).1), .int ((S_X8_collect v f (xs ((6 * j) + 1))).1)]) C (c_X9_collect ε ad ((S_X8_collect v f (xs ((6 * j) + 1))).2.1) ((S_X8_collect v f (xs ((6 * j) + 1))).2.2) u g (xs ((6 * j) + 1))  hsim.minv) mv_X9_collect lm_L_72 dL_law_593 22 wl_22 rfl rfl rfl (by decide) (Nat.le_of_ble_eq_true rfl) rfl ?_
                              refine j_icmp_eq (tgt := 746) C dL_law_596 (by decide) (fun _ => ?_) (fun c9 => absurd (sim_collect hsim hc5 (xs ((6 * j) + 1))).1 c9)
                              refine j_iinc (y := ((nI (6 * j)) + 6)) (lv' := [(3, .int ((nI (6 * j)) + 6)), (2, .ref (ad 22)), (1, .ref (ad 0)), (0, .ref b)]) C dL_law_746 0 rfl rfl (by decide) rfl ?_
                              refine j_goto (tgt := 18) C dL_law_749 (by decide) ?_
                              refine j_lv (lv' := [(3, .int ((nI (6 * j)) + 6)), (2, .ref (ad 22)), (1, .ref (ad 0)), (0, .ref b)]) [0, 1, 2, 3] rfl ?_
                              refine j_to (lv2 := [(3, .int (nI (6 * (j + 1)))), (2, .ref (ad 22)), (1, .ref (ad 0)), (0, .ref b)]) rfl (by rw [nI6]) rfl ?_
                              exact ih (j + 1) ((S_X8_collect v f (xs ((6 * j) + 1))).2.1) ((S_X8_collect v f (xs ((6 * j) + 1))).2.2) u ((S_X9_collect u g (xs ((6 * j) + 1))).2) (sim_collect hsim hc5 (xs ((6 * j) + 1))).2 (by omega) (by omega)
                            · by_cases c_16 : ((xs (6 * j)) &&& 31) = 13
                              · refine j_tswIn (kv := 13) (off := 568) (tgt := 601) C dL_law_33 c_16 (by decide) (by decide) (by decide) (by decide) ?_
                                refine j_aload_n (i := 1) C dL_law_601 rfl 2 rfl ?_
                                refine j_aload_n (i := 0) C dL_law_602 rfl 3 rfl ?_
                                refine j_iload_n (i := 3) C dL_law_603 rfl 0 rfl ?_
                                refine j_iconst (x := 1) C dL_law_604 (by decide) ?_
                                refine j_iaddN (a := (6 * j)) (b := 1) C dL_law_605 rfl rfl ?_
                                refine j_scr (q := ((6 * j) + 1)) C hX dL_law_606 (by omega) (by omega) ?_
                                refine c_V (As := [.int (xs ((6 * j) + 1))]) (rest := []) (st1 := [.int (S_X8_written v f (xs ((6 * j) + 1)))]) C (c_X8_written ε ad v f u g (xs ((6 * j) + 1))  ) mv_X8_written lm_L_73 dL_law_607 0 wl_0 rfl rfl rfl (by decide) (Nat.le_of_ble_eq_true rfl) rfl ?_
                                refine j_aload_n (i := 2) C dL_law_610 rfl 1 rfl ?_
                                refine j_aload_n (i := 0) C dL_law_611 rfl 3 rfl ?_
                                refine j_iload_n (i := 3) C dL_law_612 rfl 0 rfl ?_
                                refine j_iconst (x := 1) C dL_law_613 (by decide) ?_
                                refine j_iaddN (a := (6 * j)) (b := 1) C dL_law_614 rfl rfl ?_
                                refine j_scr (q := ((6 * j) + 1)) C hX dL_law_615 (by omega) (by omega) ?_
                                refine c_V (As := [.int (xs ((6 * j) + 1))]) (rest := [.int (S_X8_written v f (xs ((6 * j) + 1)))]) (st1 := [.int (S_X9_written u g (xs ((6 * j) + 1))), .int (S_X8_written v f (xs ((6 * j) + 1)))]) C (c_X9_written ε ad v f u g (xs ((6 * j) + 1))  ) mv_X9_written lm_L_76 dL_law_616 22 wl_22 rfl rfl rfl (by decide) (Nat.le_of_ble_eq_true rfl) rfl ?_
                                refine j_icmp_eq (tgt := 746) C dL_law_619 (by decide) (fun _ => ?_) (fun c9 => absurd (sim_written hsim hc5 (xs ((6 * j) + 1))).1 c9)
                                refine j_iinc (y := ((nI (6 * j)) + 6)) (lv' := [(3, .int ((nI (6 * j)) + 6)), (2, .ref (ad 22)), (1, .ref (ad 0)), (0, .ref b)]) C dL_law_746 0 rfl rfl (by decide) rfl ?_
                                refine j_goto (tgt := 18) C dL_law_749 (by decide) ?_
                                refine j_lv (lv' := [(3, .int ((nI (6 * j)) + 6)), (2, .ref (ad 22)), (1, .ref (ad 0)), (0, .ref b)]) [0, 1, 2, 3] rfl ?_
                                refine j_to (lv2 := [(3, .int (nI (6 * (j + 1)))), (2, .ref (ad 22)), (1, .ref (ad 0)), (0, .ref b)]) rfl (by rw [nI6]) rfl ?_
                                exact ih (j + 1) v f u g (sim_written hsim hc5 (xs ((6 * j) + 1))).2 (by omega) (by omega)
                              · by_cases c_17 : ((xs (6 * j)) &&& 31) = 14
                                · refine j_tswIn (kv := 14) (off := 591) (tgt := 624) C dL_law_33 c_17 (by decide) (by decide) (by decide) (by decide) ?_
                                  refine j_aload_n (i := 1) C dL_law_624 rfl 2 rfl ?_
                                  refine j_aload_n (i := 0) C dL_law_625 rfl 3 rfl ?_
                                  refine j_iload_n (i := 3) C dL_law_626 rfl 0 rfl ?_
                                  refine j_iconst (x := 1) C dL_law_627 (by decide) ?_
                                  refine j_iaddN (a := (6 * j)) (b := 1) C dL_law_628 rfl rfl ?_
                                  refine j_scr (q := ((6 * j) + 1)) C hX dL_law_629 (by omega) (by omega) ?_
                                  refine j_aload_n (i := 0) C dL_law_630 rfl 3 rfl ?_
                                  refine j_iload_n (i := 3) C dL_law_631 rfl 0 rfl ?_
                                  refine j_iconst (x := 2) C dL_law_632 (by decide) ?_
                                  refine j_iaddN (a := (6 * j)) (b := 2) C dL_law_633 rfl rfl ?_
                                  refine j_scr (q := ((6 * j) + 2)) C hX dL_law_634 (by omega) (by omega) ?_
                                  refine c_V (As := [.int (xs ((6 * j) + 1)), .int (xs ((6 * j) + 2))]) (rest := []) (st1 := [.int (S_X8_wire v f (xs ((6 * j) + 1)) (xs ((6 * j) + 2)))]) C (c_X8_wire ε ad v f u g (xs ((6 * j) + 1)) (xs ((6 * j) + 2))  hsim.hw) mv_X8_wire lm_L_77 dL_law_635 0 wl_0 rfl rfl rfl (by decide) (Nat.le_of_ble_eq_true rfl) rfl ?_
                                  refine j_aload_n (i := 2) C dL_law_638 rfl 1 rfl ?_
                                  refine j_aload_n (i := 0) C dL_law_639 rfl 3 rfl ?_
                                  refine j_iload_n (i := 3) C dL_law_640 rfl 0 rfl ?_
                                  refine j_iconst (x := 1) C dL_law_641 (by decide) ?_
                                  refine j_iaddN (a := (6 * j)) (b := 1) C dL_law_642 rfl rfl ?_
                                  refine j_scr (q := ((6 * j) + 1)) C hX dL_law_643 (by omega) (by omega) ?_
                                  refine j_aload_n (i := 0) C dL_law_644 rfl 3 rfl ?_
                                  refine j_iload_n (i := 3) C dL_law_645 rfl 0 rfl ?_
                                  refine j_iconst (x := 2) C dL_law_646 (by decide) ?_
                                  refine j_iaddN (a := (6 * j)) (b := 2) C dL_law_647 rfl rfl ?_
                                  refine j_scr (q := ((6 * j) + 2)) C hX dL_law_648 (by omega) (by omega) ?_
                                  refine c_V (As := [.int (xs ((6 * j) + 1)), .int (xs ((6 * j) + 2))]) (rest := [.int (S_X8_wire v f (xs ((6 * j) + 1)) (xs ((6 * j) + 2)))]) (st1 := [.int (S_X9_wire u g (xs ((6 * j) + 1)) (xs ((6 * j) + 2))), .int (S_X8_wire v f (xs ((6 * j) + 1)) (xs ((6 * j) + 2)))]) C (c_X9_wire ε ad v f u g (xs ((6 * j) + 1)) (xs ((6 * j) + 2))  hsim.minv.2.1 hsim.minv.2.2) mv_X9_wire lm_L_80 dL_law_649 22 wl_22 rfl rfl rfl (by decide) (Nat.le_of_ble_eq_true rfl) rfl ?_
                                  refine j_icmp_eq (tgt := 746) C dL_law_652 (by decide) (fun _ => ?_) (fun c9 => absurd (sim_wire hsim hc5 (xs ((6 * j) + 1)) (xs ((6 * j) + 2))).1 c9)
                                  refine j_iinc (y := ((nI (6 * j)) + 6)) (lv' := [(3, .int ((nI (6 * j)) + 6)), (2, .ref (ad 22)), (1, .ref (ad 0)), (0, .ref b)]) C dL_law_746 0 rfl rfl (by decide) rfl ?_
                                  refine j_goto (tgt := 18) C dL_law_749 (by decide) ?_
                                  refine j_lv (lv' := [(3, .int ((nI (6 * j)) + 6)), (2, .ref (ad 22)), (1, .ref (ad 0)), (0, .ref b)]) [0, 1, 2, 3] rfl ?_
                                  refine j_to (lv2 := [(3, .int (nI (6 * (j + 1)))), (2, .ref (ad 22)), (1, .ref (ad 0)), (0, .ref b)]) rfl (by rw [nI6]) rfl ?_
                                  exact ih (j + 1) v f u g (sim_wire hsim hc5 (xs ((6 * j) + 1)) (xs ((6 * j) + 2))).2 (by omega) (by omega)
                                · by_cases c_18 : ((xs (6 * j)) &&& 31) = 15
                                  · refine j_tswIn (kv := 15) (off := 624) (tgt := 657) C dL_law_33 c_18 (by decide) (by decide) (by decide) (by decide) ?_
                                    refine j_aload_n (i := 1) C dL_law_657 rfl 2 rfl ?_
                                    refine j_aload_n (i := 0) C dL_law_658 rfl 3 rfl ?_
                                    refine j_iload_n (i := 3) C dL_law_659 rfl 0 rfl ?_
                                    refine j_iconst (x := 1) C dL_law_660 (by decide) ?_
                                    refine j_iaddN (a := (6 * j)) (b := 1) C dL_law_661 rfl rfl ?_
                                    refine j_scr (q := ((6 * j) + 1)) C hX dL_law_662 (by omega) (by omega) ?_
                                    refine j_aload_n (i := 0) C dL_law_663 rfl 3 rfl ?_
                                    refine j_iload_n (i := 3) C dL_law_664 rfl 0 rfl ?_
                                    refine j_iconst (x := 2) C dL_law_665 (by decide) ?_
                                    refine j_iaddN (a := (6 * j)) (b := 2) C dL_law_666 rfl rfl ?_
                                    refine j_scr (q := ((6 * j) + 2)) C hX dL_law_667 (by omega) (by omega) ?_
                                    refine c_V (As := [.int (xs ((6 * j) + 1)), .int (xs ((6 * j) + 2))]) (rest := []) (st1 := [.int (S_X8_disk v f (xs ((6 * j) + 1)) (xs ((6 * j) + 2)))]) C (c_X8_disk ε ad v f u g (xs ((6 * j) + 1)) (xs ((6 * j) + 2))  ) mv_X8_disk lm_L_81 dL_law_668 0 wl_0 rfl rfl rfl (by decide) (Nat.le_of_ble_eq_true rfl) rfl ?_
                                    refine j_aload_n (i := 2) C dL_law_671 rfl 1 rfl ?_
                                    refine j_aload_n (i := 0) C dL_law_672 rfl 3 rfl ?_
                                    refine j_iload_n (i := 3) C dL_law_673 rfl 0 rfl ?_
                                    refine j_iconst (x := 1) C dL_law_674 (by decide) ?_
                                    refine j_iaddN (a := (6 * j)) (b := 1) C dL_law_675 rfl rfl ?_
                                    refine j_scr (q := ((6 * j) + 1)) C hX dL_law_676 (by omega) (by omega) ?_
                                    refine j_aload_n (i := 0) C dL_law_677 rfl 3 rfl ?_
                                    refine j_iload_n (i := 3) C dL_law_678 rfl 0 rfl ?_
                                    refine j_iconst (x := 2) C dL_law_679 (by decide) ?_
                                    refine j_iaddN (a := (6 * j)) (b := 2) C dL_law_680 rfl rfl ?_
                                    refine j_scr (q := ((6 * j) + 2)) C hX dL_law_681 (by omega) (by omega) ?_
                                    refine c_V (As := [.int (xs ((6 * j) + 1)), .int (xs ((6 * j) + 2))]) (rest := [.int (S_X8_disk v f (xs ((6 * j) + 1)) (xs ((6 * j) + 2)))]) (st1 := [.int (S_X9_disk u g (xs ((6 * j) + 1)) (xs ((6 * j) + 2))), .int (S_X8_disk v f (xs ((6 * j) + 1)) (xs ((6 * j) + 2)))]) C (c_X9_disk ε ad v f u g (xs ((6 * j) + 1)) (xs ((6 * j) + 2))  ) mv_X9_disk lm_L_84 dL_law_682 22 wl_22 rfl rfl rfl (by decide) (Nat.le_of_ble_eq_true rfl) rfl ?_
                                    refine j_icmp_eq (tgt := 746) C dL_law_685 (by decide) (fun _ => ?_) (fun c9 => absurd (sim_disk hsim hc5 (xs ((6 * j) + 1)) (xs ((6 * j) + 2))).1 c9)
                                    refine j_iinc (y := ((nI (6 * j)) + 6)) (lv' := [(3, .int ((nI (6 * j)) + 6)), (2, .ref (ad 22)), (1, .ref (ad 0)), (0, .ref b)]) C dL_law_746 0 rfl rfl (by decide) rfl ?_
                                    refine j_goto (tgt := 18) C dL_law_749 (by decide) ?_
                                    refine j_lv (lv' := [(3, .int ((nI (6 * j)) + 6)), (2, .ref (ad 22)), (1, .ref (ad 0)), (0, .ref b)]) [0, 1, 2, 3] rfl ?_
                                    refine j_to (lv2 := [(3, .int (nI (6 * (j + 1)))), (2, .ref (ad 22)), (1, .ref (ad 0)), (0, .ref b)]) rfl (by rw [nI6]) rfl ?_
                                    exact ih (j + 1) v f u g (sim_disk hsim hc5 (xs ((6 * j) + 1)) (xs ((6 * j) + 2))).2 (by omega) (by omega)
                                  · by_cases c_19 : ((xs (6 * j)) &&& 31) = 16
                                    · refine j_tswIn (kv := 16) (off := 657) (tgt := 690) C dL_law_33 c_19 (by decide) (by decide) (by decide) (by decide) ?_
                                      refine j_aload_n (i := 1) C dL_law_690 rfl 2 rfl ?_
                                      refine j_aload_n (i := 0) C dL_law_691 rfl 3 rfl ?_
                                      refine j_iload_n (i := 3) C dL_law_692 rfl 0 rfl ?_
                                      refine j_iconst (x := 1) C dL_law_693 (by decide) ?_
                                      refine j_iaddN (a := (6 * j)) (b := 1) C dL_law_694 rfl rfl ?_
                                      refine j_scr (q := ((6 * j) + 1)) C hX dL_law_695 (by omega) (by omega) ?_
                                      refine j_aload_n (i := 0) C dL_law_696 rfl 3 rfl ?_
                                      refine j_iload_n (i := 3) C dL_law_697 rfl 0 rfl ?_
                                      refine j_iconst (x := 2) C dL_law_698 (by decide) ?_
                                      refine j_iaddN (a := (6 * j)) (b := 2) C dL_law_699 rfl rfl ?_
                                      refine j_scr (q := ((6 * j) + 2)) C hX dL_law_700 (by omega) (by omega) ?_
                                      refine c_V (As := [.int (xs ((6 * j) + 1)), .int (xs ((6 * j) + 2))]) (rest := []) (st1 := [.int (S_X8_told v f (xs ((6 * j) + 1)) (xs ((6 * j) + 2)))]) C (c_X8_told ε ad v f u g (xs ((6 * j) + 1)) (xs ((6 * j) + 2))  ) mv_X8_told lm_L_85 dL_law_701 0 wl_0 rfl rfl rfl (by decide) (Nat.le_of_ble_eq_true rfl) rfl ?_
                                      refine j_aload_n (i := 2) C dL_law_704 rfl 1 rfl ?_
                                      refine j_aload_n (i := 0) C dL_law_705 rfl 3 rfl ?_
                                      refine j_iload_n (i := 3) C dL_law_706 rfl 0 rfl ?_
                                      refine j_iconst (x := 1) C dL_law_707 (by decide) ?_
                                      refine j_iaddN (a := (6 * j)) (b := 1) C dL_law_708 rfl rfl ?_
                                      refine j_scr (q := ((6 * j) + 1)) C hX dL_law_709 (by omega) (by omega) ?_
                                      refine j_aload_n (i := 0) C dL_law_710 rfl 3 rfl ?_
                                      refine j_iload_n (i := 3) C dL_law_711 rfl 0 rfl ?_
                                      refine j_iconst (x := 2) C dL_law_712 (by decide) ?_
                                      refine j_iaddN (a := (6 * j)) (b := 2) C dL_law_713 rfl rfl ?_
                                      refine j_scr (q := ((6 * j) + 2)) C hX dL_law_714 (by omega) (by omega) ?_
                                      refine c_V (As := [.int (xs ((6 * j) + 1)), .int (xs ((6 * j) + 2))]) (rest := [.int (S_X8_told v f (xs ((6 * j) + 1)) (xs ((6 * j) + 2)))]) (st1 := [.int (S_X9_told u g (xs ((6 * j) + 1)) (xs ((6 * j) + 2))), .int (S_X8_told v f (xs ((6 * j) + 1)) (xs ((6 * j) + 2)))]) C (c_X9_told ε ad v f u g (xs ((6 * j) + 1)) (xs ((6 * j) + 2))  ) mv_X9_told lm_L_88 dL_law_715 22 wl_22 rfl rfl rfl (by decide) (Nat.le_of_ble_eq_true rfl) rfl ?_
                                      refine j_icmp_eq (tgt := 746) C dL_law_718 (by decide) (fun _ => ?_) (fun c9 => absurd (sim_told hsim hc5 (xs ((6 * j) + 1)) (xs ((6 * j) + 2))).1 c9)
                                      refine j_iinc (y := ((nI (6 * j)) + 6)) (lv' := [(3, .int ((nI (6 * j)) + 6)), (2, .ref (ad 22)), (1, .ref (ad 0)), (0, .ref b)]) C dL_law_746 0 rfl rfl (by decide) rfl ?_
                                      refine j_goto (tgt := 18) C dL_law_749 (by decide) ?_
                                      refine j_lv (lv' := [(3, .int ((nI (6 * j)) + 6)), (2, .ref (ad 22)), (1, .ref (ad 0)), (0, .ref b)]) [0, 1, 2, 3] rfl ?_
                                      refine j_to (lv2 := [(3, .int (nI (6 * (j + 1)))), (2, .ref (ad 22)), (1, .ref (ad 0)), (0, .ref b)]) rfl (by rw [nI6]) rfl ?_
                                      exact ih (j + 1) v f u g (sim_told hsim hc5 (xs ((6 * j) + 1)) (xs ((6 * j) + 2))).2 (by omega) (by omega)
                                    · by_cases c_20 : ((xs (6 * j)) &&& 31) = 17
                                      · refine j_tswIn (kv := 17) (off := 690) (tgt := 723) C dL_law_33 c_20 (by decide) (by decide) (by decide) (by decide) ?_
                                        refine j_aload_n (i := 1) C dL_law_723 rfl 2 rfl ?_
                                        refine j_aload_n (i := 0) C dL_law_724 rfl 3 rfl ?_
                                        refine j_iload_n (i := 3) C dL_law_725 rfl 0 rfl ?_
                                        refine j_iconst (x := 1) C dL_law_726 (by decide) ?_
                                        refine j_iaddN (a := (6 * j)) (b := 1) C dL_law_727 rfl rfl ?_
                                        refine j_scr (q := ((6 * j) + 1)) C hX dL_law_728 (by omega) (by omega) ?_
                                        refine c_V (As := [.int (xs ((6 * j) + 1))]) (rest := []) (st1 := [.int (S_X8_count v f (xs ((6 * j) + 1)))]) C (c_X8_count ε ad v f u g (xs ((6 * j) + 1))  ) mv_X8_count lm_L_89 dL_law_729 0 wl_0 rfl rfl rfl (by decide) (Nat.le_of_ble_eq_true rfl) rfl ?_
                                        refine j_aload_n (i := 2) C dL_law_732 rfl 1 rfl ?_
                                        refine j_aload_n (i := 0) C dL_law_733 rfl 3 rfl ?_
                                        refine j_iload_n (i := 3) C dL_law_734 rfl 0 rfl ?_
                                        refine j_iconst (x := 1) C dL_law_735 (by decide) ?_
                                        refine j_iaddN (a := (6 * j)) (b := 1) C dL_law_736 rfl rfl ?_
                                        refine j_scr (q := ((6 * j) + 1)) C hX dL_law_737 (by omega) (by omega) ?_
                                        refine c_V (As := [.int (xs ((6 * j) + 1))]) (rest := [.int (S_X8_count v f (xs ((6 * j) + 1)))]) (st1 := [.int (S_X9_count u g (xs ((6 * j) + 1))), .int (S_X8_count v f (xs ((6 * j) + 1)))]) C (c_X9_count ε ad v f u g (xs ((6 * j) + 1))  ) mv_X9_count lm_L_92 dL_law_738 22 wl_22 rfl rfl rfl (by decide) (Nat.le_of_ble_eq_true rfl) rfl ?_
                                        refine j_icmp_eq (tgt := 746) C dL_law_741 (by decide) (fun _ => ?_) (fun c9 => absurd (sim_count hsim hc5 (xs ((6 * j) + 1))).1 c9)
                                        refine j_iinc (y := ((nI (6 * j)) + 6)) (lv' := [(3, .int ((nI (6 * j)) + 6)), (2, .ref (ad 22)), (1, .ref (ad 0)), (0, .ref b)]) C dL_law_746 0 rfl rfl (by decide) rfl ?_
                                        refine j_goto (tgt := 18) C dL_law_749 (by decide) ?_
                                        refine j_lv (lv' := [(3, .int ((nI (6 * j)) + 6)), (2, .ref (ad 22)), (1, .ref (ad 0)), (0, .ref b)]) [0, 1, 2, 3] rfl ?_
                                        refine j_to (lv2 := [(3, .int (nI (6 * (j + 1)))), (2, .ref (ad 22)), (1, .ref (ad 0)), (0, .ref b)]) rfl (by rw [nI6]) rfl ?_
                                        exact ih (j + 1) v f u g (sim_count hsim hc5 (xs ((6 * j) + 1))).2 (by omega) (by omega)
                                      · refine j_tswOut (tgt := 746) C dL_law_33 (tsw_out (hi := 17) (by decide) (fun j hj => by match j, hj with | 0, _ => exact c_1 | 1, _ => exact c_3 | 2, _ => exact c_5 | 3, _ => exact c_6 | 4, _ => exact c_7 | 5, _ => exact c_8 | 6, _ => exact c_9 | 7, _ => exact c_10 | 8, _ => exact c_11 | 9, _ => exact c_12 | 10, _ => exact c_13 | 11, _ => exact c_14 | 12, _ => exact c_15 | 13, _ => exact c_16 | 14, _ => exact c_17 | 15, _ => exact c_18 | 16, _ => exact c_19 | 17, _ => exact c_20 | j + 18, hj => omega)) (by decide) ?_
                                        refine j_iinc (y := ((nI (6 * j)) + 6)) (lv' := [(3, .int ((nI (6 * j)) + 6)), (2, .ref (ad 22)), (1, .ref (ad 0)), (0, .ref b)]) C dL_law_746 0 rfl rfl (by decide) rfl ?_
                                        refine j_goto (tgt := 18) C dL_law_749 (by decide) ?_
                                        refine j_lv (lv' := [(3, .int ((nI (6 * j)) + 6)), (2, .ref (ad 22)), (1, .ref (ad 0)), (0, .ref b)]) [0, 1, 2, 3] rfl ?_
                                        refine j_to (lv2 := [(3, .int (nI (6 * (j + 1)))), (2, .ref (ad 22)), (1, .ref (ad 0)), (0, .ref b)]) rfl (by rw [nI6]) rfl ?_
                                        exact ih (j + 1) v f u g (sim_count hsim hc5 (xs ((6 * j) + 1))).2 (by omega) (by omega)
