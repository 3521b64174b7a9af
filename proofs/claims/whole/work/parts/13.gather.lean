def Q_X0_gather_4_1 (v : Nat → Int32) (f : Nat → Nat → Int32) (b : Int32) (i : Nat) (base : Int32) (room : Int32) (num : Int32) (inT : Int32) (v1 : (Nat → Int32)) (f1 : (Nat → Nat → Int32)) : Int32 := (S_X5_two v1 f1 ((base + (16 * num)) + 12))
def Q_X0_gather_4_2 (v : Nat → Int32) (f : Nat → Nat → Int32) (b : Int32) (i : Nat) (base : Int32) (room : Int32) (num : Int32) (inT : Int32) (v1 : (Nat → Int32)) (f1 : (Nat → Nat → Int32)) : Int32 := ((S_X0_addPart v1 f1 (base + (16 * num)) 0).1)
def Q_X0_gather_4_3 (v : Nat → Int32) (f : Nat → Nat → Int32) (b : Int32) (i : Nat) (base : Int32) (room : Int32) (num : Int32) (inT : Int32) (v1 : (Nat → Int32)) (f1 : (Nat → Nat → Int32)) : (Nat → Int32) := ((S_X0_addPart v1 f1 (base + (16 * num)) 0).2.1)
def Q_X0_gather_4_4 (v : Nat → Int32) (f : Nat → Nat → Int32) (b : Int32) (i : Nat) (base : Int32) (room : Int32) (num : Int32) (inT : Int32) (v1 : (Nat → Int32)) (f1 : (Nat → Nat → Int32)) : (Nat → Nat → Int32) := ((S_X0_addPart v1 f1 (base + (16 * num)) 0).2.2)
def Q_X0_gather_4_5 (v : Nat → Int32) (f : Nat → Nat → Int32) (b : Int32) (i : Nat) (base : Int32) (room : Int32) (num : Int32) (inT : Int32) (v1 : (Nat → Int32)) (f1 : (Nat → Nat → Int32)) : Int32 := (S_X5_two (Q_X0_gather_4_3 v f b i base room num inT v1 f1) (Q_X0_gather_4_4 v f b i base room num inT v1 f1) ((base + (16 * num)) + 14))
def Q_X0_gather_4_6 (v : Nat → Int32) (f : Nat → Nat → Int32) (b : Int32) (i : Nat) (base : Int32) (room : Int32) (num : Int32) (inT : Int32) (v1 : (Nat → Int32)) (f1 : (Nat → Nat → Int32)) : Int32 := ((S_X0_addPart v1 f1 (base + (16 * num)) 1).1)
def Q_X0_gather_4_7 (v : Nat → Int32) (f : Nat → Nat → Int32) (b : Int32) (i : Nat) (base : Int32) (room : Int32) (num : Int32) (inT : Int32) (v1 : (Nat → Int32)) (f1 : (Nat → Nat → Int32)) : (Nat → Int32) := ((S_X0_addPart v1 f1 (base + (16 * num)) 1).2.1)
def Q_X0_gather_4_8 (v : Nat → Int32) (f : Nat → Nat → Int32) (b : Int32) (i : Nat) (base : Int32) (room : Int32) (num : Int32) (inT : Int32) (v1 : (Nat → Int32)) (f1 : (Nat → Nat → Int32)) : (Nat → Nat → Int32) := ((S_X0_addPart v1 f1 (base + (16 * num)) 1).2.2)
def Q_X0_gather_4_9 (v : Nat → Int32) (f : Nat → Nat → Int32) (b : Int32) (i : Nat) (base : Int32) (room : Int32) (num : Int32) (inT : Int32) (v1 : (Nat → Int32)) (f1 : (Nat → Nat → Int32)) : Int32 := (S_X5_two (Q_X0_gather_4_7 v f b i base room num inT v1 f1) (Q_X0_gather_4_8 v f b i base room num inT v1 f1) ((base + (16 * num)) + 14))
def Q_X0_gather_4_10 (v : Nat → Int32) (f : Nat → Nat → Int32) (b : Int32) (i : Nat) (base : Int32) (room : Int32) (num : Int32) (inT : Int32) (v1 : (Nat → Int32)) (f1 : (Nat → Nat → Int32)) : Int32 := (S_X0_isTable v1 f1 (base + (16 * num)) (Q_X0_gather_4_1 v f b i base room num inT v1 f1))
def Q_X0_gather_4_11 (v : Nat → Int32) (f : Nat → Nat → Int32) (b : Int32) (i : Nat) (base : Int32) (room : Int32) (num : Int32) (inT : Int32) (v1 : (Nat → Int32)) (f1 : (Nat → Nat → Int32)) : Int64 := (S_X5_number v1 f1 (base + (16 * num)) 8)
def Q_X0_gather_4_12 (v : Nat → Int32) (f : Nat → Nat → Int32) (b : Int32) (i : Nat) (base : Int32) (room : Int32) (num : Int32) (inT : Int32) (v1 : (Nat → Int32)) (f1 : (Nat → Nat → Int32)) : Int64 := (S_X5_number v1 f1 ((base + (16 * num)) + 8) 4)
def L_X0_gather_4 (v : Nat → Int32) (f : Nat → Nat → Int32) (b : Int32) : Nat → Nat → Int32 → Int32 → Int32 → Int32 → (Nat → Int32) → (Nat → Nat → Int32) → Int32 × (Nat → Int32) × (Nat → Nat → Int32)
  | 0, i, base, room, num, inT, v1, f1 => (0, v1, f1)
  | d1 + 1, i, base, room, num, inT, v1, f1 =>
    if 16 < (nI i) then (0, v1, f1)
    else if num < room then if ((Q_X0_gather_4_1 v f b i base room num inT v1 f1) &&& 4) = 0 then if ((Q_X0_gather_4_1 v f b i base room num inT v1 f1) &&& 2) = 0 then if (Q_X0_gather_4_2 v f b i base room num inT v1 f1) = 0 then (0, (Q_X0_gather_4_3 v f b i base room num inT v1 f1), (Q_X0_gather_4_4 v f b i base room num inT v1 f1))
            else if ((Q_X0_gather_4_1 v f b i base room num inT v1 f1) &&& 1) = 0 then (1, (Q_X0_gather_4_3 v f b i base room num inT v1 f1), (Q_X0_gather_4_4 v f b i base room num inT v1 f1))
              else (L_X0_gather_4 v f b d1 (i + 1) base room (Q_X0_gather_4_5 v f b i base room num inT v1 f1) inT (Q_X0_gather_4_3 v f b i base room num inT v1 f1) (Q_X0_gather_4_4 v f b i base room num inT v1 f1))
          else if (Q_X0_gather_4_6 v f b i base room num inT v1 f1) = 0 then (0, (Q_X0_gather_4_7 v f b i base room num inT v1 f1), (Q_X0_gather_4_8 v f b i base room num inT v1 f1))
            else if ((Q_X0_gather_4_1 v f b i base room num inT v1 f1) &&& 1) = 0 then (1, (Q_X0_gather_4_7 v f b i base room num inT v1 f1), (Q_X0_gather_4_8 v f b i base room num inT v1 f1))
              else (L_X0_gather_4 v f b d1 (i + 1) base room (Q_X0_gather_4_9 v f b i base room num inT v1 f1) inT (Q_X0_gather_4_7 v f b i base room num inT v1 f1) (Q_X0_gather_4_8 v f b i base room num inT v1 f1))
        else if b = 0 then (0, v1, f1)
          else if inT = 0 then if (Q_X0_gather_4_10 v f b i base room num inT v1 f1) = 0 then (0, v1, f1)
              else (L_X0_gather_4 v f b d1 (i + 1) (((Q_X0_gather_4_11 v f b i base room num inT v1 f1) : Int64).toInt32) ((((Q_X0_gather_4_12 v f b i base room num inT v1 f1) : Int64).toInt32) / 16) 0 1 v1 f1)
            else (0, v1, f1)
      else (0, v1, f1)
def S_X0_gather_4 (v : Nat → Int32) (f : Nat → Nat → Int32) (b : Int32) : Int32 × (Nat → Int32) × (Nat → Nat → Int32) :=
  (L_X0_gather_4 v f b 18 0 ((upd (S_X0_forget v f) 34 (S_X6_nextHead_4 (S_X0_forget v f) f)) 6) ((upd (S_X0_forget v f) 34 (S_X6_nextHead_4 (S_X0_forget v f) f)) 5) (S_X6_nextHead_4 (S_X0_forget v f) f) 0 (upd (S_X0_forget v f) 34 (S_X6_nextHead_4 (S_X0_forget v f) f)) f)
set_option maxHeartbeats 1000000 in
set_option maxRecDepth 100000 in
theorem c_X0_gather_4 (ε : ET) (ad : Nat → Nat) (v : Nat → Int32) (f : Nat → Nat → Int32) (u : Nat → Int32) (g : Nat → Nat → Int32) (b : Int32)  : CT ε yX0_gather cX0_gather 10 (some .boolean) 3 72 0 0 [.ref (ad 7), .ref (ad 4), .int b] (WD ε ad v f u g) (DT (some (.int ((S_X0_gather_4 v f b).1))) (WD ε ad ((S_X0_gather_4 v f b).2.1) ((S_X0_gather_4 v f b).2.2) u g)) := by
  refine CT.of (own := RX0) (by decide) rfl (Nat.le_of_ble_eq_true rfl) (fun κ C hQ => ?_)
  refine j_aload_n (i := 0) C dX0_gather_0 rfl 0 rfl ?_
  refine c_V (As := []) (rest := []) (st1 := []) C (c_X0_forget ε ad v f u g   ) mv_X0_forget lm_X0_38 dX0_gather_1 7 wl_7 rfl rfl rfl (by decide) (Nat.le_of_ble_eq_true rfl) rfl ?_
  refine j_aload_n (i := 0) C dX0_gather_4 rfl 0 rfl ?_
  refine j_aload_n (i := 1) C dX0_gather_5 rfl 1 rfl ?_
  refine c_V (As := []) (rest := [.ref (ad 7)]) (st1 := [.int (S_X6_nextHead_4 (S_X0_forget v f) f), .ref (ad 7)]) C (c_X6_nextHead_4 ε ad (S_X0_forget v f) f u g   ) mv_X6_nextHead lm_X0_41 dX0_gather_6 4 wl_4 rfl rfl rfl (by decide) (Nat.le_of_ble_eq_true rfl) rfl ?_
  refine p_7_head C dX0_gather_9 lf_X0_47 ?_
  refine j_aload_n (i := 1) C dX0_gather_12 rfl 1 rfl ?_
  refine g_4_descriptors (x := ((upd (S_X0_forget v f) 34 (S_X6_nextHead_4 (S_X0_forget v f) f)) 6)) C dX0_gather_13 lf_X0_50 rfl ?_
  refine j_istore_n (i := 3) (lv' := [(3, .int ((upd (S_X0_forget v f) 34 (S_X6_nextHead_4 (S_X0_forget v f) f)) 6)), (0, .ref (ad 7)), (1, .ref (ad 4)), (2, .int b)]) C dX0_gather_16 rfl (by decide) rfl ?_
  refine j_aload_n (i := 1) C dX0_gather_17 rfl 2 rfl ?_
  refine g_4_size (x := ((upd (S_X0_forget v f) 34 (S_X6_nextHead_4 (S_X0_forget v f) f)) 5)) C dX0_gather_18 lf_X0_53 rfl ?_
  refine j_istore (i := 4) (lv' := [(4, .int ((upd (S_X0_forget v f) 34 (S_X6_nextHead_4 (S_X0_forget v f) f)) 5)), (3, .int ((upd (S_X0_forget v f) 34 (S_X6_nextHead_4 (S_X0_forget v f) f)) 6)), (0, .ref (ad 7)), (1, .ref (ad 4)), (2, .int b)]) C dX0_gather_21 (by decide) rfl ?_
  refine j_aload_n (i := 0) C dX0_gather_23 rfl 2 rfl ?_
  refine g_7_head (x := (S_X6_nextHead_4 (S_X0_forget v f) f)) C dX0_gather_24 lf_X0_47 rfl ?_
  refine j_istore (i := 5) (lv' := [(5, .int (S_X6_nextHead_4 (S_X0_forget v f) f)), (4, .int ((upd (S_X0_forget v f) 34 (S_X6_nextHead_4 (S_X0_forget v f) f)) 5)), (3, .int ((upd (S_X0_forget v f) 34 (S_X6_nextHead_4 (S_X0_forget v f) f)) 6)), (0, .ref (ad 7)), (1, .ref (ad 4)), (2, .int b)]) C dX0_gather_27 (by decide) rfl ?_
  refine j_iconst (x := 0) C dX0_gather_29 (by decide) ?_
  refine j_istore (i := 6) (lv' := [(6, .int 0), (5, .int (S_X6_nextHead_4 (S_X0_forget v f) f)), (4, .int ((upd (S_X0_forget v f) 34 (S_X6_nextHead_4 (S_X0_forget v f) f)) 5)), (3, .int ((upd (S_X0_forget v f) 34 (S_X6_nextHead_4 (S_X0_forget v f) f)) 6)), (0, .ref (ad 7)), (1, .ref (ad 4)), (2, .int b)]) C dX0_gather_30 (by decide) rfl ?_
  refine j_iconst (x := 0) C dX0_gather_32 (by decide) ?_
  refine j_istore (i := 7) (lv' := [(7, .int 0), (6, .int 0), (5, .int (S_X6_nextHead_4 (S_X0_forget v f) f)), (4, .int ((upd (S_X0_forget v f) 34 (S_X6_nextHead_4 (S_X0_forget v f) f)) 5)), (3, .int ((upd (S_X0_forget v f) 34 (S_X6_nextHead_4 (S_X0_forget v f) f)) 6)), (0, .ref (ad 7)), (1, .ref (ad 4)), (2, .int b)]) C dX0_gather_33 (by decide) rfl ?_
  have hw1 : ∀ (d1 : Nat) (i : Nat) (base : Int32) (room : Int32) (num : Int32) (inT : Int32) (v1 : (Nat → Int32)) (f1 : (Nat → Nat → Int32)), (0 ≤ (v1 28).toInt) → (i ≤ 17) → 17 - i < d1 → L_X0_gather_4 v f b d1 i base room num inT v1 f1 = S_X0_gather_4 v f b → JW κ 0 0 (WD ε ad v1 f1 u g) 35 [(7, .int (nI i)), (6, .int inT), (5, .int num), (4, .int room), (3, .int base), (0, .ref (ad 7)), (1, .ref (ad 4)), (2, .int b)] [] := by
    intro d1
    induction d1 with
    | zero => intro i base room num inT v1 f1 hp1 hi hm9 _; exact absurd hm9 (Nat.not_lt_zero _)
    | succ d1 ih1 =>
      intro i base room num inT v1 f1 hp1 hi hm1 hS1
      have le16 : ¬ (16 : Int32) < (nI i) → i ≤ 16 := fun h => by rcases Nat.lt_or_ge 16 i with q | q; exact absurd (nI_lt (a := 16) (b := i) q (by omega)) h; exact q
      refine j_iload (i := 7) C dX0_gather_35 0 rfl ?_
      refine j_bipush (x := 16) C dX0_gather_37 (by decide) ?_
      refine j_icmp_gt (tgt := 196) C dX0_gather_39 (by decide) (fun c_1 => ?_) (fun c_1 => ?_)
      · refine j_iconst (x := 0) C dX0_gather_196 (by decide) ?_
        have hs : S_X0_gather_4 v f b = (0, v1, f1) := by rw [← hS1, L_X0_gather_4]; rw [if_pos c_1]
        exact j_zret C hQ rfl rfl dX0_gather_197 (dt_ivf hs)
      · refine j_iload (i := 5) C dX0_gather_42 2 rfl ?_
        refine j_iload (i := 4) C dX0_gather_44 3 rfl ?_
        refine j_icmp_lt (tgt := 51) C dX0_gather_46 (by decide) (fun c_2 => ?_) (fun c_2 => ?_)
        · refine j_iload_n (i := 3) C dX0_gather_51 rfl 4 rfl ?_
          refine j_bipush (x := 16) C dX0_gather_52 (by decide) ?_
          refine j_iload (i := 5) C dX0_gather_54 2 rfl ?_
          refine j_imul C dX0_gather_56 ?_
          refine j_iadd C dX0_gather_57 ?_
          refine j_istore (i := 8) (lv' := [(8, .int (base + (16 * num))), (7, .int (nI i)), (6, .int inT), (5, .int num), (4, .int room), (3, .int base), (0, .ref (ad 7)), (1, .ref (ad 4)), (2, .int b)]) C dX0_gather_58 (by decide) rfl ?_
          refine j_aload_n (i := 0) C dX0_gather_60 rfl 6 rfl ?_
          refine g_7_memory C dX0_gather_61 lf_X0_9 ?_
          refine j_iload (i := 8) C dX0_gather_64 0 rfl ?_
          refine j_bipush (x := 12) C dX0_gather_66 (by decide) ?_
          refine j_iadd C dX0_gather_68 ?_
          refine c_V (As := [.int ((base + (16 * num)) + 12)]) (rest := []) (st1 := [.int (Q_X0_gather_4_1 v f b i base room num inT v1 f1)]) C (c_X5_two ε ad v1 f1 u g ((base + (16 * num)) + 12)  ) mv_X5_two lm_X0_56 dX0_gather_69 1 wl_1 rfl rfl rfl (by decide) (Nat.le_of_ble_eq_true rfl) rfl ?_
          refine j_istore (i := 9) (lv' := [(9, .int (Q_X0_gather_4_1 v f b i base room num inT v1 f1)), (8, .int (base + (16 * num))), (7, .int (nI i)), (6, .int inT), (5, .int num), (4, .int room), (3, .int base), (0, .ref (ad 7)), (1, .ref (ad 4)), (2, .int b)]) C dX0_gather_72 (by decide) rfl ?_
          refine j_iload (i := 9) C dX0_gather_74 0 rfl ?_
          refine j_iconst (x := 4) C dX0_gather_76 (by decide) ?_
          refine j_iand C dX0_gather_77 ?_
          refine j_if_eq (tgt := 144) C dX0_gather_78 (by decide) (fun c_3 => ?_) (fun c_3 => ?_)
          · refine j_aload_n (i := 0) C dX0_gather_144 rfl 7 rfl ?_
            refine j_iload (i := 8) C dX0_gather_145 1 rfl ?_
            refine j_iload (i := 9) C dX0_gather_147 0 rfl ?_
            refine j_iconst (x := 2) C dX0_gather_149 (by decide) ?_
            refine j_iand C dX0_gather_150 ?_
            refine j_if_eq (tgt := 158) C dX0_gather_151 (by decide) (fun c_4 => ?_) (fun c_4 => ?_)
            · refine j_iconst (x := 0) C dX0_gather_158 (by decide) ?_
              refine c_V (As := [.int (base + (16 * num)), .int 0]) (rest := []) (st1 := [.int (Q_X0_gather_4_2 v f b i base room num inT v1 f1)]) (ω1 := (WD ε ad (Q_X0_gather_4_3 v f b i base room num inT v1 f1) (Q_X0_gather_4_4 v f b i base room num inT v1 f1) u g)) C (c_X0_addPart ε ad v1 f1 u g (base + (16 * num)) 0  hp1) mv_X0_addPart lm_X0_70 dX0_gather_159 7 wl_7 rfl rfl rfl (by decide) (Nat.le_of_ble_eq_true rfl) rfl ?_
              refine j_if_ne (tgt := 167) C dX0_gather_162 (by decide) (fun c_5 => ?_) (fun c_5 => ?_)
              · refine j_iload (i := 9) C dX0_gather_167 0 rfl ?_
                refine j_iconst (x := 1) C dX0_gather_169 (by decide) ?_
                refine j_iand C dX0_gather_170 ?_
                refine j_if_ne (tgt := 176) C dX0_gather_171 (by decide) (fun c_6 => ?_) (fun c_6 => ?_)
                · refine j_aload_n (i := 0) C dX0_gather_176 rfl 7 rfl ?_
                  refine g_7_memory C dX0_gather_177 lf_X0_9 ?_
                  refine j_iload (i := 8) C dX0_gather_180 1 rfl ?_
                  refine j_bipush (x := 14) C dX0_gather_182 (by decide) ?_
                  refine j_iadd C dX0_gather_184 ?_
                  refine c_V (As := [.int ((base + (16 * num)) + 14)]) (rest := []) (st1 := [.int (Q_X0_gather_4_5 v f b i base room num inT v1 f1)]) C (c_X5_two ε ad (Q_X0_gather_4_3 v f b i base room num inT v1 f1) (Q_X0_gather_4_4 v f b i base room num inT v1 f1) u g ((base + (16 * num)) + 14)  ) mv_X5_two lm_X0_56 dX0_gather_185 1 wl_1 rfl rfl rfl (by decide) (Nat.le_of_ble_eq_true rfl) rfl ?_
                  refine j_istore (i := 5) (lv' := [(5, .int (Q_X0_gather_4_5 v f b i base room num inT v1 f1)), (9, .int (Q_X0_gather_4_1 v f b i base room num inT v1 f1)), (8, .int (base + (16 * num))), (7, .int (nI i)), (6, .int inT), (4, .int room), (3, .int base), (0, .ref (ad 7)), (1, .ref (ad 4)), (2, .int b)]) C dX0_gather_188 (by decide) rfl ?_
                  refine j_iinc (y := (nI (i + 1))) (lv' := [(7, .int (nI (i + 1))), (5, .int (Q_X0_gather_4_5 v f b i base room num inT v1 f1)), (9, .int (Q_X0_gather_4_1 v f b i base room num inT v1 f1)), (8, .int (base + (16 * num))), (6, .int inT), (4, .int room), (3, .int base), (0, .ref (ad 7)), (1, .ref (ad 4)), (2, .int b)]) C dX0_gather_190 3 rfl (nI_1 _) (by decide) rfl ?_
                  refine j_goto (tgt := 35) C dX0_gather_193 (by decide) ?_
                  refine j_lv (lv' := [(7, .int (nI (i + 1))), (6, .int inT), (5, .int (Q_X0_gather_4_5 v f b i base room num inT v1 f1)), (4, .int room), (3, .int base), (0, .ref (ad 7)), (1, .ref (ad 4)), (2, .int b)]) [0, 4, 1, 5, 6, 7, 8, 9] rfl ?_
                  exact ih1 (i + 1) base room (Q_X0_gather_4_5 v f b i base room num inT v1 f1) inT (Q_X0_gather_4_3 v f b i base room num inT v1 f1) (Q_X0_gather_4_4 v f b i base room num inT v1 f1) (ap_pos _ _ _ _ hp1) (by have := le16 c_1; omega) (by have := le16 c_1; omega) (by rw [← hS1, L_X0_gather_4]; rw [if_neg c_1, if_pos c_2, if_pos c_3, if_pos c_4, if_neg c_5, if_neg c_6])
                · refine j_iconst (x := 1) C dX0_gather_174 (by decide) ?_
                  have hs : S_X0_gather_4 v f b = (1, (Q_X0_gather_4_3 v f b i base room num inT v1 f1), (Q_X0_gather_4_4 v f b i base room num inT v1 f1)) := by rw [← hS1, L_X0_gather_4]; rw [if_neg c_1, if_pos c_2, if_pos c_3, if_pos c_4, if_neg c_5, if_pos c_6]
                  exact j_zret C hQ rfl rfl dX0_gather_175 (dt_ivf hs)
              · refine j_iconst (x := 0) C dX0_gather_165 (by decide) ?_
                have hs : S_X0_gather_4 v f b = (0, (Q_X0_gather_4_3 v f b i base room num inT v1 f1), (Q_X0_gather_4_4 v f b i base room num inT v1 f1)) := by rw [← hS1, L_X0_gather_4]; rw [if_neg c_1, if_pos c_2, if_pos c_3, if_pos c_4, if_pos c_5]
                exact j_zret C hQ rfl rfl dX0_gather_166 (dt_ivf hs)
            · refine j_iconst (x := 1) C dX0_gather_154 (by decide) ?_
              refine j_goto (tgt := 159) C dX0_gather_155 (by decide) ?_
              refine c_V (As := [.int (base + (16 * num)), .int 1]) (rest := []) (st1 := [.int (Q_X0_gather_4_6 v f b i base room num inT v1 f1)]) (ω1 := (WD ε ad (Q_X0_gather_4_7 v f b i base room num inT v1 f1) (Q_X0_gather_4_8 v f b i base room num inT v1 f1) u g)) C (c_X0_addPart ε ad v1 f1 u g (base + (16 * num)) 1  hp1) mv_X0_addPart lm_X0_70 dX0_gather_159 7 wl_7 rfl rfl rfl (by decide) (Nat.le_of_ble_eq_true rfl) rfl ?_
              refine j_if_ne (tgt := 167) C dX0_gather_162 (by decide) (fun c_7 => ?_) (fun c_7 => ?_)
              · refine j_iload (i := 9) C dX0_gather_167 0 rfl ?_
                refine j_iconst (x := 1) C dX0_gather_169 (by decide) ?_
                refine j_iand C dX0_gather_170 ?_
                refine j_if_ne (tgt := 176) C dX0_gather_171 (by decide) (fun c_8 => ?_) (fun c_8 => ?_)
                · refine j_aload_n (i := 0) C dX0_gather_176 rfl 7 rfl ?_
                  refine g_7_memory C dX0_gather_177 lf_X0_9 ?_
                  refine j_iload (i := 8) C dX0_gather_180 1 rfl ?_
                  refine j_bipush (x := 14) C dX0_gather_182 (by decide) ?_
                  refine j_iadd C dX0_gather_184 ?_
                  refine c_V (As := [.int ((base + (16 * num)) + 14)]) (rest := []) (st1 := [.int (Q_X0_gather_4_9 v f b i base room num inT v1 f1)]) C (c_X5_two ε ad (Q_X0_gather_4_7 v f b i base room num inT v1 f1) (Q_X0_gather_4_8 v f b i base room num inT v1 f1) u g ((base + (16 * num)) + 14)  ) mv_X5_two lm_X0_56 dX0_gather_185 1 wl_1 rfl rfl rfl (by decide) (Nat.le_of_ble_eq_true rfl) rfl ?_
                  refine j_istore (i := 5) (lv' := [(5, .int (Q_X0_gather_4_9 v f b i base room num inT v1 f1)), (9, .int (Q_X0_gather_4_1 v f b i base room num inT v1 f1)), (8, .int (base + (16 * num))), (7, .int (nI i)), (6, .int inT), (4, .int room), (3, .int base), (0, .ref (ad 7)), (1, .ref (ad 4)), (2, .int b)]) C dX0_gather_188 (by decide) rfl ?_
                  refine j_iinc (y := (nI (i + 1))) (lv' := [(7, .int (nI (i + 1))), (5, .int (Q_X0_gather_4_9 v f b i base room num inT v1 f1)), (9, .int (Q_X0_gather_4_1 v f b i base room num inT v1 f1)), (8, .int (base + (16 * num))), (6, .int inT), (4, .int room), (3, .int base), (0, .ref (ad 7)), (1, .ref (ad 4)), (2, .int b)]) C dX0_gather_190 3 rfl (nI_1 _) (by decide) rfl ?_
                  refine j_goto (tgt := 35) C dX0_gather_193 (by decide) ?_
                  refine j_lv (lv' := [(7, .int (nI (i + 1))), (6, .int inT), (5, .int (Q_X0_gather_4_9 v f b i base room num inT v1 f1)), (4, .int room), (3, .int base), (0, .ref (ad 7)), (1, .ref (ad 4)), (2, .int b)]) [0, 4, 1, 5, 6, 7, 8, 9] rfl ?_
                  exact ih1 (i + 1) base room (Q_X0_gather_4_9 v f b i base room num inT v1 f1) inT (Q_X0_gather_4_7 v f b i base room num inT v1 f1) (Q_X0_gather_4_8 v f b i base room num inT v1 f1) (ap_pos _ _ _ _ hp1) (by have := le16 c_1; omega) (by have := le16 c_1; omega) (by rw [← hS1, L_X0_gather_4]; rw [if_neg c_1, if_pos c_2, if_pos c_3, if_neg c_4, if_neg c_7, if_neg c_8])
                · refine j_iconst (x := 1) C dX0_gather_174 (by decide) ?_
                  have hs : S_X0_gather_4 v f b = (1, (Q_X0_gather_4_7 v f b i base room num inT v1 f1), (Q_X0_gather_4_8 v f b i base room num inT v1 f1)) := by rw [← hS1, L_X0_gather_4]; rw [if_neg c_1, if_pos c_2, if_pos c_3, if_neg c_4, if_neg c_7, if_pos c_8]
                  exact j_zret C hQ rfl rfl dX0_gather_175 (dt_ivf hs)
              · refine j_iconst (x := 0) C dX0_gather_165 (by decide) ?_
                have hs : S_X0_gather_4 v f b = (0, (Q_X0_gather_4_7 v f b i base room num inT v1 f1), (Q_X0_gather_4_8 v f b i base room num inT v1 f1)) := by rw [← hS1, L_X0_gather_4]; rw [if_neg c_1, if_pos c_2, if_pos c_3, if_neg c_4, if_pos c_7]
                exact j_zret C hQ rfl rfl dX0_gather_166 (dt_ivf hs)
          · refine j_iload_n (i := 2) C dX0_gather_81 rfl 9 rfl ?_
            refine j_if_eq (tgt := 101) C dX0_gather_82 (by decide) (fun c_9 => ?_) (fun c_9 => ?_)
            · refine j_iconst (x := 0) C dX0_gather_101 (by decide) ?_
              have hs : S_X0_gather_4 v f b = (0, v1, f1) := by rw [← hS1, L_X0_gather_4]; rw [if_neg c_1, if_pos c_2, if_neg c_3, if_pos c_9]
              exact j_zret C hQ rfl rfl dX0_gather_102 (dt_ivf hs)
            · refine j_iload (i := 6) C dX0_gather_85 3 rfl ?_
              refine j_if_ne (tgt := 101) C dX0_gather_87 (by decide) (fun c_10 => ?_) (fun c_10 => ?_)
              · refine j_iconst (x := 0) C dX0_gather_101 (by decide) ?_
                have hs : S_X0_gather_4 v f b = (0, v1, f1) := by rw [← hS1, L_X0_gather_4]; rw [if_neg c_1, if_pos c_2, if_neg c_3, if_neg c_9, if_neg c_10]
                exact j_zret C hQ rfl rfl dX0_gather_102 (dt_ivf hs)
              · refine j_aload_n (i := 0) C dX0_gather_90 rfl 7 rfl ?_
                refine j_iload (i := 8) C dX0_gather_91 1 rfl ?_
                refine j_iload (i := 9) C dX0_gather_93 0 rfl ?_
                refine c_V (As := [.int (base + (16 * num)), .int (Q_X0_gather_4_1 v f b i base room num inT v1 f1)]) (rest := []) (st1 := [.int (Q_X0_gather_4_10 v f b i base room num inT v1 f1)]) C (c_X0_isTable ε ad v1 f1 u g (base + (16 * num)) (Q_X0_gather_4_1 v f b i base room num inT v1 f1)  ) mv_X0_isTable lm_X0_62 dX0_gather_95 7 wl_7 rfl rfl rfl (by decide) (Nat.le_of_ble_eq_true rfl) rfl ?_
                refine j_if_ne (tgt := 103) C dX0_gather_98 (by decide) (fun c_11 => ?_) (fun c_11 => ?_)
                · refine j_iconst (x := 1) C dX0_gather_103 (by decide) ?_
                  refine j_istore (i := 6) (lv' := [(6, .int 1), (9, .int (Q_X0_gather_4_1 v f b i base room num inT v1 f1)), (8, .int (base + (16 * num))), (7, .int (nI i)), (5, .int num), (4, .int room), (3, .int base), (0, .ref (ad 7)), (1, .ref (ad 4)), (2, .int b)]) C dX0_gather_104 (by decide) rfl ?_
                  refine j_aload_n (i := 0) C dX0_gather_106 rfl 7 rfl ?_
                  refine g_7_memory C dX0_gather_107 lf_X0_9 ?_
                  refine j_iload (i := 8) C dX0_gather_110 2 rfl ?_
                  refine j_bipush (x := 8) C dX0_gather_112 (by decide) ?_
                  refine c_V (As := [.int (base + (16 * num)), .int 8]) (rest := []) (st1 := [.long (Q_X0_gather_4_11 v f b i base room num inT v1 f1)]) C (c_X5_number ε ad v1 f1 u g (base + (16 * num)) 8  (by first | assumption | omega | decide)) mv_X5_number lm_X0_66 dX0_gather_114 1 wl_1 rfl rfl rfl (by decide) (Nat.le_of_ble_eq_true rfl) rfl ?_
                  refine j_l2i C dX0_gather_117 ?_
                  refine j_istore_n (i := 3) (lv' := [(3, .int (((Q_X0_gather_4_11 v f b i base room num inT v1 f1) : Int64).toInt32)), (6, .int 1), (9, .int (Q_X0_gather_4_1 v f b i base room num inT v1 f1)), (8, .int (base + (16 * num))), (7, .int (nI i)), (5, .int num), (4, .int room), (0, .ref (ad 7)), (1, .ref (ad 4)), (2, .int b)]) C dX0_gather_118 rfl (by decide) rfl ?_
                  refine j_aload_n (i := 0) C dX0_gather_119 rfl 7 rfl ?_
                  refine g_7_memory C dX0_gather_120 lf_X0_9 ?_
                  refine j_iload (i := 8) C dX0_gather_123 3 rfl ?_
                  refine j_bipush (x := 8) C dX0_gather_125 (by decide) ?_
                  refine j_iadd C dX0_gather_127 ?_
                  refine j_iconst (x := 4) C dX0_gather_128 (by decide) ?_
                  refine c_V (As := [.int ((base + (16 * num)) + 8), .int 4]) (rest := []) (st1 := [.long (Q_X0_gather_4_12 v f b i base room num inT v1 f1)]) C (c_X5_number ε ad v1 f1 u g ((base + (16 * num)) + 8) 4  (by first | assumption | omega | decide)) mv_X5_number lm_X0_66 dX0_gather_129 1 wl_1 rfl rfl rfl (by decide) (Nat.le_of_ble_eq_true rfl) rfl ?_
                  refine j_l2i C dX0_gather_132 ?_
                  refine j_bipush (x := 16) C dX0_gather_133 (by decide) ?_
                  refine j_idiv C dX0_gather_135 (by decide) ?_
                  refine j_istore (i := 4) (lv' := [(4, .int ((((Q_X0_gather_4_12 v f b i base room num inT v1 f1) : Int64).toInt32) / 16)), (3, .int (((Q_X0_gather_4_11 v f b i base room num inT v1 f1) : Int64).toInt32)), (6, .int 1), (9, .int (Q_X0_gather_4_1 v f b i base room num inT v1 f1)), (8, .int (base + (16 * num))), (7, .int (nI i)), (5, .int num), (0, .ref (ad 7)), (1, .ref (ad 4)), (2, .int b)]) C dX0_gather_136 (by decide) rfl ?_
                  refine j_iconst (x := 0) C dX0_gather_138 (by decide) ?_
                  refine j_istore (i := 5) (lv' := [(5, .int 0), (4, .int ((((Q_X0_gather_4_12 v f b i base room num inT v1 f1) : Int64).toInt32) / 16)), (3, .int (((Q_X0_gather_4_11 v f b i base room num inT v1 f1) : Int64).toInt32)), (6, .int 1), (9, .int (Q_X0_gather_4_1 v f b i base room num inT v1 f1)), (8, .int (base + (16 * num))), (7, .int (nI i)), (0, .ref (ad 7)), (1, .ref (ad 4)), (2, .int b)]) C dX0_gather_139 (by decide) rfl ?_
                  refine j_goto (tgt := 190) C dX0_gather_141 (by decide) ?_
                  refine j_iinc (y := (nI (i + 1))) (lv' := [(7, .int (nI (i + 1))), (5, .int 0), (4, .int ((((Q_X0_gather_4_12 v f b i base room num inT v1 f1) : Int64).toInt32) / 16)), (3, .int (((Q_X0_gather_4_11 v f b i base room num inT v1 f1) : Int64).toInt32)), (6, .int 1), (9, .int (Q_X0_gather_4_1 v f b i base room num inT v1 f1)), (8, .int (base + (16 * num))), (0, .ref (ad 7)), (1, .ref (ad 4)), (2, .int b)]) C dX0_gather_190 6 rfl (nI_1 _) (by decide) rfl ?_
                  refine j_goto (tgt := 35) C dX0_gather_193 (by decide) ?_
                  refine j_lv (lv' := [(7, .int (nI (i + 1))), (6, .int 1), (5, .int 0), (4, .int ((((Q_X0_gather_4_12 v f b i base room num inT v1 f1) : Int64).toInt32) / 16)), (3, .int (((Q_X0_gather_4_11 v f b i base room num inT v1 f1) : Int64).toInt32)), (0, .ref (ad 7)), (1, .ref (ad 4)), (2, .int b)]) [0, 4, 1, 2, 3, 7, 8, 9] rfl ?_
                  exact ih1 (i + 1) (((Q_X0_gather_4_11 v f b i base room num inT v1 f1) : Int64).toInt32) ((((Q_X0_gather_4_12 v f b i base room num inT v1 f1) : Int64).toInt32) / 16) 0 1 v1 f1 hp1 (by have := le16 c_1; omega) (by have := le16 c_1; omega) (by rw [← hS1, L_X0_gather_4]; rw [if_neg c_1, if_pos c_2, if_neg c_3, if_neg c_9, if_pos c_10, if_neg c_11])
                · refine j_iconst (x := 0) C dX0_gather_101 (by decide) ?_
                  have hs : S_X0_gather_4 v f b = (0, v1, f1) := by rw [← hS1, L_X0_gather_4]; rw [if_neg c_1, if_pos c_2, if_neg c_3, if_neg c_9, if_pos c_10, if_pos c_11]
                  exact j_zret C hQ rfl rfl dX0_gather_102 (dt_ivf hs)
        · refine j_iconst (x := 0) C dX0_gather_49 (by decide) ?_
          have hs : S_X0_gather_4 v f b = (0, v1, f1) := by rw [← hS1, L_X0_gather_4]; rw [if_neg c_1, if_neg c_2]
          exact j_zret C hQ rfl rfl dX0_gather_50 (dt_ivf hs)
  exact hw1 18 0 ((upd (S_X0_forget v f) 34 (S_X6_nextHead_4 (S_X0_forget v f) f)) 6) ((upd (S_X0_forget v f) 34 (S_X6_nextHead_4 (S_X0_forget v f) f)) 5) (S_X6_nextHead_4 (S_X0_forget v f) f) 0 (upd (S_X0_forget v f) 34 (S_X6_nextHead_4 (S_X0_forget v f) f)) f (Int.le_refl 0) (by omega) (by omega) rfl

def Q_X0_gather_5_1 (v : Nat → Int32) (f : Nat → Nat → Int32) (b : Int32) (i : Nat) (base : Int32) (room : Int32) (num : Int32) (inT : Int32) (v1 : (Nat → Int32)) (f1 : (Nat → Nat → Int32)) : Int32 := (S_X5_two v1 f1 ((base + (16 * num)) + 12))
def Q_X0_gather_5_2 (v : Nat → Int32) (f : Nat → Nat → Int32) (b : Int32) (i : Nat) (base : Int32) (room : Int32) (num : Int32) (inT : Int32) (v1 : (Nat → Int32)) (f1 : (Nat → Nat → Int32)) : Int32 := ((S_X0_addPart v1 f1 (base + (16 * num)) 0).1)
def Q_X0_gather_5_3 (v : Nat → Int32) (f : Nat → Nat → Int32) (b : Int32) (i : Nat) (base : Int32) (room : Int32) (num : Int32) (inT : Int32) (v1 : (Nat → Int32)) (f1 : (Nat → Nat → Int32)) : (Nat → Int32) := ((S_X0_addPart v1 f1 (base + (16 * num)) 0).2.1)
def Q_X0_gather_5_4 (v : Nat → Int32) (f : Nat → Nat → Int32) (b : Int32) (i : Nat) (base : Int32) (room : Int32) (num : Int32) (inT : Int32) (v1 : (Nat → Int32)) (f1 : (Nat → Nat → Int32)) : (Nat → Nat → Int32) := ((S_X0_addPart v1 f1 (base + (16 * num)) 0).2.2)
def Q_X0_gather_5_5 (v : Nat → Int32) (f : Nat → Nat → Int32) (b : Int32) (i : Nat) (base : Int32) (room : Int32) (num : Int32) (inT : Int32) (v1 : (Nat → Int32)) (f1 : (Nat → Nat → Int32)) : Int32 := (S_X5_two (Q_X0_gather_5_3 v f b i base room num inT v1 f1) (Q_X0_gather_5_4 v f b i base room num inT v1 f1) ((base + (16 * num)) + 14))
def Q_X0_gather_5_6 (v : Nat → Int32) (f : Nat → Nat → Int32) (b : Int32) (i : Nat) (base : Int32) (room : Int32) (num : Int32) (inT : Int32) (v1 : (Nat → Int32)) (f1 : (Nat → Nat → Int32)) : Int32 := ((S_X0_addPart v1 f1 (base + (16 * num)) 1).1)
def Q_X0_gather_5_7 (v : Nat → Int32) (f : Nat → Nat → Int32) (b : Int32) (i : Nat) (base : Int32) (room : Int32) (num : Int32) (inT : Int32) (v1 : (Nat → Int32)) (f1 : (Nat → Nat → Int32)) : (Nat → Int32) := ((S_X0_addPart v1 f1 (base + (16 * num)) 1).2.1)
def Q_X0_gather_5_8 (v : Nat → Int32) (f : Nat → Nat → Int32) (b : Int32) (i : Nat) (base : Int32) (room : Int32) (num : Int32) (inT : Int32) (v1 : (Nat → Int32)) (f1 : (Nat → Nat → Int32)) : (Nat → Nat → Int32) := ((S_X0_addPart v1 f1 (base + (16 * num)) 1).2.2)
def Q_X0_gather_5_9 (v : Nat → Int32) (f : Nat → Nat → Int32) (b : Int32) (i : Nat) (base : Int32) (room : Int32) (num : Int32) (inT : Int32) (v1 : (Nat → Int32)) (f1 : (Nat → Nat → Int32)) : Int32 := (S_X5_two (Q_X0_gather_5_7 v f b i base room num inT v1 f1) (Q_X0_gather_5_8 v f b i base room num inT v1 f1) ((base + (16 * num)) + 14))
def Q_X0_gather_5_10 (v : Nat → Int32) (f : Nat → Nat → Int32) (b : Int32) (i : Nat) (base : Int32) (room : Int32) (num : Int32) (inT : Int32) (v1 : (Nat → Int32)) (f1 : (Nat → Nat → Int32)) : Int32 := (S_X0_isTable v1 f1 (base + (16 * num)) (Q_X0_gather_5_1 v f b i base room num inT v1 f1))
def Q_X0_gather_5_11 (v : Nat → Int32) (f : Nat → Nat → Int32) (b : Int32) (i : Nat) (base : Int32) (room : Int32) (num : Int32) (inT : Int32) (v1 : (Nat → Int32)) (f1 : (Nat → Nat → Int32)) : Int64 := (S_X5_number v1 f1 (base + (16 * num)) 8)
def Q_X0_gather_5_12 (v : Nat → Int32) (f : Nat → Nat → Int32) (b : Int32) (i : Nat) (base : Int32) (room : Int32) (num : Int32) (inT : Int32) (v1 : (Nat → Int32)) (f1 : (Nat → Nat → Int32)) : Int64 := (S_X5_number v1 f1 ((base + (16 * num)) + 8) 4)
def L_X0_gather_5 (v : Nat → Int32) (f : Nat → Nat → Int32) (b : Int32) : Nat → Nat → Int32 → Int32 → Int32 → Int32 → (Nat → Int32) → (Nat → Nat → Int32) → Int32 × (Nat → Int32) × (Nat → Nat → Int32)
  | 0, i, base, room, num, inT, v1, f1 => (0, v1, f1)
  | d1 + 1, i, base, room, num, inT, v1, f1 =>
    if 16 < (nI i) then (0, v1, f1)
    else if num < room then if ((Q_X0_gather_5_1 v f b i base room num inT v1 f1) &&& 4) = 0 then if ((Q_X0_gather_5_1 v f b i base room num inT v1 f1) &&& 2) = 0 then if (Q_X0_gather_5_2 v f b i base room num inT v1 f1) = 0 then (0, (Q_X0_gather_5_3 v f b i base room num inT v1 f1), (Q_X0_gather_5_4 v f b i base room num inT v1 f1))
            else if ((Q_X0_gather_5_1 v f b i base room num inT v1 f1) &&& 1) = 0 then (1, (Q_X0_gather_5_3 v f b i base room num inT v1 f1), (Q_X0_gather_5_4 v f b i base room num inT v1 f1))
              else (L_X0_gather_5 v f b d1 (i + 1) base room (Q_X0_gather_5_5 v f b i base room num inT v1 f1) inT (Q_X0_gather_5_3 v f b i base room num inT v1 f1) (Q_X0_gather_5_4 v f b i base room num inT v1 f1))
          else if (Q_X0_gather_5_6 v f b i base room num inT v1 f1) = 0 then (0, (Q_X0_gather_5_7 v f b i base room num inT v1 f1), (Q_X0_gather_5_8 v f b i base room num inT v1 f1))
            else if ((Q_X0_gather_5_1 v f b i base room num inT v1 f1) &&& 1) = 0 then (1, (Q_X0_gather_5_7 v f b i base room num inT v1 f1), (Q_X0_gather_5_8 v f b i base room num inT v1 f1))
              else (L_X0_gather_5 v f b d1 (i + 1) base room (Q_X0_gather_5_9 v f b i base room num inT v1 f1) inT (Q_X0_gather_5_7 v f b i base room num inT v1 f1) (Q_X0_gather_5_8 v f b i base room num inT v1 f1))
        else if b = 0 then (0, v1, f1)
          else if inT = 0 then if (Q_X0_gather_5_10 v f b i base room num inT v1 f1) = 0 then (0, v1, f1)
              else (L_X0_gather_5 v f b d1 (i + 1) (((Q_X0_gather_5_11 v f b i base room num inT v1 f1) : Int64).toInt32) ((((Q_X0_gather_5_12 v f b i base room num inT v1 f1) : Int64).toInt32) / 16) 0 1 v1 f1)
            else (0, v1, f1)
      else (0, v1, f1)
def S_X0_gather_5 (v : Nat → Int32) (f : Nat → Nat → Int32) (b : Int32) : Int32 × (Nat → Int32) × (Nat → Nat → Int32) :=
  (L_X0_gather_5 v f b 18 0 ((upd (S_X0_forget v f) 34 (S_X6_nextHead_5 (S_X0_forget v f) f)) 14) ((upd (S_X0_forget v f) 34 (S_X6_nextHead_5 (S_X0_forget v f) f)) 13) (S_X6_nextHead_5 (S_X0_forget v f) f) 0 (upd (S_X0_forget v f) 34 (S_X6_nextHead_5 (S_X0_forget v f) f)) f)
set_option maxHeartbeats 1000000 in
set_option maxRecDepth 100000 in
theorem c_X0_gather_5 (ε : ET) (ad : Nat → Nat) (v : Nat → Int32) (f : Nat → Nat → Int32) (u : Nat → Int32) (g : Nat → Nat → Int32) (b : Int32)  : CT ε yX0_gather cX0_gather 10 (some .boolean) 3 72 0 0 [.ref (ad 7), .ref (ad 5), .int b] (WD ε ad v f u g) (DT (some (.int ((S_X0_gather_5 v f b).1))) (WD ε ad ((S_X0_gather_5 v f b).2.1) ((S_X0_gather_5 v f b).2.2) u g)) := by
  refine CT.of (own := RX0) (by decide) rfl (Nat.le_of_ble_eq_true rfl) (fun κ C hQ => ?_)
  refine j_aload_n (i := 0) C dX0_gather_0 rfl 0 rfl ?_
  refine c_V (As := []) (rest := []) (st1 := []) C (c_X0_forget ε ad v f u g   ) mv_X0_forget lm_X0_38 dX0_gather_1 7 wl_7 rfl rfl rfl (by decide) (Nat.le_of_ble_eq_true rfl) rfl ?_
  refine j_aload_n (i := 0) C dX0_gather_4 rfl 0 rfl ?_
  refine j_aload_n (i := 1) C dX0_gather_5 rfl 1 rfl ?_
  refine c_V (As := []) (rest := [.ref (ad 7)]) (st1 := [.int (S_X6_nextHead_5 (S_X0_forget v f) f), .ref (ad 7)]) C (c_X6_nextHead_5 ε ad (S_X0_forget v f) f u g   ) mv_X6_nextHead lm_X0_41 dX0_gather_6 5 wl_5 rfl rfl rfl (by decide) (Nat.le_of_ble_eq_true rfl) rfl ?_
  refine p_7_head C dX0_gather_9 lf_X0_47 ?_
  refine j_aload_n (i := 1) C dX0_gather_12 rfl 1 rfl ?_
  refine g_5_descriptors (x := ((upd (S_X0_forget v f) 34 (S_X6_nextHead_5 (S_X0_forget v f) f)) 14)) C dX0_gather_13 lf_X0_50 rfl ?_
  refine j_istore_n (i := 3) (lv' := [(3, .int ((upd (S_X0_forget v f) 34 (S_X6_nextHead_5 (S_X0_forget v f) f)) 14)), (0, .ref (ad 7)), (1, .ref (ad 5)), (2, .int b)]) C dX0_gather_16 rfl (by decide) rfl ?_
  refine j_aload_n (i := 1) C dX0_gather_17 rfl 2 rfl ?_
  refine g_5_size (x := ((upd (S_X0_forget v f) 34 (S_X6_nextHead_5 (S_X0_forget v f) f)) 13)) C dX0_gather_18 lf_X0_53 rfl ?_
  refine j_istore (i := 4) (lv' := [(4, .int ((upd (S_X0_forget v f) 34 (S_X6_nextHead_5 (S_X0_forget v f) f)) 13)), (3, .int ((upd (S_X0_forget v f) 34 (S_X6_nextHead_5 (S_X0_forget v f) f)) 14)), (0, .ref (ad 7)), (1, .ref (ad 5)), (2, .int b)]) C dX0_gather_21 (by decide) rfl ?_
  refine j_aload_n (i := 0) C dX0_gather_23 rfl 2 rfl ?_
  refine g_7_head (x := (S_X6_nextHead_5 (S_X0_forget v f) f)) C dX0_gather_24 lf_X0_47 rfl ?_
  refine j_istore (i := 5) (lv' := [(5, .int (S_X6_nextHead_5 (S_X0_forget v f) f)), (4, .int ((upd (S_X0_forget v f) 34 (S_X6_nextHead_5 (S_X0_forget v f) f)) 13)), (3, .int ((upd (S_X0_forget v f) 34 (S_X6_nextHead_5 (S_X0_forget v f) f)) 14)), (0, .ref (ad 7)), (1, .ref (ad 5)), (2, .int b)]) C dX0_gather_27 (by decide) rfl ?_
  refine j_iconst (x := 0) C dX0_gather_29 (by decide) ?_
  refine j_istore (i := 6) (lv' := [(6, .int 0), (5, .int (S_X6_nextHead_5 (S_X0_forget v f) f)), (4, .int ((upd (S_X0_forget v f) 34 (S_X6_nextHead_5 (S_X0_forget v f) f)) 13)), (3, .int ((upd (S_X0_forget v f) 34 (S_X6_nextHead_5 (S_X0_forget v f) f)) 14)), (0, .ref (ad 7)), (1, .ref (ad 5)), (2, .int b)]) C dX0_gather_30 (by decide) rfl ?_
  refine j_iconst (x := 0) C dX0_gather_32 (by decide) ?_
  refine j_istore (i := 7) (lv' := [(7, .int 0), (6, .int 0), (5, .int (S_X6_nextHead_5 (S_X0_forget v f) f)), (4, .int ((upd (S_X0_forget v f) 34 (S_X6_nextHead_5 (S_X0_forget v f) f)) 13)), (3, .int ((upd (S_X0_forget v f) 34 (S_X6_nextHead_5 (S_X0_forget v f) f)) 14)), (0, .ref (ad 7)), (1, .ref (ad 5)), (2, .int b)]) C dX0_gather_33 (by decide) rfl ?_
  have hw1 : ∀ (d1 : Nat) (i : Nat) (base : Int32) (room : Int32) (num : Int32) (inT : Int32) (v1 : (Nat → Int32)) (f1 : (Nat → Nat → Int32)), (0 ≤ (v1 28).toInt) → (i ≤ 17) → 17 - i < d1 → L_X0_gather_5 v f b d1 i base room num inT v1 f1 = S_X0_gather_5 v f b → JW κ 0 0 (WD ε ad v1 f1 u g) 35 [(7, .int (nI i)), (6, .int inT), (5, .int num), (4, .int room), (3, .int base), (0, .ref (ad 7)), (1, .ref (ad 5)), (2, .int b)] [] := by
    intro d1
    induction d1 with
    | zero => intro i base room num inT v1 f1 hp1 hi hm9 _; exact absurd hm9 (Nat.not_lt_zero _)
    | succ d1 ih1 =>
      intro i base room num inT v1 f1 hp1 hi hm1 hS1
      have le16 : ¬ (16 : Int32) < (nI i) → i ≤ 16 := fun h => by rcases Nat.lt_or_ge 16 i with q | q; exact absurd (nI_lt (a := 16) (b := i) q (by omega)) h; exact q
      refine j_iload (i := 7) C dX0_gather_35 0 rfl ?_
      refine j_bipush (x := 16) C dX0_gather_37 (by decide) ?_
      refine j_icmp_gt (tgt := 196) C dX0_gather_39 (by decide) (fun c_1 => ?_) (fun c_1 => ?_)
      · refine j_iconst (x := 0) C dX0_gather_196 (by decide) ?_
        have hs : S_X0_gather_5 v f b = (0, v1, f1) := by rw [← hS1, L_X0_gather_5]; rw [if_pos c_1]
        exact j_zret C hQ rfl rfl dX0_gather_197 (dt_ivf hs)
      · refine j_iload (i := 5) C dX0_gather_42 2 rfl ?_
        refine j_iload (i := 4) C dX0_gather_44 3 rfl ?_
        refine j_icmp_lt (tgt := 51) C dX0_gather_46 (by decide) (fun c_2 => ?_) (fun c_2 => ?_)
        · refine j_iload_n (i := 3) C dX0_gather_51 rfl 4 rfl ?_
          refine j_bipush (x := 16) C dX0_gather_52 (by decide) ?_
          refine j_iload (i := 5) C dX0_gather_54 2 rfl ?_
          refine j_imul C dX0_gather_56 ?_
          refine j_iadd C dX0_gather_57 ?_
          refine j_istore (i := 8) (lv' := [(8, .int (base + (16 * num))), (7, .int (nI i)), (6, .int inT), (5, .int num), (4, .int room), (3, .int base), (0, .ref (ad 7)), (1, .ref (ad 5)), (2, .int b)]) C dX0_gather_58 (by decide) rfl ?_
          refine j_aload_n (i := 0) C dX0_gather_60 rfl 6 rfl ?_
          refine g_7_memory C dX0_gather_61 lf_X0_9 ?_
          refine j_iload (i := 8) C dX0_gather_64 0 rfl ?_
          refine j_bipush (x := 12) C dX0_gather_66 (by decide) ?_
          refine j_iadd C dX0_gather_68 ?_
          refine c_V (As := [.int ((base + (16 * num)) + 12)]) (rest := []) (st1 := [.int (Q_X0_gather_5_1 v f b i base room num inT v1 f1)]) C (c_X5_two ε ad v1 f1 u g ((base + (16 * num)) + 12)  ) mv_X5_two lm_X0_56 dX0_gather_69 1 wl_1 rfl rfl rfl (by decide) (Nat.le_of_ble_eq_true rfl) rfl ?_
          refine j_istore (i := 9) (lv' := [(9, .int (Q_X0_gather_5_1 v f b i base room num inT v1 f1)), (8, .int (base + (16 * num))), (7, .int (nI i)), (6, .int inT), (5, .int num), (4, .int room), (3, .int base), (0, .ref (ad 7)), (1, .ref (ad 5)), (2, .int b)]) C dX0_gather_72 (by decide) rfl ?_
          refine j_iload (i := 9) C dX0_gather_74 0 rfl ?_
          refine j_iconst (x := 4) C dX0_gather_76 (by decide) ?_
          refine j_iand C dX0_gather_77 ?_
          refine j_if_eq (tgt := 144) C dX0_gather_78 (by decide) (fun c_3 => ?_) (fun c_3 => ?_)
          · refine j_aload_n (i := 0) C dX0_gather_144 rfl 7 rfl ?_
            refine j_iload (i := 8) C dX0_gather_145 1 rfl ?_
            refine j_iload (i := 9) C dX0_gather_147 0 rfl ?_
            refine j_iconst (x := 2) C dX0_gather_149 (by decide) ?_
            refine j_iand C dX0_gather_150 ?_
            refine j_if_eq (tgt := 158) C dX0_gather_151 (by decide) (fun c_4 => ?_) (fun c_4 => ?_)
            · refine j_iconst (x := 0) C dX0_gather_158 (by decide) ?_
              refine c_V (As := [.int (base + (16 * num)), .int 0]) (rest := []) (st1 := [.int (Q_X0_gather_5_2 v f b i base room num inT v1 f1)]) (ω1 := (WD ε ad (Q_X0_gather_5_3 v f b i base room num inT v1 f1) (Q_X0_gather_5_4 v f b i base room num inT v1 f1) u g)) C (c_X0_addPart ε ad v1 f1 u g (base + (16 * num)) 0  hp1) mv_X0_addPart lm_X0_70 dX0_gather_159 7 wl_7 rfl rfl rfl (by decide) (Nat.le_of_ble_eq_true rfl) rfl ?_
              refine j_if_ne (tgt := 167) C dX0_gather_162 (by decide) (fun c_5 => ?_) (fun c_5 => ?_)
              · refine j_iload (i := 9) C dX0_gather_167 0 rfl ?_
                refine j_iconst (x := 1) C dX0_gather_169 (by decide) ?_
                refine j_iand C dX0_gather_170 ?_
                refine j_if_ne (tgt := 176) C dX0_gather_171 (by decide) (fun c_6 => ?_) (fun c_6 => ?_)
                · refine j_aload_n (i := 0) C dX0_gather_176 rfl 7 rfl ?_
                  refine g_7_memory C dX0_gather_177 lf_X0_9 ?_
                  refine j_iload (i := 8) C dX0_gather_180 1 rfl ?_
                  refine j_bipush (x := 14) C dX0_gather_182 (by decide) ?_
                  refine j_iadd C dX0_gather_184 ?_
                  refine c_V (As := [.int ((base + (16 * num)) + 14)]) (rest := []) (st1 := [.int (Q_X0_gather_5_5 v f b i base room num inT v1 f1)]) C (c_X5_two ε ad (Q_X0_gather_5_3 v f b i base room num inT v1 f1) (Q_X0_gather_5_4 v f b i base room num inT v1 f1) u g ((base + (16 * num)) + 14)  ) mv_X5_two lm_X0_56 dX0_gather_185 1 wl_1 rfl rfl rfl (by decide) (Nat.le_of_ble_eq_true rfl) rfl ?_
                  refine j_istore (i := 5) (lv' := [(5, .int (Q_X0_gather_5_5 v f b i base room num inT v1 f1)), (9, .int (Q_X0_gather_5_1 v f b i base room num inT v1 f1)), (8, .int (base + (16 * num))), (7, .int (nI i)), (6, .int inT), (4, .int room), (3, .int base), (0, .ref (ad 7)), (1, .ref (ad 5)), (2, .int b)]) C dX0_gather_188 (by decide) rfl ?_
                  refine j_iinc (y := (nI (i + 1))) (lv' := [(7, .int (nI (i + 1))), (5, .int (Q_X0_gather_5_5 v f b i base room num inT v1 f1)), (9, .int (Q_X0_gather_5_1 v f b i base room num inT v1 f1)), (8, .int (base + (16 * num))), (6, .int inT), (4, .int room), (3, .int base), (0, .ref (ad 7)), (1, .ref (ad 5)), (2, .int b)]) C dX0_gather_190 3 rfl (nI_1 _) (by decide) rfl ?_
                  refine j_goto (tgt := 35) C dX0_gather_193 (by decide) ?_
                  refine j_lv (lv' := [(7, .int (nI (i + 1))), (6, .int inT), (5, .int (Q_X0_gather_5_5 v f b i base room num inT v1 f1)), (4, .int room), (3, .int base), (0, .ref (ad 7)), (1, .ref (ad 5)), (2, .int b)]) [0, 4, 1, 5, 6, 7, 8, 9] rfl ?_
                  exact ih1 (i + 1) base room (Q_X0_gather_5_5 v f b i base room num inT v1 f1) inT (Q_X0_gather_5_3 v f b i base room num inT v1 f1) (Q_X0_gather_5_4 v f b i base room num inT v1 f1) (ap_pos _ _ _ _ hp1) (by have := le16 c_1; omega) (by have := le16 c_1; omega) (by rw [← hS1, L_X0_gather_5]; rw [if_neg c_1, if_pos c_2, if_pos c_3, if_pos c_4, if_neg c_5, if_neg c_6])
                · refine j_iconst (x := 1) C dX0_gather_174 (by decide) ?_
                  have hs : S_X0_gather_5 v f b = (1, (Q_X0_gather_5_3 v f b i base room num inT v1 f1), (Q_X0_gather_5_4 v f b i base room num inT v1 f1)) := by rw [← hS1, L_X0_gather_5]; rw [if_neg c_1, if_pos c_2, if_pos c_3, if_pos c_4, if_neg c_5, if_pos c_6]
                  exact j_zret C hQ rfl rfl dX0_gather_175 (dt_ivf hs)
              · refine j_iconst (x := 0) C dX0_gather_165 (by decide) ?_
                have hs : S_X0_gather_5 v f b = (0, (Q_X0_gather_5_3 v f b i base room num inT v1 f1), (Q_X0_gather_5_4 v f b i base room num inT v1 f1)) := by rw [← hS1, L_X0_gather_5]; rw [if_neg c_1, if_pos c_2, if_pos c_3, if_pos c_4, if_pos c_5]
                exact j_zret C hQ rfl rfl dX0_gather_166 (dt_ivf hs)
            · refine j_iconst (x := 1) C dX0_gather_154 (by decide) ?_
              refine j_goto (tgt := 159) C dX0_gather_155 (by decide) ?_
              refine c_V (As := [.int (base + (16 * num)), .int 1]) (rest := []) (st1 := [.int (Q_X0_gather_5_6 v f b i base room num inT v1 f1)]) (ω1 := (WD ε ad (Q_X0_gather_5_7 v f b i base room num inT v1 f1) (Q_X0_gather_5_8 v f b i base room num inT v1 f1) u g)) C (c_X0_addPart ε ad v1 f1 u g (base + (16 * num)) 1  hp1) mv_X0_addPart lm_X0_70 dX0_gather_159 7 wl_7 rfl rfl rfl (by decide) (Nat.le_of_ble_eq_true rfl) rfl ?_
              refine j_if_ne (tgt := 167) C dX0_gather_162 (by decide) (fun c_7 => ?_) (fun c_7 => ?_)
              · refine j_iload (i := 9) C dX0_gather_167 0 rfl ?_
                refine j_iconst (x := 1) C dX0_gather_169 (by decide) ?_
                refine j_iand C dX0_gather_170 ?_
                refine j_if_ne (tgt := 176) C dX0_gather_171 (by decide) (fun c_8 => ?_) (fun c_8 => ?_)
                · refine j_aload_n (i := 0) C dX0_gather_176 rfl 7 rfl ?_
                  refine g_7_memory C dX0_gather_177 lf_X0_9 ?_
                  refine j_iload (i := 8) C dX0_gather_180 1 rfl ?_
                  refine j_bipush (x := 14) C dX0_gather_182 (by decide) ?_
                  refine j_iadd C dX0_gather_184 ?_
                  refine c_V (As := [.int ((base + (16 * num)) + 14)]) (rest := []) (st1 := [.int (Q_X0_gather_5_9 v f b i base room num inT v1 f1)]) C (c_X5_two ε ad (Q_X0_gather_5_7 v f b i base room num inT v1 f1) (Q_X0_gather_5_8 v f b i base room num inT v1 f1) u g ((base + (16 * num)) + 14)  ) mv_X5_two lm_X0_56 dX0_gather_185 1 wl_1 rfl rfl rfl (by decide) (Nat.le_of_ble_eq_true rfl) rfl ?_
                  refine j_istore (i := 5) (lv' := [(5, .int (Q_X0_gather_5_9 v f b i base room num inT v1 f1)), (9, .int (Q_X0_gather_5_1 v f b i base room num inT v1 f1)), (8, .int (base + (16 * num))), (7, .int (nI i)), (6, .int inT), (4, .int room), (3, .int base), (0, .ref (ad 7)), (1, .ref (ad 5)), (2, .int b)]) C dX0_gather_188 (by decide) rfl ?_
                  refine j_iinc (y := (nI (i + 1))) (lv' := [(7, .int (nI (i + 1))), (5, .int (Q_X0_gather_5_9 v f b i base room num inT v1 f1)), (9, .int (Q_X0_gather_5_1 v f b i base room num inT v1 f1)), (8, .int (base + (16 * num))), (6, .int inT), (4, .int room), (3, .int base), (0, .ref (ad 7)), (1, .ref (ad 5)), (2, .int b)]) C dX0_gather_190 3 rfl (nI_1 _) (by decide) rfl ?_
                  refine j_goto (tgt := 35) C dX0_gather_193 (by decide) ?_
                  refine j_lv (lv' := [(7, .int (nI (i + 1))), (6, .int inT), (5, .int (Q_X0_gather_5_9 v f b i base room num inT v1 f1)), (4, .int room), (3, .int base), (0, .ref (ad 7)), (1, .ref (ad 5)), (2, .int b)]) [0, 4, 1, 5, 6, 7, 8, 9] rfl ?_
                  exact ih1 (i + 1) base room (Q_X0_gather_5_9 v f b i base room num inT v1 f1) inT (Q_X0_gather_5_7 v f b i base room num inT v1 f1) (Q_X0_gather_5_8 v f b i base room num inT v1 f1) (ap_pos _ _ _ _ hp1) (by have := le16 c_1; omega) (by have := le16 c_1; omega) (by rw [← hS1, L_X0_gather_5]; rw [if_neg c_1, if_pos c_2, if_pos c_3, if_neg c_4, if_neg c_7, if_neg c_8])
                · refine j_iconst (x := 1) C dX0_gather_174 (by decide) ?_
                  have hs : S_X0_gather_5 v f b = (1, (Q_X0_gather_5_7 v f b i base room num inT v1 f1), (Q_X0_gather_5_8 v f b i base room num inT v1 f1)) := by rw [← hS1, L_X0_gather_5]; rw [if_neg c_1, if_pos c_2, if_pos c_3, if_neg c_4, if_neg c_7, if_pos c_8]
                  exact j_zret C hQ rfl rfl dX0_gather_175 (dt_ivf hs)
              · refine j_iconst (x := 0) C dX0_gather_165 (by decide) ?_
                have hs : S_X0_gather_5 v f b = (0, (Q_X0_gather_5_7 v f b i base room num inT v1 f1), (Q_X0_gather_5_8 v f b i base room num inT v1 f1)) := by rw [← hS1, L_X0_gather_5]; rw [if_neg c_1, if_pos c_2, if_pos c_3, if_neg c_4, if_pos c_7]
                exact j_zret C hQ rfl rfl dX0_gather_166 (dt_ivf hs)
          · refine j_iload_n (i := 2) C dX0_gather_81 rfl 9 rfl ?_
            refine j_if_eq (tgt := 101) C dX0_gather_82 (by decide) (fun c_9 => ?_) (fun c_9 => ?_)
            · refine j_iconst (x := 0) C dX0_gather_101 (by decide) ?_
              have hs : S_X0_gather_5 v f b = (0, v1, f1) := by rw [← hS1, L_X0_gather_5]; rw [if_neg c_1, if_pos c_2, if_neg c_3, if_pos c_9]
              exact j_zret C hQ rfl rfl dX0_gather_102 (dt_ivf hs)
            · refine j_iload (i := 6) C dX0_gather_85 3 rfl ?_
              refine j_if_ne (tgt := 101) C dX0_gather_87 (by decide) (fun c_10 => ?_) (fun c_10 => ?_)
              · refine j_iconst (x := 0) C dX0_gather_101 (by decide) ?_
                have hs : S_X0_gather_5 v f b = (0, v1, f1) := by rw [← hS1, L_X0_gather_5]; rw [if_neg c_1, if_pos c_2, if_neg c_3, if_neg c_9, if_neg c_10]
                exact j_zret C hQ rfl rfl dX0_gather_102 (dt_ivf hs)
              · refine j_aload_n (i := 0) C dX0_gather_90 rfl 7 rfl ?_
                refine j_iload (i := 8) C dX0_gather_91 1 rfl ?_
                refine j_iload (i := 9) C dX0_gather_93 0 rfl ?_
                refine c_V (As := [.int (base + (16 * num)), .int (Q_X0_gather_5_1 v f b i base room num inT v1 f1)]) (rest := []) (st1 := [.int (Q_X0_gather_5_10 v f b i base room num inT v1 f1)]) C (c_X0_isTable ε ad v1 f1 u g (base + (16 * num)) (Q_X0_gather_5_1 v f b i base room num inT v1 f1)  ) mv_X0_isTable lm_X0_62 dX0_gather_95 7 wl_7 rfl rfl rfl (by decide) (Nat.le_of_ble_eq_true rfl) rfl ?_
                refine j_if_ne (tgt := 103) C dX0_gather_98 (by decide) (fun c_11 => ?_) (fun c_11 => ?_)
                · refine j_iconst (x := 1) C dX0_gather_103 (by decide) ?_
                  refine j_istore (i := 6) (lv' := [(6, .int 1), (9, .int (Q_X0_gather_5_1 v f b i base room num inT v1 f1)), (8, .int (base + (16 * num))), (7, .int (nI i)), (5, .int num), (4, .int room), (3, .int base), (0, .ref (ad 7)), (1, .ref (ad 5)), (2, .int b)]) C dX0_gather_104 (by decide) rfl ?_
                  refine j_aload_n (i := 0) C dX0_gather_106 rfl 7 rfl ?_
                  refine g_7_memory C dX0_gather_107 lf_X0_9 ?_
                  refine j_iload (i := 8) C dX0_gather_110 2 rfl ?_
                  refine j_bipush (x := 8) C dX0_gather_112 (by decide) ?_
                  refine c_V (As := [.int (base + (16 * num)), .int 8]) (rest := []) (st1 := [.long (Q_X0_gather_5_11 v f b i base room num inT v1 f1)]) C (c_X5_number ε ad v1 f1 u g (base + (16 * num)) 8  (by first | assumption | omega | decide)) mv_X5_number lm_X0_66 dX0_gather_114 1 wl_1 rfl rfl rfl (by decide) (Nat.le_of_ble_eq_true rfl) rfl ?_
                  refine j_l2i C dX0_gather_117 ?_
                  refine j_istore_n (i := 3) (lv' := [(3, .int (((Q_X0_gather_5_11 v f b i base room num inT v1 f1) : Int64).toInt32)), (6, .int 1), (9, .int (Q_X0_gather_5_1 v f b i base room num inT v1 f1)), (8, .int (base + (16 * num))), (7, .int (nI i)), (5, .int num), (4, .int room), (0, .ref (ad 7)), (1, .ref (ad 5)), (2, .int b)]) C dX0_gather_118 rfl (by decide) rfl ?_
                  refine j_aload_n (i := 0) C dX0_gather_119 rfl 7 rfl ?_
                  refine g_7_memory C dX0_gather_120 lf_X0_9 ?_
                  refine j_iload (i := 8) C dX0_gather_123 3 rfl ?_
                  refine j_bipush (x := 8) C dX0_gather_125 (by decide) ?_
                  refine j_iadd C dX0_gather_127 ?_
                  refine j_iconst (x := 4) C dX0_gather_128 (by decide) ?_
                  refine c_V (As := [.int ((base + (16 * num)) + 8), .int 4]) (rest := []) (st1 := [.long (Q_X0_gather_5_12 v f b i base room num inT v1 f1)]) C (c_X5_number ε ad v1 f1 u g ((base + (16 * num)) + 8) 4  (by first | assumption | omega | decide)) mv_X5_number lm_X0_66 dX0_gather_129 1 wl_1 rfl rfl rfl (by decide) (Nat.le_of_ble_eq_true rfl) rfl ?_
                  refine j_l2i C dX0_gather_132 ?_
                  refine j_bipush (x := 16) C dX0_gather_133 (by decide) ?_
                  refine j_idiv C dX0_gather_135 (by decide) ?_
                  refine j_istore (i := 4) (lv' := [(4, .int ((((Q_X0_gather_5_12 v f b i base room num inT v1 f1) : Int64).toInt32) / 16)), (3, .int (((Q_X0_gather_5_11 v f b i base room num inT v1 f1) : Int64).toInt32)), (6, .int 1), (9, .int (Q_X0_gather_5_1 v f b i base room num inT v1 f1)), (8, .int (base + (16 * num))), (7, .int (nI i)), (5, .int num), (0, .ref (ad 7)), (1, .ref (ad 5)), (2, .int b)]) C dX0_gather_136 (by decide) rfl ?_
                  refine j_iconst (x := 0) C dX0_gather_138 (by decide) ?_
                  refine j_istore (i := 5) (lv' := [(5, .int 0), (4, .int ((((Q_X0_gather_5_12 v f b i base room num inT v1 f1) : Int64).toInt32) / 16)), (3, .int (((Q_X0_gather_5_11 v f b i base room num inT v1 f1) : Int64).toInt32)), (6, .int 1), (9, .int (Q_X0_gather_5_1 v f b i base room num inT v1 f1)), (8, .int (base + (16 * num))), (7, .int (nI i)), (0, .ref (ad 7)), (1, .ref (ad 5)), (2, .int b)]) C dX0_gather_139 (by decide) rfl ?_
                  refine j_goto (tgt := 190) C dX0_gather_141 (by decide) ?_
                  refine j_iinc (y := (nI (i + 1))) (lv' := [(7, .int (nI (i + 1))), (5, .int 0), (4, .int ((((Q_X0_gather_5_12 v f b i base room num inT v1 f1) : Int64).toInt32) / 16)), (3, .int (((Q_X0_gather_5_11 v f b i base room num inT v1 f1) : Int64).toInt32)), (6, .int 1), (9, .int (Q_X0_gather_5_1 v f b i base room num inT v1 f1)), (8, .int (base + (16 * num))), (0, .ref (ad 7)), (1, .ref (ad 5)), (2, .int b)]) C dX0_gather_190 6 rfl (nI_1 _) (by decide) rfl ?_
                  refine j_goto (tgt := 35) C dX0_gather_193 (by decide) ?_
                  refine j_lv (lv' := [(7, .int (nI (i + 1))), (6, .int 1), (5, .int 0), (4, .int ((((Q_X0_gather_5_12 v f b i base room num inT v1 f1) : Int64).toInt32) / 16)), (3, .int (((Q_X0_gather_5_11 v f b i base room num inT v1 f1) : Int64).toInt32)), (0, .ref (ad 7)), (1, .ref (ad 5)), (2, .int b)]) [0, 4, 1, 2, 3, 7, 8, 9] rfl ?_
                  exact ih1 (i + 1) (((Q_X0_gather_5_11 v f b i base room num inT v1 f1) : Int64).toInt32) ((((Q_X0_gather_5_12 v f b i base room num inT v1 f1) : Int64).toInt32) / 16) 0 1 v1 f1 hp1 (by have := le16 c_1; omega) (by have := le16 c_1; omega) (by rw [← hS1, L_X0_gather_5]; rw [if_neg c_1, if_pos c_2, if_neg c_3, if_neg c_9, if_pos c_10, if_neg c_11])
                · refine j_iconst (x := 0) C dX0_gather_101 (by decide) ?_
                  have hs : S_X0_gather_5 v f b = (0, v1, f1) := by rw [← hS1, L_X0_gather_5]; rw [if_neg c_1, if_pos c_2, if_neg c_3, if_neg c_9, if_pos c_10, if_pos c_11]
                  exact j_zret C hQ rfl rfl dX0_gather_102 (dt_ivf hs)
        · refine j_iconst (x := 0) C dX0_gather_49 (by decide) ?_
          have hs : S_X0_gather_5 v f b = (0, v1, f1) := by rw [← hS1, L_X0_gather_5]; rw [if_neg c_1, if_neg c_2]
          exact j_zret C hQ rfl rfl dX0_gather_50 (dt_ivf hs)
  exact hw1 18 0 ((upd (S_X0_forget v f) 34 (S_X6_nextHead_5 (S_X0_forget v f) f)) 14) ((upd (S_X0_forget v f) 34 (S_X6_nextHead_5 (S_X0_forget v f) f)) 13) (S_X6_nextHead_5 (S_X0_forget v f) f) 0 (upd (S_X0_forget v f) 34 (S_X6_nextHead_5 (S_X0_forget v f) f)) f (Int.le_refl 0) (by omega) (by omega) rfl

def Q_X0_gather_6_1 (v : Nat → Int32) (f : Nat → Nat → Int32) (b : Int32) (i : Nat) (base : Int32) (room : Int32) (num : Int32) (inT : Int32) (v1 : (Nat → Int32)) (f1 : (Nat → Nat → Int32)) : Int32 := (S_X5_two v1 f1 ((base + (16 * num)) + 12))
def Q_X0_gather_6_2 (v : Nat → Int32) (f : Nat → Nat → Int32) (b : Int32) (i : Nat) (base : Int32) (room : Int32) (num : Int32) (inT : Int32) (v1 : (Nat → Int32)) (f1 : (Nat → Nat → Int32)) : Int32 := ((S_X0_addPart v1 f1 (base + (16 * num)) 0).1)
def Q_X0_gather_6_3 (v : Nat → Int32) (f : Nat → Nat → Int32) (b : Int32) (i : Nat) (base : Int32) (room : Int32) (num : Int32) (inT : Int32) (v1 : (Nat → Int32)) (f1 : (Nat → Nat → Int32)) : (Nat → Int32) := ((S_X0_addPart v1 f1 (base + (16 * num)) 0).2.1)
def Q_X0_gather_6_4 (v : Nat → Int32) (f : Nat → Nat → Int32) (b : Int32) (i : Nat) (base : Int32) (room : Int32) (num : Int32) (inT : Int32) (v1 : (Nat → Int32)) (f1 : (Nat → Nat → Int32)) : (Nat → Nat → Int32) := ((S_X0_addPart v1 f1 (base + (16 * num)) 0).2.2)
def Q_X0_gather_6_5 (v : Nat → Int32) (f : Nat → Nat → Int32) (b : Int32) (i : Nat) (base : Int32) (room : Int32) (num : Int32) (inT : Int32) (v1 : (Nat → Int32)) (f1 : (Nat → Nat → Int32)) : Int32 := (S_X5_two (Q_X0_gather_6_3 v f b i base room num inT v1 f1) (Q_X0_gather_6_4 v f b i base room num inT v1 f1) ((base + (16 * num)) + 14))
def Q_X0_gather_6_6 (v : Nat → Int32) (f : Nat → Nat → Int32) (b : Int32) (i : Nat) (base : Int32) (room : Int32) (num : Int32) (inT : Int32) (v1 : (Nat → Int32)) (f1 : (Nat → Nat → Int32)) : Int32 := ((S_X0_addPart v1 f1 (base + (16 * num)) 1).1)
def Q_X0_gather_6_7 (v : Nat → Int32) (f : Nat → Nat → Int32) (b : Int32) (i : Nat) (base : Int32) (room : Int32) (num : Int32) (inT : Int32) (v1 : (Nat → Int32)) (f1 : (Nat → Nat → Int32)) : (Nat → Int32) := ((S_X0_addPart v1 f1 (base + (16 * num)) 1).2.1)
def Q_X0_gather_6_8 (v : Nat → Int32) (f : Nat → Nat → Int32) (b : Int32) (i : Nat) (base : Int32) (room : Int32) (num : Int32) (inT : Int32) (v1 : (Nat → Int32)) (f1 : (Nat → Nat → Int32)) : (Nat → Nat → Int32) := ((S_X0_addPart v1 f1 (base + (16 * num)) 1).2.2)
def Q_X0_gather_6_9 (v : Nat → Int32) (f : Nat → Nat → Int32) (b : Int32) (i : Nat) (base : Int32) (room : Int32) (num : Int32) (inT : Int32) (v1 : (Nat → Int32)) (f1 : (Nat → Nat → Int32)) : Int32 := (S_X5_two (Q_X0_gather_6_7 v f b i base room num inT v1 f1) (Q_X0_gather_6_8 v f b i base room num inT v1 f1) ((base + (16 * num)) + 14))
def Q_X0_gather_6_10 (v : Nat → Int32) (f : Nat → Nat → Int32) (b : Int32) (i : Nat) (base : Int32) (room : Int32) (num : Int32) (inT : Int32) (v1 : (Nat → Int32)) (f1 : (Nat → Nat → Int32)) : Int32 := (S_X0_isTable v1 f1 (base + (16 * num)) (Q_X0_gather_6_1 v f b i base room num inT v1 f1))
def Q_X0_gather_6_11 (v : Nat → Int32) (f : Nat → Nat → Int32) (b : Int32) (i : Nat) (base : Int32) (room : Int32) (num : Int32) (inT : Int32) (v1 : (Nat → Int32)) (f1 : (Nat → Nat → Int32)) : Int64 := (S_X5_number v1 f1 (base + (16 * num)) 8)
def Q_X0_gather_6_12 (v : Nat → Int32) (f : Nat → Nat → Int32) (b : Int32) (i : Nat) (base : Int32) (room : Int32) (num : Int32) (inT : Int32) (v1 : (Nat → Int32)) (f1 : (Nat → Nat → Int32)) : Int64 := (S_X5_number v1 f1 ((base + (16 * num)) + 8) 4)
def L_X0_gather_6 (v : Nat → Int32) (f : Nat → Nat → Int32) (b : Int32) : Nat → Nat → Int32 → Int32 → Int32 → Int32 → (Nat → Int32) → (Nat → Nat → Int32) → Int32 × (Nat → Int32) × (Nat → Nat → Int32)
  | 0, i, base, room, num, inT, v1, f1 => (0, v1, f1)
  | d1 + 1, i, base, room, num, inT, v1, f1 =>
    if 16 < (nI i) then (0, v1, f1)
    else if num < room then if ((Q_X0_gather_6_1 v f b i base room num inT v1 f1) &&& 4) = 0 then if ((Q_X0_gather_6_1 v f b i base room num inT v1 f1) &&& 2) = 0 then if (Q_X0_gather_6_2 v f b i base room num inT v1 f1) = 0 then (0, (Q_X0_gather_6_3 v f b i base room num inT v1 f1), (Q_X0_gather_6_4 v f b i base room num inT v1 f1))
            else if ((Q_X0_gather_6_1 v f b i base room num inT v1 f1) &&& 1) = 0 then (1, (Q_X0_gather_6_3 v f b i base room num inT v1 f1), (Q_X0_gather_6_4 v f b i base room num inT v1 f1))
              else (L_X0_gather_6 v f b d1 (i + 1) base room (Q_X0_gather_6_5 v f b i base room num inT v1 f1) inT (Q_X0_gather_6_3 v f b i base room num inT v1 f1) (Q_X0_gather_6_4 v f b i base room num inT v1 f1))
          else if (Q_X0_gather_6_6 v f b i base room num inT v1 f1) = 0 then (0, (Q_X0_gather_6_7 v f b i base room num inT v1 f1), (Q_X0_gather_6_8 v f b i base room num inT v1 f1))
            else if ((Q_X0_gather_6_1 v f b i base room num inT v1 f1) &&& 1) = 0 then (1, (Q_X0_gather_6_7 v f b i base room num inT v1 f1), (Q_X0_gather_6_8 v f b i base room num inT v1 f1))
              else (L_X0_gather_6 v f b d1 (i + 1) base room (Q_X0_gather_6_9 v f b i base room num inT v1 f1) inT (Q_X0_gather_6_7 v f b i base room num inT v1 f1) (Q_X0_gather_6_8 v f b i base room num inT v1 f1))
        else if b = 0 then (0, v1, f1)
          else if inT = 0 then if (Q_X0_gather_6_10 v f b i base room num inT v1 f1) = 0 then (0, v1, f1)
              else (L_X0_gather_6 v f b d1 (i + 1) (((Q_X0_gather_6_11 v f b i base room num inT v1 f1) : Int64).toInt32) ((((Q_X0_gather_6_12 v f b i base room num inT v1 f1) : Int64).toInt32) / 16) 0 1 v1 f1)
            else (0, v1, f1)
      else (0, v1, f1)
def S_X0_gather_6 (v : Nat → Int32) (f : Nat → Nat → Int32) (b : Int32) : Int32 × (Nat → Int32) × (Nat → Nat → Int32) :=
  (L_X0_gather_6 v f b 18 0 ((upd (S_X0_forget v f) 34 (S_X6_nextHead_6 (S_X0_forget v f) f)) 22) ((upd (S_X0_forget v f) 34 (S_X6_nextHead_6 (S_X0_forget v f) f)) 21) (S_X6_nextHead_6 (S_X0_forget v f) f) 0 (upd (S_X0_forget v f) 34 (S_X6_nextHead_6 (S_X0_forget v f) f)) f)
set_option maxHeartbeats 1000000 in
set_option maxRecDepth 100000 in
theorem c_X0_gather_6 (ε : ET) (ad : Nat → Nat) (v : Nat → Int32) (f : Nat → Nat → Int32) (u : Nat → Int32) (g : Nat → Nat → Int32) (b : Int32)  : CT ε yX0_gather cX0_gather 10 (some .boolean) 3 72 0 0 [.ref (ad 7), .ref (ad 6), .int b] (WD ε ad v f u g) (DT (some (.int ((S_X0_gather_6 v f b).1))) (WD ε ad ((S_X0_gather_6 v f b).2.1) ((S_X0_gather_6 v f b).2.2) u g)) := by
  refine CT.of (own := RX0) (by decide) rfl (Nat.le_of_ble_eq_true rfl) (fun κ C hQ => ?_)
  refine j_aload_n (i := 0) C dX0_gather_0 rfl 0 rfl ?_
  refine c_V (As := []) (rest := []) (st1 := []) C (c_X0_forget ε ad v f u g   ) mv_X0_forget lm_X0_38 dX0_gather_1 7 wl_7 rfl rfl rfl (by decide) (Nat.le_of_ble_eq_true rfl) rfl ?_
  refine j_aload_n (i := 0) C dX0_gather_4 rfl 0 rfl ?_
  refine j_aload_n (i := 1) C dX0_gather_5 rfl 1 rfl ?_
  refine c_V (As := []) (rest := [.ref (ad 7)]) (st1 := [.int (S_X6_nextHead_6 (S_X0_forget v f) f), .ref (ad 7)]) C (c_X6_nextHead_6 ε ad (S_X0_forget v f) f u g   ) mv_X6_nextHead lm_X0_41 dX0_gather_6 6 wl_6 rfl rfl rfl (by decide) (Nat.le_of_ble_eq_true rfl) rfl ?_
  refine p_7_head C dX0_gather_9 lf_X0_47 ?_
  refine j_aload_n (i := 1) C dX0_gather_12 rfl 1 rfl ?_
  refine g_6_descriptors (x := ((upd (S_X0_forget v f) 34 (S_X6_nextHead_6 (S_X0_forget v f) f)) 22)) C dX0_gather_13 lf_X0_50 rfl ?_
  refine j_istore_n (i := 3) (lv' := [(3, .int ((upd (S_X0_forget v f) 34 (S_X6_nextHead_6 (S_X0_forget v f) f)) 22)), (0, .ref (ad 7)), (1, .ref (ad 6)), (2, .int b)]) C dX0_gather_16 rfl (by decide) rfl ?_
  refine j_aload_n (i := 1) C dX0_gather_17 rfl 2 rfl ?_
  refine g_6_size (x := ((upd (S_X0_forget v f) 34 (S_X6_nextHead_6 (S_X0_forget v f) f)) 21)) C dX0_gather_18 lf_X0_53 rfl ?_
  refine j_istore (i := 4) (lv' := [(4, .int ((upd (S_X0_forget v f) 34 (S_X6_nextHead_6 (S_X0_forget v f) f)) 21)), (3, .int ((upd (S_X0_forget v f) 34 (S_X6_nextHead_6 (S_X0_forget v f) f)) 22)), (0, .ref (ad 7)), (1, .ref (ad 6)), (2, .int b)]) C dX0_gather_21 (by decide) rfl ?_
  refine j_aload_n (i := 0) C dX0_gather_23 rfl 2 rfl ?_
  refine g_7_head (x := (S_X6_nextHead_6 (S_X0_forget v f) f)) C dX0_gather_24 lf_X0_47 rfl ?_
  refine j_istore (i := 5) (lv' := [(5, .int (S_X6_nextHead_6 (S_X0_forget v f) f)), (4, .int ((upd (S_X0_forget v f) 34 (S_X6_nextHead_6 (S_X0_forget v f) f)) 21)), (3, .int ((upd (S_X0_forget v f) 34 (S_X6_nextHead_6 (S_X0_forget v f) f)) 22)), (0, .ref (ad 7)), (1, .ref (ad 6)), (2, .int b)]) C dX0_gather_27 (by decide) rfl ?_
  refine j_iconst (x := 0) C dX0_gather_29 (by decide) ?_
  refine j_istore (i := 6) (lv' := [(6, .int 0), (5, .int (S_X6_nextHead_6 (S_X0_forget v f) f)), (4, .int ((upd (S_X0_forget v f) 34 (S_X6_nextHead_6 (S_X0_forget v f) f)) 21)), (3, .int ((upd (S_X0_forget v f) 34 (S_X6_nextHead_6 (S_X0_forget v f) f)) 22)), (0, .ref (ad 7)), (1, .ref (ad 6)), (2, .int b)]) C dX0_gather_30 (by decide) rfl ?_
  refine j_iconst (x := 0) C dX0_gather_32 (by decide) ?_
  refine j_istore (i := 7) (lv' := [(7, .int 0), (6, .int 0), (5, .int (S_X6_nextHead_6 (S_X0_forget v f) f)), (4, .int ((upd (S_X0_forget v f) 34 (S_X6_nextHead_6 (S_X0_forget v f) f)) 21)), (3, .int ((upd (S_X0_forget v f) 34 (S_X6_nextHead_6 (S_X0_forget v f) f)) 22)), (0, .ref (ad 7)), (1, .ref (ad 6)), (2, .int b)]) C dX0_gather_33 (by decide) rfl ?_
  have hw1 : ∀ (d1 : Nat) (i : Nat) (base : Int32) (room : Int32) (num : Int32) (inT : Int32) (v1 : (Nat → Int32)) (f1 : (Nat → Nat → Int32)), (0 ≤ (v1 28).toInt) → (i ≤ 17) → 17 - i < d1 → L_X0_gather_6 v f b d1 i base room num inT v1 f1 = S_X0_gather_6 v f b → JW κ 0 0 (WD ε ad v1 f1 u g) 35 [(7, .int (nI i)), (6, .int inT), (5, .int num), (4, .int room), (3, .int base), (0, .ref (ad 7)), (1, .ref (ad 6)), (2, .int b)] [] := by
    intro d1
    induction d1 with
    | zero => intro i base room num inT v1 f1 hp1 hi hm9 _; exact absurd hm9 (Nat.not_lt_zero _)
    | succ d1 ih1 =>
      intro i base room num inT v1 f1 hp1 hi hm1 hS1
      have le16 : ¬ (16 : Int32) < (nI i) → i ≤ 16 := fun h => by rcases Nat.lt_or_ge 16 i with q | q; exact absurd (nI_lt (a := 16) (b := i) q (by omega)) h; exact q
      refine j_iload (i := 7) C dX0_gather_35 0 rfl ?_
      refine j_bipush (x := 16) C dX0_gather_37 (by decide) ?_
      refine j_icmp_gt (tgt := 196) C dX0_gather_39 (by decide) (fun c_1 => ?_) (fun c_1 => ?_)
      · refine j_iconst (x := 0) C dX0_gather_196 (by decide) ?_
        have hs : S_X0_gather_6 v f b = (0, v1, f1) := by rw [← hS1, L_X0_gather_6]; rw [if_pos c_1]
        exact j_zret C hQ rfl rfl dX0_gather_197 (dt_ivf hs)
      · refine j_iload (i := 5) C dX0_gather_42 2 rfl ?_
        refine j_iload (i := 4) C dX0_gather_44 3 rfl ?_
        refine j_icmp_lt (tgt := 51) C dX0_gather_46 (by decide) (fun c_2 => ?_) (fun c_2 => ?_)
        · refine j_iload_n (i := 3) C dX0_gather_51 rfl 4 rfl ?_
          refine j_bipush (x := 16) C dX0_gather_52 (by decide) ?_
          refine j_iload (i := 5) C dX0_gather_54 2 rfl ?_
          refine j_imul C dX0_gather_56 ?_
          refine j_iadd C dX0_gather_57 ?_
          refine j_istore (i := 8) (lv' := [(8, .int (base + (16 * num))), (7, .int (nI i)), (6, .int inT), (5, .int num), (4, .int room), (3, .int base), (0, .ref (ad 7)), (1, .ref (ad 6)), (2, .int b)]) C dX0_gather_58 (by decide) rfl ?_
          refine j_aload_n (i := 0) C dX0_gather_60 rfl 6 rfl ?_
          refine g_7_memory C dX0_gather_61 lf_X0_9 ?_
          refine j_iload (i := 8) C dX0_gather_64 0 rfl ?_
          refine j_bipush (x := 12) C dX0_gather_66 (by decide) ?_
          refine j_iadd C dX0_gather_68 ?_
          refine c_V (As := [.int ((base + (16 * num)) + 12)]) (rest := []) (st1 := [.int (Q_X0_gather_6_1 v f b i base room num inT v1 f1)]) C (c_X5_two ε ad v1 f1 u g ((base + (16 * num)) + 12)  ) mv_X5_two lm_X0_56 dX0_gather_69 1 wl_1 rfl rfl rfl (by decide) (Nat.le_of_ble_eq_true rfl) rfl ?_
          refine j_istore (i := 9) (lv' := [(9, .int (Q_X0_gather_6_1 v f b i base room num inT v1 f1)), (8, .int (base + (16 * num))), (7, .int (nI i)), (6, .int inT), (5, .int num), (4, .int room), (3, .int base), (0, .ref (ad 7)), (1, .ref (ad 6)), (2, .int b)]) C dX0_gather_72 (by decide) rfl ?_
          refine j_iload (i := 9) C dX0_gather_74 0 rfl ?_
          refine j_iconst (x := 4) C dX0_gather_76 (by decide) ?_
          refine j_iand C dX0_gather_77 ?_
          refine j_if_eq (tgt := 144) C dX0_gather_78 (by decide) (fun c_3 => ?_) (fun c_3 => ?_)
          · refine j_aload_n (i := 0) C dX0_gather_144 rfl 7 rfl ?_
            refine j_iload (i := 8) C dX0_gather_145 1 rfl ?_
            refine j_iload (i := 9) C dX0_gather_147 0 rfl ?_
            refine j_iconst (x := 2) C dX0_gather_149 (by decide) ?_
            refine j_iand C dX0_gather_150 ?_
            refine j_if_eq (tgt := 158) C dX0_gather_151 (by decide) (fun c_4 => ?_) (fun c_4 => ?_)
            · refine j_iconst (x := 0) C dX0_gather_158 (by decide) ?_
              refine c_V (As := [.int (base + (16 * num)), .int 0]) (rest := []) (st1 := [.int (Q_X0_gather_6_2 v f b i base room num inT v1 f1)]) (ω1 := (WD ε ad (Q_X0_gather_6_3 v f b i base room num inT v1 f1) (Q_X0_gather_6_4 v f b i base room num inT v1 f1) u g)) C (c_X0_addPart ε ad v1 f1 u g (base + (16 * num)) 0  hp1) mv_X0_addPart lm_X0_70 dX0_gather_159 7 wl_7 rfl rfl rfl (by decide) (Nat.le_of_ble_eq_true rfl) rfl ?_
              refine j_if_ne (tgt := 167) C dX0_gather_162 (by decide) (fun c_5 => ?_) (fun c_5 => ?_)
              · refine j_iload (i := 9) C dX0_gather_167 0 rfl ?_
                refine j_iconst (x := 1) C dX0_gather_169 (by decide) ?_
                refine j_iand C dX0_gather_170 ?_
                refine j_if_ne (tgt := 176) C dX0_gather_171 (by decide) (fun c_6 => ?_) (fun c_6 => ?_)
                · refine j_aload_n (i := 0) C dX0_gather_176 rfl 7 rfl ?_
                  refine g_7_memory C dX0_gather_177 lf_X0_9 ?_
                  refine j_iload (i := 8) C dX0_gather_180 1 rfl ?_
                  refine j_bipush (x := 14) C dX0_gather_182 (by decide) ?_
                  refine j_iadd C dX0_gather_184 ?_
                  refine c_V (As := [.int ((base + (16 * num)) + 14)]) (rest := []) (st1 := [.int (Q_X0_gather_6_5 v f b i base room num inT v1 f1)]) C (c_X5_two ε ad (Q_X0_gather_6_3 v f b i base room num inT v1 f1) (Q_X0_gather_6_4 v f b i base room num inT v1 f1) u g ((base + (16 * num)) + 14)  ) mv_X5_two lm_X0_56 dX0_gather_185 1 wl_1 rfl rfl rfl (by decide) (Nat.le_of_ble_eq_true rfl) rfl ?_
                  refine j_istore (i := 5) (lv' := [(5, .int (Q_X0_gather_6_5 v f b i base room num inT v1 f1)), (9, .int (Q_X0_gather_6_1 v f b i base room num inT v1 f1)), (8, .int (base + (16 * num))), (7, .int (nI i)), (6, .int inT), (4, .int room), (3, .int base), (0, .ref (ad 7)), (1, .ref (ad 6)), (2, .int b)]) C dX0_gather_188 (by decide) rfl ?_
                  refine j_iinc (y := (nI (i + 1))) (lv' := [(7, .int (nI (i + 1))), (5, .int (Q_X0_gather_6_5 v f b i base room num inT v1 f1)), (9, .int (Q_X0_gather_6_1 v f b i base room num inT v1 f1)), (8, .int (base + (16 * num))), (6, .int inT), (4, .int room), (3, .int base), (0, .ref (ad 7)), (1, .ref (ad 6)), (2, .int b)]) C dX0_gather_190 3 rfl (nI_1 _) (by decide) rfl ?_
                  refine j_goto (tgt := 35) C dX0_gather_193 (by decide) ?_
                  refine j_lv (lv' := [(7, .int (nI (i + 1))), (6, .int inT), (5, .int (Q_X0_gather_6_5 v f b i base room num inT v1 f1)), (4, .int room), (3, .int base), (0, .ref (ad 7)), (1, .ref (ad 6)), (2, .int b)]) [0, 4, 1, 5, 6, 7, 8, 9] rfl ?_
                  exact ih1 (i + 1) base room (Q_X0_gather_6_5 v f b i base room num inT v1 f1) inT (Q_X0_gather_6_3 v f b i base room num inT v1 f1) (Q_X0_gather_6_4 v f b i base room num inT v1 f1) (ap_pos _ _ _ _ hp1) (by have := le16 c_1; omega) (by have := le16 c_1; omega) (by rw [← hS1, L_X0_gather_6]; rw [if_neg c_1, if_pos c_2, if_pos c_3, if_pos c_4, if_neg c_5, if_neg c_6])
                · refine j_iconst (x := 1) C dX0_gather_174 (by decide) ?_
                  have hs : S_X0_gather_6 v f b = (1, (Q_X0_gather_6_3 v f b i base room num inT v1 f1), (Q_X0_gather_6_4 v f b i base room num inT v1 f1)) := by rw [← hS1, L_X0_gather_6]; rw [if_neg c_1, if_pos c_2, if_pos c_3, if_pos c_4, if_neg c_5, if_pos c_6]
                  exact j_zret C hQ rfl rfl dX0_gather_175 (dt_ivf hs)
              · refine j_iconst (x := 0) C dX0_gather_165 (by decide) ?_
                have hs : S_X0_gather_6 v f b = (0, (Q_X0_gather_6_3 v f b i base room num inT v1 f1), (Q_X0_gather_6_4 v f b i base room num inT v1 f1)) := by rw [← hS1, L_X0_gather_6]; rw [if_neg c_1, if_pos c_2, if_pos c_3, if_pos c_4, if_pos c_5]
                exact j_zret C hQ rfl rfl dX0_gather_166 (dt_ivf hs)
            · refine j_iconst (x := 1) C dX0_gather_154 (by decide) ?_
              refine j_goto (tgt := 159) C dX0_gather_155 (by decide) ?_
              refine c_V (As := [.int (base + (16 * num)), .int 1]) (rest := []) (st1 := [.int (Q_X0_gather_6_6 v f b i base room num inT v1 f1)]) (ω1 := (WD ε ad (Q_X0_gather_6_7 v f b i base room num inT v1 f1) (Q_X0_gather_6_8 v f b i base room num inT v1 f1) u g)) C (c_X0_addPart ε ad v1 f1 u g (base + (16 * num)) 1  hp1) mv_X0_addPart lm_X0_70 dX0_gather_159 7 wl_7 rfl rfl rfl (by decide) (Nat.le_of_ble_eq_true rfl) rfl ?_
              refine j_if_ne (tgt := 167) C dX0_gather_162 (by decide) (fun c_7 => ?_) (fun c_7 => ?_)
              · refine j_iload (i := 9) C dX0_gather_167 0 rfl ?_
                refine j_iconst (x := 1) C dX0_gather_169 (by decide) ?_
                refine j_iand C dX0_gather_170 ?_
                refine j_if_ne (tgt := 176) C dX0_gather_171 (by decide) (fun c_8 => ?_) (fun c_8 => ?_)
                · refine j_aload_n (i := 0) C dX0_gather_176 rfl 7 rfl ?_
                  refine g_7_memory C dX0_gather_177 lf_X0_9 ?_
                  refine j_iload (i := 8) C dX0_gather_180 1 rfl ?_
                  refine j_bipush (x := 14) C dX0_gather_182 (by decide) ?_
                  refine j_iadd C dX0_gather_184 ?_
                  refine c_V (As := [.int ((base + (16 * num)) + 14)]) (rest := []) (st1 := [.int (Q_X0_gather_6_9 v f b i base room num inT v1 f1)]) C (c_X5_two ε ad (Q_X0_gather_6_7 v f b i base room num inT v1 f1) (Q_X0_gather_6_8 v f b i base room num inT v1 f1) u g ((base + (16 * num)) + 14)  ) mv_X5_two lm_X0_56 dX0_gather_185 1 wl_1 rfl rfl rfl (by decide) (Nat.le_of_ble_eq_true rfl) rfl ?_
                  refine j_istore (i := 5) (lv' := [(5, .int (Q_X0_gather_6_9 v f b i base room num inT v1 f1)), (9, .int (Q_X0_gather_6_1 v f b i base room num inT v1 f1)), (8, .int (base + (16 * num))), (7, .int (nI i)), (6, .int inT), (4, .int room), (3, .int base), (0, .ref (ad 7)), (1, .ref (ad 6)), (2, .int b)]) C dX0_gather_188 (by decide) rfl ?_
                  refine j_iinc (y := (nI (i + 1))) (lv' := [(7, .int (nI (i + 1))), (5, .int (Q_X0_gather_6_9 v f b i base room num inT v1 f1)), (9, .int (Q_X0_gather_6_1 v f b i base room num inT v1 f1)), (8, .int (base + (16 * num))), (6, .int inT), (4, .int room), (3, .int base), (0, .ref (ad 7)), (1, .ref (ad 6)), (2, .int b)]) C dX0_gather_190 3 rfl (nI_1 _) (by decide) rfl ?_
                  refine j_goto (tgt := 35) C dX0_gather_193 (by decide) ?_
                  refine j_lv (lv' := [(7, .int (nI (i + 1))), (6, .int inT), (5, .int (Q_X0_gather_6_9 v f b i base room num inT v1 f1)), (4, .int room), (3, .int base), (0, .ref (ad 7)), (1, .ref (ad 6)), (2, .int b)]) [0, 4, 1, 5, 6, 7, 8, 9] rfl ?_
                  exact ih1 (i + 1) base room (Q_X0_gather_6_9 v f b i base room num inT v1 f1) inT (Q_X0_gather_6_7 v f b i base room num inT v1 f1) (Q_X0_gather_6_8 v f b i base room num inT v1 f1) (ap_pos _ _ _ _ hp1) (by have := le16 c_1; omega) (by have := le16 c_1; omega) (by rw [← hS1, L_X0_gather_6]; rw [if_neg c_1, if_pos c_2, if_pos c_3, if_neg c_4, if_neg c_7, if_neg c_8])
                · refine j_iconst (x := 1) C dX0_gather_174 (by decide) ?_
                  have hs : S_X0_gather_6 v f b = (1, (Q_X0_gather_6_7 v f b i base room num inT v1 f1), (Q_X0_gather_6_8 v f b i base room num inT v1 f1)) := by rw [← hS1, L_X0_gather_6]; rw [if_neg c_1, if_pos c_2, if_pos c_3, if_neg c_4, if_neg c_7, if_pos c_8]
                  exact j_zret C hQ rfl rfl dX0_gather_175 (dt_ivf hs)
              · refine j_iconst (x := 0) C dX0_gather_165 (by decide) ?_
                have hs : S_X0_gather_6 v f b = (0, (Q_X0_gather_6_7 v f b i base room num inT v1 f1), (Q_X0_gather_6_8 v f b i base room num inT v1 f1)) := by rw [← hS1, L_X0_gather_6]; rw [if_neg c_1, if_pos c_2, if_pos c_3, if_neg c_4, if_pos c_7]
                exact j_zret C hQ rfl rfl dX0_gather_166 (dt_ivf hs)
          · refine j_iload_n (i := 2) C dX0_gather_81 rfl 9 rfl ?_
            refine j_if_eq (tgt := 101) C dX0_gather_82 (by decide) (fun c_9 => ?_) (fun c_9 => ?_)
            · refine j_iconst (x := 0) C dX0_gather_101 (by decide) ?_
              have hs : S_X0_gather_6 v f b = (0, v1, f1) := by rw [← hS1, L_X0_gather_6]; rw [if_neg c_1, if_pos c_2, if_neg c_3, if_pos c_9]
              exact j_zret C hQ rfl rfl dX0_gather_102 (dt_ivf hs)
            · refine j_iload (i := 6) C dX0_gather_85 3 rfl ?_
              refine j_if_ne (tgt := 101) C dX0_gather_87 (by decide) (fun c_10 => ?_) (fun c_10 => ?_)
              · refine j_iconst (x := 0) C dX0_gather_101 (by decide) ?_
                have hs : S_X0_gather_6 v f b = (0, v1, f1) := by rw [← hS1, L_X0_gather_6]; rw [if_neg c_1, if_pos c_2, if_neg c_3, if_neg c_9, if_neg c_10]
                exact j_zret C hQ rfl rfl dX0_gather_102 (dt_ivf hs)
              · refine j_aload_n (i := 0) C dX0_gather_90 rfl 7 rfl ?_
                refine j_iload (i := 8) C dX0_gather_91 1 rfl ?_
                refine j_iload (i := 9) C dX0_gather_93 0 rfl ?_
                refine c_V (As := [.int (base + (16 * num)), .int (Q_X0_gather_6_1 v f b i base room num inT v1 f1)]) (rest := []) (st1 := [.int (Q_X0_gather_6_10 v f b i base room num inT v1 f1)]) C (c_X0_isTable ε ad v1 f1 u g (base + (16 * num)) (Q_X0_gather_6_1 v f b i base room num inT v1 f1)  ) mv_X0_isTable lm_X0_62 dX0_gather_95 7 wl_7 rfl rfl rfl (by decide) (Nat.le_of_ble_eq_true rfl) rfl ?_
                refine j_if_ne (tgt := 103) C dX0_gather_98 (by decide) (fun c_11 => ?_) (fun c_11 => ?_)
                · refine j_iconst (x := 1) C dX0_gather_103 (by decide) ?_
                  refine j_istore (i := 6) (lv' := [(6, .int 1), (9, .int (Q_X0_gather_6_1 v f b i base room num inT v1 f1)), (8, .int (base + (16 * num))), (7, .int (nI i)), (5, .int num), (4, .int room), (3, .int base), (0, .ref (ad 7)), (1, .ref (ad 6)), (2, .int b)]) C dX0_gather_104 (by decide) rfl ?_
                  refine j_aload_n (i := 0) C dX0_gather_106 rfl 7 rfl ?_
                  refine g_7_memory C dX0_gather_107 lf_X0_9 ?_
                  refine j_iload (i := 8) C dX0_gather_110 2 rfl ?_
                  refine j_bipush (x := 8) C dX0_gather_112 (by decide) ?_
                  refine c_V (As := [.int (base + (16 * num)), .int 8]) (rest := []) (st1 := [.long (Q_X0_gather_6_11 v f b i base room num inT v1 f1)]) C (c_X5_number ε ad v1 f1 u g (base + (16 * num)) 8  (by first | assumption | omega | decide)) mv_X5_number lm_X0_66 dX0_gather_114 1 wl_1 rfl rfl rfl (by decide) (Nat.le_of_ble_eq_true rfl) rfl ?_
                  refine j_l2i C dX0_gather_117 ?_
                  refine j_istore_n (i := 3) (lv' := [(3, .int (((Q_X0_gather_6_11 v f b i base room num inT v1 f1) : Int64).toInt32)), (6, .int 1), (9, .int (Q_X0_gather_6_1 v f b i base room num inT v1 f1)), (8, .int (base + (16 * num))), (7, .int (nI i)), (5, .int num), (4, .int room), (0, .ref (ad 7)), (1, .ref (ad 6)), (2, .int b)]) C dX0_gather_118 rfl (by decide) rfl ?_
                  refine j_aload_n (i := 0) C dX0_gather_119 rfl 7 rfl ?_
                  refine g_7_memory C dX0_gather_120 lf_X0_9 ?_
                  refine j_iload (i := 8) C dX0_gather_123 3 rfl ?_
                  refine j_bipush (x := 8) C dX0_gather_125 (by decide) ?_
                  refine j_iadd C dX0_gather_127 ?_
                  refine j_iconst (x := 4) C dX0_gather_128 (by decide) ?_
                  refine c_V (As := [.int ((base + (16 * num)) + 8), .int 4]) (rest := []) (st1 := [.long (Q_X0_gather_6_12 v f b i base room num inT v1 f1)]) C (c_X5_number ε ad v1 f1 u g ((base + (16 * num)) + 8) 4  (by first | assumption | omega | decide)) mv_X5_number lm_X0_66 dX0_gather_129 1 wl_1 rfl rfl rfl (by decide) (Nat.le_of_ble_eq_true rfl) rfl ?_
                  refine j_l2i C dX0_gather_132 ?_
                  refine j_bipush (x := 16) C dX0_gather_133 (by decide) ?_
                  refine j_idiv C dX0_gather_135 (by decide) ?_
                  refine j_istore (i := 4) (lv' := [(4, .int ((((Q_X0_gather_6_12 v f b i base room num inT v1 f1) : Int64).toInt32) / 16)), (3, .int (((Q_X0_gather_6_11 v f b i base room num inT v1 f1) : Int64).toInt32)), (6, .int 1), (9, .int (Q_X0_gather_6_1 v f b i base room num inT v1 f1)), (8, .int (base + (16 * num))), (7, .int (nI i)), (5, .int num), (0, .ref (ad 7)), (1, .ref (ad 6)), (2, .int b)]) C dX0_gather_136 (by decide) rfl ?_
                  refine j_iconst (x := 0) C dX0_gather_138 (by decide) ?_
                  refine j_istore (i := 5) (lv' := [(5, .int 0), (4, .int ((((Q_X0_gather_6_12 v f b i base room num inT v1 f1) : Int64).toInt32) / 16)), (3, .int (((Q_X0_gather_6_11 v f b i base room num inT v1 f1) : Int64).toInt32)), (6, .int 1), (9, .int (Q_X0_gather_6_1 v f b i base room num inT v1 f1)), (8, .int (base + (16 * num))), (7, .int (nI i)), (0, .ref (ad 7)), (1, .ref (ad 6)), (2, .int b)]) C dX0_gather_139 (by decide) rfl ?_
                  refine j_goto (tgt := 190) C dX0_gather_141 (by decide) ?_
                  refine j_iinc (y := (nI (i + 1))) (lv' := [(7, .int (nI (i + 1))), (5, .int 0), (4, .int ((((Q_X0_gather_6_12 v f b i base room num inT v1 f1) : Int64).toInt32) / 16)), (3, .int (((Q_X0_gather_6_11 v f b i base room num inT v1 f1) : Int64).toInt32)), (6, .int 1), (9, .int (Q_X0_gather_6_1 v f b i base room num inT v1 f1)), (8, .int (base + (16 * num))), (0, .ref (ad 7)), (1, .ref (ad 6)), (2, .int b)]) C dX0_gather_190 6 rfl (nI_1 _) (by decide) rfl ?_
                  refine j_goto (tgt := 35) C dX0_gather_193 (by decide) ?_
                  refine j_lv (lv' := [(7, .int (nI (i + 1))), (6, .int 1), (5, .int 0), (4, .int ((((Q_X0_gather_6_12 v f b i base room num inT v1 f1) : Int64).toInt32) / 16)), (3, .int (((Q_X0_gather_6_11 v f b i base room num inT v1 f1) : Int64).toInt32)), (0, .ref (ad 7)), (1, .ref (ad 6)), (2, .int b)]) [0, 4, 1, 2, 3, 7, 8, 9] rfl ?_
                  exact ih1 (i + 1) (((Q_X0_gather_6_11 v f b i base room num inT v1 f1) : Int64).toInt32) ((((Q_X0_gather_6_12 v f b i base room num inT v1 f1) : Int64).toInt32) / 16) 0 1 v1 f1 hp1 (by have := le16 c_1; omega) (by have := le16 c_1; omega) (by rw [← hS1, L_X0_gather_6]; rw [if_neg c_1, if_pos c_2, if_neg c_3, if_neg c_9, if_pos c_10, if_neg c_11])
                · refine j_iconst (x := 0) C dX0_gather_101 (by decide) ?_
                  have hs : S_X0_gather_6 v f b = (0, v1, f1) := by rw [← hS1, L_X0_gather_6]; rw [if_neg c_1, if_pos c_2, if_neg c_3, if_neg c_9, if_pos c_10, if_pos c_11]
                  exact j_zret C hQ rfl rfl dX0_gather_102 (dt_ivf hs)
        · refine j_iconst (x := 0) C dX0_gather_49 (by decide) ?_
          have hs : S_X0_gather_6 v f b = (0, v1, f1) := by rw [← hS1, L_X0_gather_6]; rw [if_neg c_1, if_neg c_2]
          exact j_zret C hQ rfl rfl dX0_gather_50 (dt_ivf hs)
  exact hw1 18 0 ((upd (S_X0_forget v f) 34 (S_X6_nextHead_6 (S_X0_forget v f) f)) 22) ((upd (S_X0_forget v f) 34 (S_X6_nextHead_6 (S_X0_forget v f) f)) 21) (S_X6_nextHead_6 (S_X0_forget v f) f) 0 (upd (S_X0_forget v f) 34 (S_X6_nextHead_6 (S_X0_forget v f) f)) f (Int.le_refl 0) (by omega) (by omega) rfl

