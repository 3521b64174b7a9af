theorem dd_rn {u : Nat → Int32} {g : Nat → Nat → Int32} (hd : DP u g) (h16 : ¬ (u 5) < 16) (p N : Nat) (hp : p + N ≤ 16) : ∀ j : Nat, j < N → RV (g 33) (g 32) 0 (nI p + nI j) := by
  intro j hj
  obtain ⟨n, m, e5, hn, e7, hm, h1, h2⟩ := hd
  rw [e5, show (16 : Int32) = nI 16 from rfl, nI_ltI (by omega) (by decide)] at h16
  rw [nI_add]
  exact h1 _ (by omega)
/-- whole SECTORS that are there -/
theorem th_in {y : Int32} {sec : Int64} {i : Nat} (hi : i < y.toNatClampNeg) (hy : y.toInt ≤ 65536) (h1 : y - y / 64 * 64 = 0) (h2 : ¬ lg_cmp sec 0 < 0) (h3 : ¬ 0 < lg_cmp sec ((32 - y / 64 : Int32).toInt64)) : vp_in (64 * sec.toInt32 + nI i) 2048 := by
  have hi2 : i < y.toInt.toNat := hi
  obtain ⟨n, hn, rfl⟩ := nI_of (x := y) (by rw [Int32.lt_iff_toInt_lt]; have : (0 : Int32).toInt = 0 := rfl; omega)
  rw [nI_toInt hn] at hy hi2
  rw [show (64 : Int32) = nI 64 from rfl, pk_rem hn (by decide) (by decide)] at h1
  have hm : n % 64 = 0 := by
    have e := (nI_eq (a := n % 64) (b := 0) (by omega) (by decide)).mp h1
    exact e
  rw [lg_cmp_lt, Int64.lt_iff_toInt_lt] at h2
  rw [lg_cmp_gt, Int64.lt_iff_toInt_lt, show (64 : Int32) = nI 64 from rfl, pk_div hn (by decide) (by decide), show (32 : Int32) = nI 32 from rfl, Int32.toInt_toInt64, pk_sub_toInt (by decide) (by omega)] at h3
  have e0 : (0 : Int64).toInt = 0 := rfl
  have hk : sec = lN sec.toInt.toNat := Int64.toInt_inj.mp (by rw [lN_toInt (by omega)]; omega)
  rw [hk, lN_i, show (64 : Int32) = nI 64 from rfl, pk_mul, nI_add]
  exact vp_in_nI (by omega) (by decide)
def Q_X9_doDisk_1 (u : Nat → Int32) (g : Nat → Nat → Int32) : Int32 := if (lg_cmp (S_X9_readNumber u g 0 4) 0) = 0 then ((u 7) - 1)
    else ((u 5) - 16)
def Q_X9_doDisk_2 (u : Nat → Int32) (g : Nat → Nat → Int32) : Int32 := if (Q_X9_doDisk_1 u g) = 0 then 1
    else if ((Q_X9_doDisk_1 u g) - (Q_X9_doDisk_1 u g) / 64 * 64) = 0 then if (lg_cmp (S_X9_readNumber u g 8 8) 0) < 0 then 0
        else if 0 < (lg_cmp (S_X9_readNumber u g 8 8) (((32 - ((Q_X9_doDisk_1 u g) / 64)) : Int32).toInt64)) then 0
          else 1
      else 0
def L_X9_doDisk (u : Nat → Int32) (g : Nat → Nat → Int32)  : Nat → (Nat → Nat → Int32)
  | 0 => g
  | i1 + 1 =>
    if (nI i1) = 0 then (S_X9_writeByte u (L_X9_doDisk u g i1) (nI i1) 114)
    else if (nI i1) = 1 then (S_X9_writeByte u (L_X9_doDisk u g i1) (nI i1) 105)
      else if (nI i1) = 2 then (S_X9_writeByte u (L_X9_doDisk u g i1) (nI i1) 110)
        else if (nI i1) = 3 then (S_X9_writeByte u (L_X9_doDisk u g i1) (nI i1) 103)
          else if (nI i1) = 4 then (S_X9_writeByte u (L_X9_doDisk u g i1) (nI i1) 115)
            else (S_X9_writeByte u (L_X9_doDisk u g i1) (nI i1) 0)
def Q_X9_doDisk_3 (u : Nat → Int32) (g : Nat → Nat → Int32) : (Nat → Nat → Int32) := (S_X9_writeByte u (L_X9_doDisk u g (if ((u 7) - 1) < 20 then ((u 7) - 1) else 20).toNatClampNeg) ((u 7) - 1) 0)
def L_X9_doDisk2 (u : Nat → Int32) (g : Nat → Nat → Int32)  : Nat → (Nat → Nat → Int32)
  | 0 => g
  | i2 + 1 =>
    (va_up (L_X9_doDisk2 u g i2) 24 (upd ((L_X9_doDisk2 u g i2) 24) (((64 * (((S_X9_readNumber u g 8 8) : Int64).toInt32)) + (nI i2))).toNatClampNeg (vp_nar .byte (((S_X9_readByte u (L_X9_doDisk2 u g i2) (nI (16 + i2))) : Int32).toInt8.toInt32))))
def Q_X9_doDisk_4 (u : Nat → Int32) (g : Nat → Nat → Int32) : (Nat → Nat → Int32) := (S_X9_writeByte u (L_X9_doDisk2 u g (Q_X9_doDisk_1 u g).toNatClampNeg) ((u 7) - 1) 0)
def L_X9_doDisk3 (u : Nat → Int32) (g : Nat → Nat → Int32)  : Nat → (Nat → Nat → Int32)
  | 0 => g
  | i3 + 1 =>
    (S_X9_writeByte u (L_X9_doDisk3 u g i3) (nI i3) (((L_X9_doDisk3 u g i3) 24) (((64 * (((S_X9_readNumber u g 8 8) : Int64).toInt32)) + (nI i3))).toNatClampNeg))
def Q_X9_doDisk_5 (u : Nat → Int32) (g : Nat → Nat → Int32) : (Nat → Nat → Int32) := (S_X9_writeByte u (L_X9_doDisk3 u g (Q_X9_doDisk_1 u g).toNatClampNeg) ((u 7) - 1) 0)
def S_X9_doDisk (u : Nat → Int32) (g : Nat → Nat → Int32)  : Int32 × (Nat → Nat → Int32) :=
  if (u 5) < 16 then (0, g)
  else if (u 7) = 0 then (0, g)
    else if (lg_cmp (S_X9_readNumber u g 0 4) 0) = 0 then if (Q_X9_doDisk_2 u g) = 0 then (1, (S_X9_writeByte u g ((u 7) - 1) 1))
        else (((Q_X9_doDisk_1 u g) + 1), (Q_X9_doDisk_5 u g))
      else if (lg_cmp (S_X9_readNumber u g 0 4) 1) = 0 then if (Q_X9_doDisk_2 u g) = 0 then if (Q_X9_doDisk_1 u g) ≤ 0 then (1, (S_X9_writeByte u g ((u 7) - 1) 1))
            else (1, (S_X9_writeByte u g ((u 7) - 1) 1))
          else (1, (Q_X9_doDisk_4 u g))
        else if (lg_cmp (S_X9_readNumber u g 0 4) 8) = 0 then (((if ((u 7) - 1) < 20 then ((u 7) - 1) else 20) + 1), (Q_X9_doDisk_3 u g))
          else if (lg_cmp (S_X9_readNumber u g 0 4) 4) = 0 then (1, (S_X9_writeByte u g ((u 7) - 1) 0))
            else (1, (S_X9_writeByte u g ((u 7) - 1) 2))
theorem d1_same (u : Nat → Int32) (g : Nat → Nat → Int32) (i j : Nat) (h : j ≠ 23) : (L_X9_doDisk u g i) j = g j := by
  induction i with
  | zero => rfl
  | succ i ih =>
    rw [L_X9_doDisk]
    repeat' split
    all_goals rw [wb_same _ _ _ _ _ h]; exact ih
theorem d2_same (u : Nat → Int32) (g : Nat → Nat → Int32) (i j : Nat) (h : j ≠ 24) : (L_X9_doDisk2 u g i) j = g j := by
  induction i with
  | zero => rfl
  | succ i ih =>
    rw [L_X9_doDisk2]
    show (if j = 24 then _ else _) = _
    rw [if_neg h]
    exact ih
theorem d3_same (u : Nat → Int32) (g : Nat → Nat → Int32) (i j : Nat) (h : j ≠ 23) : (L_X9_doDisk3 u g i) j = g j := by
  induction i with
  | zero => rfl
  | succ i ih =>
    rw [L_X9_doDisk3, wb_same _ _ _ _ _ h]
    exact ih
theorem sub_le {n k : Nat} (hn : n ≤ 65536) (hk : k ≤ 65536) : (nI n - nI k).toInt ≤ 65536 := by
  rw [pk_sub_toInt (by omega) (by omega)]; omega
theorem sub_cl {n k i : Nat} (hn : n ≤ 65536) (hk : k ≤ 65536) (h : i < (nI n - nI k).toNatClampNeg) : i + k < n := by
  have h2 : i < (nI n - nI k).toInt.toNat := h
  rw [pk_sub_toInt (by omega) (by omega)] at h2
  omega
theorem dd_w0 {u : Nat → Int32} {g : Nat → Nat → Int32} {y : Int32} {i : Nat} (hd : DP u g) (hy : y = (u 7) - 1) (hi : i < y.toNatClampNeg) : RV (g 35) (g 34) 0 (nI i) := by
  obtain ⟨n, m, e5, hn, e7, hm, h1, h2⟩ := hd
  rw [hy, e7] at hi
  have := sub_cl (k := 1) hm (by decide) hi
  exact h2 _ (by omega)
theorem dd_w8 {u : Nat → Int32} {g : Nat → Nat → Int32} {i : Nat} (hd : DP u g) (hi : i < (if ((u 7) - 1) < 20 then ((u 7) - 1) else 20).toNatClampNeg) : RV (g 35) (g 34) 0 (nI i) := by
  split at hi
  · exact dd_w0 hd rfl hi
  · rename_i h
    refine dd_w0 hd rfl ?_
    obtain ⟨n, m, e5, hn, e7, hm, h1, h2⟩ := hd
    rw [e7] at h ⊢
    rw [Int32.lt_iff_toInt_lt] at h
    have e20 : (20 : Int32).toInt = 20 := rfl
    have h3 : i < (20 : Int32).toInt.toNat := hi
    show i < (nI m - 1).toInt.toNat
    omega
theorem dd_r1 {u : Nat → Int32} {g : Nat → Nat → Int32} {y : Int32} {i : Nat} (hd : DP u g) (hy : y = (u 5) - 16) (hi : i < y.toNatClampNeg) : RV (g 33) (g 32) 0 (nI (16 + i)) := by
  obtain ⟨n, m, e5, hn, e7, hm, h1, h2⟩ := hd
  rw [hy, e5] at hi
  have := sub_cl (k := 16) hn (by decide) hi
  exact h1 _ (by omega)
theorem dd_wl {u : Nat → Int32} {g : Nat → Nat → Int32} (hd : DP u g) (h7 : ¬ (u 7) = 0) : RV (g 35) (g 34) 0 ((u 7) - 1) := by
  obtain ⟨n, m, e5, hn, e7, hm, h1, h2⟩ := hd
  match m, e7, hm with
  | 0, e7, _ => exact absurd e7 h7
  | m + 1, e7, hm =>
    rw [e7, nI_pred]
    exact h2 _ (by omega)
theorem dd_y {u : Nat → Int32} {g : Nat → Nat → Int32} (hd : DP u g) : (Q_X9_doDisk_1 u g).toInt ≤ 65536 := by
  obtain ⟨n, m, e5, hn, e7, hm, h1, h2⟩ := hd
  unfold Q_X9_doDisk_1
  split
  · rw [e7]; exact sub_le (k := 1) hm (by decide)
  · rw [e5]; exact sub_le (k := 16) hn (by decide)
theorem th_ne {y T : Int32} {sec : Int64} {i : Nat} (hT : T = if y = 0 then 1 else if (y - y / 64 * 64) = 0 then if (lg_cmp sec 0) < 0 then 0 else if 0 < (lg_cmp sec (((32 - (y / 64)) : Int32).toInt64)) then 0 else 1 else 0) (h : ¬ T = 0) (hi : i < y.toNatClampNeg) (hy : y.toInt ≤ 65536) : vp_in (64 * sec.toInt32 + nI i) 2048 := by
  rw [hT] at h
  split at h
  · rename_i h0
    rw [h0] at hi
    exact absurd hi (Nat.not_lt_zero _)
  · split at h
    · split at h
      · exact absurd rfl h
      · split at h
        · exact absurd rfl h
        · rename_i h0 h1 h2 h3
          exact th_in hi hy h1 h2 h3
    · exact absurd rfl h
set_option maxHeartbeats 1000000 in
set_option maxRecDepth 100000 in
theorem c_X9_doDisk (ε : ET) (ad : Nat → Nat) (v : Nat → Int32) (f : Nat → Nat → Int32) (u : Nat → Int32) (g : Nat → Nat → Int32)  (hd : DP u g) : CT ε yX9_doDisk cX9_doDisk 11 (some .int) 2 48 0 0 [.ref (ad 22)] (WD ε ad v f u g) (DT (some (.int ((S_X9_doDisk u g).1))) (WD ε ad v f u ((S_X9_doDisk u g).2))) := by
  refine CT.of (own := RX9) (by decide) rfl (Nat.le_of_ble_eq_true rfl) (fun κ C hQ => ?_)
  refine j_aload_n (i := 0) C dX9_doDisk_0 rfl 0 rfl ?_
  refine g_22_readAll (x := (u 5)) C dX9_doDisk_1 lf_X9_98 rfl ?_
  refine j_bipush (x := 16) C dX9_doDisk_4 (by decide) ?_
  refine j_icmp_lt (tgt := 16) C dX9_doDisk_6 (by decide) (fun c_1 => ?_) (fun c_1 => ?_)
  · refine j_iconst (x := 0) C dX9_doDisk_16 (by decide) ?_
    have hs : S_X9_doDisk u g = (0, g) := by unfold S_X9_doDisk; rw [if_pos c_1]
    exact j_iret C hQ rfl dX9_doDisk_17 (dt_ifM hs)
  · refine j_aload_n (i := 0) C dX9_doDisk_9 rfl 0 rfl ?_
    refine g_22_writeAll (x := (u 7)) C dX9_doDisk_10 lf_X9_104 rfl ?_
    refine j_if_ne (tgt := 18) C dX9_doDisk_13 (by decide) (fun c_2 => ?_) (fun c_2 => ?_)
    · refine j_aload_n (i := 0) C dX9_doDisk_18 rfl 0 rfl ?_
      refine j_iconst (x := 0) C dX9_doDisk_19 (by decide) ?_
      refine j_iconst (x := 4) C dX9_doDisk_20 (by decide) ?_
      refine c_V (As := [.int 0, .int 4]) (rest := []) (st1 := [.long (S_X9_readNumber u g 0 4)]) C (c_X9_readNumber ε ad v f u g 0 4  (by first | assumption | omega | decide) (dd_rn hd c_1 0 4 (by omega))) mv_X9_readNumber lm_X9_149 dX9_doDisk_21 22 wl_22 rfl rfl rfl (by decide) (Nat.le_of_ble_eq_true rfl) rfl ?_
      refine j_lstore_n (i := 1) (lv' := [(1, .long (S_X9_readNumber u g 0 4)), (0, .ref (ad 22))]) C dX9_doDisk_24 rfl (by decide) rfl ?_
      refine j_aload_n (i := 0) C dX9_doDisk_25 rfl 1 rfl ?_
      refine j_bipush (x := 8) C dX9_doDisk_26 (by decide) ?_
      refine j_bipush (x := 8) C dX9_doDisk_28 (by decide) ?_
      refine c_V (As := [.int 8, .int 8]) (rest := []) (st1 := [.long (S_X9_readNumber u g 8 8)]) C (c_X9_readNumber ε ad v f u g 8 8  (by first | assumption | omega | decide) (dd_rn hd c_1 8 8 (by omega))) mv_X9_readNumber lm_X9_149 dX9_doDisk_30 22 wl_22 rfl rfl rfl (by decide) (Nat.le_of_ble_eq_true rfl) rfl ?_
      refine j_lstore_n (i := 3) (lv' := [(3, .long (S_X9_readNumber u g 8 8)), (1, .long (S_X9_readNumber u g 0 4)), (0, .ref (ad 22))]) C dX9_doDisk_33 rfl (by decide) rfl ?_
      have jn1 : JW κ 0 0 (WD ε ad v f u g) 56 [(3, .long (S_X9_readNumber u g 8 8)), (1, .long (S_X9_readNumber u g 0 4)), (0, .ref (ad 22))] [.int (Q_X9_doDisk_1 u g)] := by
        refine j_istore (i := 5) (lv' := [(5, .int (Q_X9_doDisk_1 u g)), (3, .long (S_X9_readNumber u g 8 8)), (1, .long (S_X9_readNumber u g 0 4)), (0, .ref (ad 22))]) C dX9_doDisk_56 (by decide) rfl ?_
        have jn2 : JW κ 0 0 (WD ε ad v f u g) 96 [(5, .int (Q_X9_doDisk_1 u g)), (3, .long (S_X9_readNumber u g 8 8)), (1, .long (S_X9_readNumber u g 0 4)), (0, .ref (ad 22))] [.int (Q_X9_doDisk_2 u g)] := by
          refine j_istore (i := 6) (lv' := [(6, .int (Q_X9_doDisk_2 u g)), (5, .int (Q_X9_doDisk_1 u g)), (3, .long (S_X9_readNumber u g 8 8)), (1, .long (S_X9_readNumber u g 0 4)), (0, .ref (ad 22))]) C dX9_doDisk_96 (by decide) rfl ?_
          refine j_iconst (x := 0) C dX9_doDisk_98 (by decide) ?_
          refine j_istore (i := 7) (lv' := [(7, .int 0), (6, .int (Q_X9_doDisk_2 u g)), (5, .int (Q_X9_doDisk_1 u g)), (3, .long (S_X9_readNumber u g 8 8)), (1, .long (S_X9_readNumber u g 0 4)), (0, .ref (ad 22))]) C dX9_doDisk_99 (by decide) rfl ?_
          refine j_iconst (x := 1) C dX9_doDisk_101 (by decide) ?_
          refine j_istore (i := 8) (lv' := [(8, .int 1), (7, .int 0), (6, .int (Q_X9_doDisk_2 u g)), (5, .int (Q_X9_doDisk_1 u g)), (3, .long (S_X9_readNumber u g 8 8)), (1, .long (S_X9_readNumber u g 0 4)), (0, .ref (ad 22))]) C dX9_doDisk_102 (by decide) rfl ?_
          refine j_lload_n (i := 1) C dX9_doDisk_104 rfl 5 rfl ?_
          refine j_lconst (x := 0) C dX9_doDisk_105 (by decide) ?_
          refine j_lcmp C dX9_doDisk_106 ?_
          refine j_if_ne (tgt := 165) C dX9_doDisk_107 (by decide) (fun c_3 => ?_) (fun c_3 => ?_)
          · refine j_lload_n (i := 1) C dX9_doDisk_165 rfl 5 rfl ?_
            refine j_lconst (x := 1) C dX9_doDisk_166 (by decide) ?_
            refine j_lcmp C dX9_doDisk_167 ?_
            refine j_if_ne (tgt := 230) C dX9_doDisk_168 (by decide) (fun c_4 => ?_) (fun c_4 => ?_)
            · refine j_lload_n (i := 1) C dX9_doDisk_230 rfl 5 rfl ?_
              refine j_ldc2 C dX9_doDisk_231 ll_X9_155 ?_
              refine j_lcmp C dX9_doDisk_234 ?_
              refine j_if_ne (tgt := 337) C dX9_doDisk_235 (by decide) (fun c_5 => ?_) (fun c_5 => ?_)
              · refine j_lload_n (i := 1) C dX9_doDisk_337 rfl 5 rfl ?_
                refine j_ldc2 C dX9_doDisk_338 ll_X9_163 ?_
                refine j_lcmp C dX9_doDisk_341 ?_
                refine j_if_eq (tgt := 348) C dX9_doDisk_342 (by decide) (fun c_6 => ?_) (fun c_6 => ?_)
                · refine j_aload_n (i := 0) C dX9_doDisk_348 rfl 6 rfl ?_
                  refine j_aload_n (i := 0) C dX9_doDisk_349 rfl 6 rfl ?_
                  refine g_22_writeAll (x := (u 7)) C dX9_doDisk_350 lf_X9_104 rfl ?_
                  refine j_iconst (x := 1) C dX9_doDisk_353 (by decide) ?_
                  refine j_isub C dX9_doDisk_354 ?_
                  refine j_iload (i := 7) C dX9_doDisk_355 1 rfl ?_
                  refine c_V (As := [.int ((u 7) - 1), .int 0]) (rest := []) (st1 := []) C (c_X9_writeByte ε ad v f u g ((u 7) - 1) 0  (dd_wl hd c_2)) mv_X9_writeByte lm_X9_152 dX9_doDisk_357 22 wl_22 rfl rfl rfl (by decide) (Nat.le_of_ble_eq_true rfl) rfl ?_
                  refine j_iload (i := 8) C dX9_doDisk_360 0 rfl ?_
                  have hs : S_X9_doDisk u g = (1, (S_X9_writeByte u g ((u 7) - 1) 0)) := by unfold S_X9_doDisk; rw [if_neg c_1, if_neg c_2, if_neg c_3, if_neg c_4, if_neg c_5, if_pos c_6]
                  exact j_iret C hQ rfl dX9_doDisk_362 (dt_ifM hs)
                · refine j_iconst (x := 2) C dX9_doDisk_345 (by decide) ?_
                  refine j_istore (i := 7) (lv' := [(7, .int 2), (8, .int 1), (6, .int (Q_X9_doDisk_2 u g)), (5, .int (Q_X9_doDisk_1 u g)), (3, .long (S_X9_readNumber u g 8 8)), (1, .long (S_X9_readNumber u g 0 4)), (0, .ref (ad 22))]) C dX9_doDisk_346 (by decide) rfl ?_
                  refine j_aload_n (i := 0) C dX9_doDisk_348 rfl 6 rfl ?_
                  refine j_aload_n (i := 0) C dX9_doDisk_349 rfl 6 rfl ?_
                  refine g_22_writeAll (x := (u 7)) C dX9_doDisk_350 lf_X9_104 rfl ?_
                  refine j_iconst (x := 1) C dX9_doDisk_353 (by decide) ?_
                  refine j_isub C dX9_doDisk_354 ?_
                  refine j_iload (i := 7) C dX9_doDisk_355 0 rfl ?_
                  refine c_V (As := [.int ((u 7) - 1), .int 2]) (rest := []) (st1 := []) C (c_X9_writeByte ε ad v f u g ((u 7) - 1) 2  (dd_wl hd c_2)) mv_X9_writeByte lm_X9_152 dX9_doDisk_357 22 wl_22 rfl rfl rfl (by decide) (Nat.le_of_ble_eq_true rfl) rfl ?_
                  refine j_iload (i := 8) C dX9_doDisk_360 1 rfl ?_
                  have hs : S_X9_doDisk u g = (1, (S_X9_writeByte u g ((u 7) - 1) 2)) := by unfold S_X9_doDisk; rw [if_neg c_1, if_neg c_2, if_neg c_3, if_neg c_4, if_neg c_5, if_neg c_6]
                  exact j_iret C hQ rfl dX9_doDisk_362 (dt_ifM hs)
              · refine j_bipush (x := 20) C dX9_doDisk_238 (by decide) ?_
                refine j_aload_n (i := 0) C dX9_doDisk_240 rfl 6 rfl ?_
                refine g_22_writeAll (x := (u 7)) C dX9_doDisk_241 lf_X9_104 rfl ?_
                refine j_iconst (x := 1) C dX9_doDisk_244 (by decide) ?_
                refine j_isub C dX9_doDisk_245 ?_
                refine j_min C dX9_doDisk_246 lm_X9_157 ⟨by decide, Nat.le_of_ble_eq_true rfl, by decide, by decide⟩ ?_
                refine j_istore (i := 9) (lv' := [(9, .int (if ((u 7) - 1) < 20 then ((u 7) - 1) else 20)), (8, .int 1), (7, .int 0), (6, .int (Q_X9_doDisk_2 u g)), (5, .int (Q_X9_doDisk_1 u g)), (3, .long (S_X9_readNumber u g 8 8)), (1, .long (S_X9_readNumber u g 0 4)), (0, .ref (ad 22))]) C dX9_doDisk_249 (by decide) rfl ?_
                refine j_iconst (x := 0) C dX9_doDisk_251 (by decide) ?_
                refine j_istore (i := 10) (lv' := [(10, .int 0), (9, .int (if ((u 7) - 1) < 20 then ((u 7) - 1) else 20)), (8, .int 1), (7, .int 0), (6, .int (Q_X9_doDisk_2 u g)), (5, .int (Q_X9_doDisk_1 u g)), (3, .long (S_X9_readNumber u g 8 8)), (1, .long (S_X9_readNumber u g 0 4)), (0, .ref (ad 22))]) C dX9_doDisk_252 (by decide) rfl ?_
                have hx1 : JW κ 0 0 (WD ε ad v f u (L_X9_doDisk u g (if ((u 7) - 1) < 20 then ((u 7) - 1) else 20).toNatClampNeg)) 328 [(10, .int (nI (if ((u 7) - 1) < 20 then ((u 7) - 1) else 20).toNatClampNeg)), (9, .int (if ((u 7) - 1) < 20 then ((u 7) - 1) else 20)), (8, .int 1), (7, .int 0), (6, .int (Q_X9_doDisk_2 u g)), (5, .int (Q_X9_doDisk_1 u g)), (3, .long (S_X9_readNumber u g 8 8)), (1, .long (S_X9_readNumber u g 0 4)), (0, .ref (ad 22))] [] := by
                  refine j_iload (i := 9) C dX9_doDisk_328 1 rfl ?_
                  refine j_iconst (x := 1) C dX9_doDisk_330 (by decide) ?_
                  refine j_iadd C dX9_doDisk_331 ?_
                  refine j_istore (i := 8) (lv' := [(8, .int ((if ((u 7) - 1) < 20 then ((u 7) - 1) else 20) + 1)), (10, .int (nI (if ((u 7) - 1) < 20 then ((u 7) - 1) else 20).toNatClampNeg)), (9, .int (if ((u 7) - 1) < 20 then ((u 7) - 1) else 20)), (7, .int 0), (6, .int (Q_X9_doDisk_2 u g)), (5, .int (Q_X9_doDisk_1 u g)), (3, .long (S_X9_readNumber u g 8 8)), (1, .long (S_X9_readNumber u g 0 4)), (0, .ref (ad 22))]) C dX9_doDisk_332 (by decide) rfl ?_
                  refine j_goto (tgt := 348) C dX9_doDisk_334 (by decide) ?_
                  refine j_aload_n (i := 0) C dX9_doDisk_348 rfl 8 rfl ?_
                  refine j_aload_n (i := 0) C dX9_doDisk_349 rfl 8 rfl ?_
                  refine g_22_writeAll (x := (u 7)) C dX9_doDisk_350 lf_X9_104 rfl ?_
                  refine j_iconst (x := 1) C dX9_doDisk_353 (by decide) ?_
                  refine j_isub C dX9_doDisk_354 ?_
                  refine j_iload (i := 7) C dX9_doDisk_355 3 rfl ?_
                  refine c_V (As := [.int ((u 7) - 1), .int 0]) (rest := []) (st1 := []) (ω1 := (WD ε ad v f u (Q_X9_doDisk_3 u g))) C (c_X9_writeByte ε ad v f u (L_X9_doDisk u g (if ((u 7) - 1) < 20 then ((u 7) - 1) else 20).toNatClampNeg) ((u 7) - 1) 0  (by rw [d1_same _ _ _ 35 (by decide), d1_same _ _ _ 34 (by decide)]; exact dd_wl hd c_2)) mv_X9_writeByte lm_X9_152 dX9_doDisk_357 22 wl_22 rfl rfl rfl (by decide) (Nat.le_of_ble_eq_true rfl) rfl ?_
                  refine j_iload (i := 8) C dX9_doDisk_360 0 rfl ?_
                  have hs : S_X9_doDisk u g = (((if ((u 7) - 1) < 20 then ((u 7) - 1) else 20) + 1), (Q_X9_doDisk_3 u g)) := by unfold S_X9_doDisk; rw [if_neg c_1, if_neg c_2, if_neg c_3, if_neg c_4, if_pos c_5]
                  exact j_iret C hQ rfl dX9_doDisk_362 (dt_ifM hs)
                have lp1 : ∀ d1 i1 : Nat, i1 + d1 = (if ((u 7) - 1) < 20 then ((u 7) - 1) else 20).toNatClampNeg → JW κ 0 0 (WD ε ad v f u (L_X9_doDisk u g i1)) 254 [(10, .int (nI i1)), (9, .int (if ((u 7) - 1) < 20 then ((u 7) - 1) else 20)), (8, .int 1), (7, .int 0), (6, .int (Q_X9_doDisk_2 u g)), (5, .int (Q_X9_doDisk_1 u g)), (3, .long (S_X9_readNumber u g 8 8)), (1, .long (S_X9_readNumber u g 0 4)), (0, .ref (ad 22))] [] := by
                  intro d1
                  induction d1 with
                  | zero =>
                    intro i1 hi
                    have e9 : i1 = (if ((u 7) - 1) < 20 then ((u 7) - 1) else 20).toNatClampNeg := by omega
                    rw [e9]
                    have lf1 : (if ((u 7) - 1) < 20 then ((u 7) - 1) else 20) ≤ (nI (if ((u 7) - 1) < 20 then ((u 7) - 1) else 20).toNatClampNeg) := lp_ge _
                    refine j_iload (i := 10) C dX9_doDisk_254 0 rfl ?_
                    refine j_iload (i := 9) C dX9_doDisk_256 1 rfl ?_
                    refine j_icmp_ge (tgt := 328) C dX9_doDisk_258 (by decide) (fun _ => ?_) (fun c9 => absurd lf1 c9)
                    exact hx1
                  | succ d1 ih1 =>
                    intro i1 hi
                    have hlt1 : i1 < (if ((u 7) - 1) < 20 then ((u 7) - 1) else 20).toNatClampNeg := by omega
                    have lf1 : ¬ (if ((u 7) - 1) < 20 then ((u 7) - 1) else 20) ≤ (nI i1) := lp_lt hlt1
                    refine j_iload (i := 10) C dX9_doDisk_254 0 rfl ?_
                    refine j_iload (i := 9) C dX9_doDisk_256 1 rfl ?_
                    refine j_icmp_ge (tgt := 328) C dX9_doDisk_258 (by decide) (fun c9 => absurd c9 lf1) (fun _ => ?_)
                    refine j_aload_n (i := 0) C dX9_doDisk_261 rfl 8 rfl ?_
                    refine j_iload (i := 10) C dX9_doDisk_262 0 rfl ?_
                    refine j_iload (i := 10) C dX9_doDisk_264 0 rfl ?_
                    refine j_if_ne (tgt := 274) C dX9_doDisk_266 (by decide) (fun c_7 => ?_) (fun c_7 => ?_)
                    · refine j_iload (i := 10) C dX9_doDisk_274 0 rfl ?_
                      refine j_iconst (x := 1) C dX9_doDisk_276 (by decide) ?_
                      refine j_icmp_ne (tgt := 285) C dX9_doDisk_277 (by decide) (fun c_8 => ?_) (fun c_8 => ?_)
                      · refine j_iload (i := 10) C dX9_doDisk_285 0 rfl ?_
                        refine j_iconst (x := 2) C dX9_doDisk_287 (by decide) ?_
                        refine j_icmp_ne (tgt := 296) C dX9_doDisk_288 (by decide) (fun c_9 => ?_) (fun c_9 => ?_)
                        · refine j_iload (i := 10) C dX9_doDisk_296 0 rfl ?_
                          refine j_iconst (x := 3) C dX9_doDisk_298 (by decide) ?_
                          refine j_icmp_ne (tgt := 307) C dX9_doDisk_299 (by decide) (fun c_10 => ?_) (fun c_10 => ?_)
                          · refine j_iload (i := 10) C dX9_doDisk_307 0 rfl ?_
                            refine j_iconst (x := 4) C dX9_doDisk_309 (by decide) ?_
                            refine j_icmp_ne (tgt := 318) C dX9_doDisk_310 (by decide) (fun c_11 => ?_) (fun c_11 => ?_)
                            · refine j_iconst (x := 0) C dX9_doDisk_318 (by decide) ?_
                              refine c_V (As := [.int (nI i1), .int 0]) (rest := []) (st1 := []) C (c_X9_writeByte ε ad v f u (L_X9_doDisk u g i1) (nI i1) 0  (by rw [d1_same _ _ _ 35 (by decide), d1_same _ _ _ 34 (by decide)]; exact dd_w8 hd hlt1)) mv_X9_writeByte lm_X9_152 dX9_doDisk_319 22 wl_22 rfl rfl rfl (by decide) (Nat.le_of_ble_eq_true rfl) rfl ?_
                              refine j_iinc (y := (nI (i1 + 1))) (lv' := [(10, .int (nI (i1 + 1))), (9, .int (if ((u 7) - 1) < 20 then ((u 7) - 1) else 20)), (8, .int 1), (7, .int 0), (6, .int (Q_X9_doDisk_2 u g)), (5, .int (Q_X9_doDisk_1 u g)), (3, .long (S_X9_readNumber u g 8 8)), (1, .long (S_X9_readNumber u g 0 4)), (0, .ref (ad 22))]) C dX9_doDisk_322 0 rfl (nI_1 _) (by decide) rfl ?_
                              refine j_goto (tgt := 254) C dX9_doDisk_325 (by decide) ?_
                              refine j_lv (lv' := [(10, .int (nI (i1 + 1))), (9, .int (if ((u 7) - 1) < 20 then ((u 7) - 1) else 20)), (8, .int 1), (7, .int 0), (6, .int (Q_X9_doDisk_2 u g)), (5, .int (Q_X9_doDisk_1 u g)), (3, .long (S_X9_readNumber u g 8 8)), (1, .long (S_X9_readNumber u g 0 4)), (0, .ref (ad 22))]) [0, 1, 2, 3, 4, 5, 6, 7, 8] rfl ?_
                              have e8 := ih1 (i1 + 1) (by omega)
                              rw [show L_X9_doDisk u g (i1 + 1) = (S_X9_writeByte u (L_X9_doDisk u g i1) (nI i1) 0) from by rw [L_X9_doDisk, if_neg c_7, if_neg c_8, if_neg c_9, if_neg c_10, if_neg c_11]] at e8
                              try dsimp only at e8
                              exact e8
                            · refine j_bipush (x := 115) C dX9_doDisk_313 (by decide) ?_
                              refine j_goto (tgt := 319) C dX9_doDisk_315 (by decide) ?_
                              refine c_V (As := [.int (nI i1), .int 115]) (rest := []) (st1 := []) C (c_X9_writeByte ε ad v f u (L_X9_doDisk u g i1) (nI i1) 115  (by rw [d1_same _ _ _ 35 (by decide), d1_same _ _ _ 34 (by decide)]; exact dd_w8 hd hlt1)) mv_X9_writeByte lm_X9_152 dX9_doDisk_319 22 wl_22 rfl rfl rfl (by decide) (Nat.le_of_ble_eq_true rfl) rfl ?_
                              refine j_iinc (y := (nI (i1 + 1))) (lv' := [(10, .int (nI (i1 + 1))), (9, .int (if ((u 7) - 1) < 20 then ((u 7) - 1) else 20)), (8, .int 1), (7, .int 0), (6, .int (Q_X9_doDisk_2 u g)), (5, .int (Q_X9_doDisk_1 u g)), (3, .long (S_X9_readNumber u g 8 8)), (1, .long (S_X9_readNumber u g 0 4)), (0, .ref (ad 22))]) C dX9_doDisk_322 0 rfl (nI_1 _) (by decide) rfl ?_
                              refine j_goto (tgt := 254) C dX9_doDisk_325 (by decide) ?_
                              refine j_lv (lv' := [(10, .int (nI (i1 + 1))), (9, .int (if ((u 7) - 1) < 20 then ((u 7) - 1) else 20)), (8, .int 1), (7, .int 0), (6, .int (Q_X9_doDisk_2 u g)), (5, .int (Q_X9_doDisk_1 u g)), (3, .long (S_X9_readNumber u g 8 8)), (1, .long (S_X9_readNumber u g 0 4)), (0, .ref (ad 22))]) [0, 1, 2, 3, 4, 5, 6, 7, 8] rfl ?_
                              have e8 := ih1 (i1 + 1) (by omega)
                              rw [show L_X9_doDisk u g (i1 + 1) = (S_X9_writeByte u (L_X9_doDisk u g i1) (nI i1) 115) from by rw [L_X9_doDisk, if_neg c_7, if_neg c_8, if_neg c_9, if_neg c_10, if_pos c_11]] at e8
                              try dsimp only at e8
                              exact e8
                          · refine j_bipush (x := 103) C dX9_doDisk_302 (by decide) ?_
                            refine j_goto (tgt := 319) C dX9_doDisk_304 (by decide) ?_
                            refine c_V (As := [.int (nI i1), .int 103]) (rest := []) (st1 := []) C (c_X9_writeByte ε ad v f u (L_X9_doDisk u g i1) (nI i1) 103  (by rw [d1_same _ _ _ 35 (by decide), d1_same _ _ _ 34 (by decide)]; exact dd_w8 hd hlt1)) mv_X9_writeByte lm_X9_152 dX9_doDisk_319 22 wl_22 rfl rfl rfl (by decide) (Nat.le_of_ble_eq_true rfl) rfl ?_
                            refine j_iinc (y := (nI (i1 + 1))) (lv' := [(10, .int (nI (i1 + 1))), (9, .int (if ((u 7) - 1) < 20 then ((u 7) - 1) else 20)), (8, .int 1), (7, .int 0), (6, .int (Q_X9_doDisk_2 u g)), (5, .int (Q_X9_doDisk_1 u g)), (3, .long (S_X9_readNumber u g 8 8)), (1, .long (S_X9_readNumber u g 0 4)), (0, .ref (ad 22))]) C dX9_doDisk_322 0 rfl (nI_1 _) (by decide) rfl ?_
                            refine j_goto (tgt := 254) C dX9_doDisk_325 (by decide) ?_
                            refine j_lv (lv' := [(10, .int (nI (i1 + 1))), (9, .int (if ((u 7) - 1) < 20 then ((u 7) - 1) else 20)), (8, .int 1), (7, .int 0), (6, .int (Q_X9_doDisk_2 u g)), (5, .int (Q_X9_doDisk_1 u g)), (3, .long (S_X9_readNumber u g 8 8)), (1, .long (S_X9_readNumber u g 0 4)), (0, .ref (ad 22))]) [0, 1, 2, 3, 4, 5, 6, 7, 8] rfl ?_
                            have e8 := ih1 (i1 + 1) (by omega)
                            rw [show L_X9_doDisk u g (i1 + 1) = (S_X9_writeByte u (L_X9_doDisk u g i1) (nI i1) 103) from by rw [L_X9_doDisk, if_neg c_7, if_neg c_8, if_neg c_9, if_pos c_10]] at e8
                            try dsimp only at e8
                            exact e8
                        · refine j_bipush (x := 110) C dX9_doDisk_291 (by decide) ?_
                          refine j_goto (tgt := 319) C dX9_doDisk_293 (by decide) ?_
                          refine c_V (As := [.int (nI i1), .int 110]) (rest := []) (st1 := []) C (c_X9_writeByte ε ad v f u (L_X9_doDisk u g i1) (nI i1) 110  (by rw [d1_same _ _ _ 35 (by decide), d1_same _ _ _ 34 (by decide)]; exact dd_w8 hd hlt1)) mv_X9_writeByte lm_X9_152 dX9_doDisk_319 22 wl_22 rfl rfl rfl (by decide) (Nat.le_of_ble_eq_true rfl) rfl ?_
                          refine j_iinc (y := (nI (i1 + 1))) (lv' := [(10, .int (nI (i1 + 1))), (9, .int (if ((u 7) - 1) < 20 then ((u 7) - 1) else 20)), (8, .int 1), (7, .int 0), (6, .int (Q_X9_doDisk_2 u g)), (5, .int (Q_X9_doDisk_1 u g)), (3, .long (S_X9_readNumber u g 8 8)), (1, .long (S_X9_readNumber u g 0 4)), (0, .ref (ad 22))]) C dX9_doDisk_322 0 rfl (nI_1 _) (by decide) rfl ?_
                          refine j_goto (tgt := 254) C dX9_doDisk_325 (by decide) ?_
                          refine j_lv (lv' := [(10, .int (nI (i1 + 1))), (9, .int (if ((u 7) - 1) < 20 then ((u 7) - 1) else 20)), (8, .int 1), (7, .int 0), (6, .int (Q_X9_doDisk_2 u g)), (5, .int (Q_X9_doDisk_1 u g)), (3, .long (S_X9_readNumber u g 8 8)), (1, .long (S_X9_readNumber u g 0 4)), (0, .ref (ad 22))]) [0, 1, 2, 3, 4, 5, 6, 7, 8] rfl ?_
                          have e8 := ih1 (i1 + 1) (by omega)
                          rw [show L_X9_doDisk u g (i1 + 1) = (S_X9_writeByte u (L_X9_doDisk u g i1) (nI i1) 110) from by rw [L_X9_doDisk, if_neg c_7, if_neg c_8, if_pos c_9]] at e8
                          try dsimp only at e8
                          exact e8
                      · refine j_bipush (x := 105) C dX9_doDisk_280 (by decide) ?_
                        refine j_goto (tgt := 319) C dX9_doDisk_282 (by decide) ?_
                        refine c_V (As := [.int (nI i1), .int 105]) (rest := []) (st1 := []) C (c_X9_writeByte ε ad v f u (L_X9_doDisk u g i1) (nI i1) 105  (by rw [d1_same _ _ _ 35 (by decide), d1_same _ _ _ 34 (by decide)]; exact dd_w8 hd hlt1)) mv_X9_writeByte lm_X9_152 dX9_doDisk_319 22 wl_22 rfl rfl rfl (by decide) (Nat.le_of_ble_eq_true rfl) rfl ?_
                        refine j_iinc (y := (nI (i1 + 1))) (lv' := [(10, .int (nI (i1 + 1))), (9, .int (if ((u 7) - 1) < 20 then ((u 7) - 1) else 20)), (8, .int 1), (7, .int 0), (6, .int (Q_X9_doDisk_2 u g)), (5, .int (Q_X9_doDisk_1 u g)), (3, .long (S_X9_readNumber u g 8 8)), (1, .long (S_X9_readNumber u g 0 4)), (0, .ref (ad 22))]) C dX9_doDisk_322 0 rfl (nI_1 _) (by decide) rfl ?_
                        refine j_goto (tgt := 254) C dX9_doDisk_325 (by decide) ?_
                        refine j_lv (lv' := [(10, .int (nI (i1 + 1))), (9, .int (if ((u 7) - 1) < 20 then ((u 7) - 1) else 20)), (8, .int 1), (7, .int 0), (6, .int (Q_X9_doDisk_2 u g)), (5, .int (Q_X9_doDisk_1 u g)), (3, .long (S_X9_readNumber u g 8 8)), (1, .long (S_X9_readNumber u g 0 4)), (0, .ref (ad 22))]) [0, 1, 2, 3, 4, 5, 6, 7, 8] rfl ?_
                        have e8 := ih1 (i1 + 1) (by omega)
                        rw [show L_X9_doDisk u g (i1 + 1) = (S_X9_writeByte u (L_X9_doDisk u g i1) (nI i1) 105) from by rw [L_X9_doDisk, if_neg c_7, if_pos c_8]] at e8
                        try dsimp only at e8
                        exact e8
                    · refine j_bipush (x := 114) C dX9_doDisk_269 (by decide) ?_
                      refine j_goto (tgt := 319) C dX9_doDisk_271 (by decide) ?_
                      refine c_V (As := [.int (nI i1), .int 114]) (rest := []) (st1 := []) C (c_X9_writeByte ε ad v f u (L_X9_doDisk u g i1) (nI i1) 114  (by rw [d1_same _ _ _ 35 (by decide), d1_same _ _ _ 34 (by decide)]; exact dd_w8 hd hlt1)) mv_X9_writeByte lm_X9_152 dX9_doDisk_319 22 wl_22 rfl rfl rfl (by decide) (Nat.le_of_ble_eq_true rfl) rfl ?_
                      refine j_iinc (y := (nI (i1 + 1))) (lv' := [(10, .int (nI (i1 + 1))), (9, .int (if ((u 7) - 1) < 20 then ((u 7) - 1) else 20)), (8, .int 1), (7, .int 0), (6, .int (Q_X9_doDisk_2 u g)), (5, .int (Q_X9_doDisk_1 u g)), (3, .long (S_X9_readNumber u g 8 8)), (1, .long (S_X9_readNumber u g 0 4)), (0, .ref (ad 22))]) C dX9_doDisk_322 0 rfl (nI_1 _) (by decide) rfl ?_
                      refine j_goto (tgt := 254) C dX9_doDisk_325 (by decide) ?_
                      refine j_lv (lv' := [(10, .int (nI (i1 + 1))), (9, .int (if ((u 7) - 1) < 20 then ((u 7) - 1) else 20)), (8, .int 1), (7, .int 0), (6, .int (Q_X9_doDisk_2 u g)), (5, .int (Q_X9_doDisk_1 u g)), (3, .long (S_X9_readNumber u g 8 8)), (1, .long (S_X9_readNumber u g 0 4)), (0, .ref (ad 22))]) [0, 1, 2, 3, 4, 5, 6, 7, 8] rfl ?_
                      have e8 := ih1 (i1 + 1) (by omega)
                      rw [show L_X9_doDisk u g (i1 + 1) = (S_X9_writeByte u (L_X9_doDisk u g i1) (nI i1) 114) from by rw [L_X9_doDisk, if_pos c_7]] at e8
                      try dsimp only at e8
                      exact e8
                have e7 := lp1 ((if ((u 7) - 1) < 20 then ((u 7) - 1) else 20).toNatClampNeg) 0 (by omega)
                rw [L_X9_doDisk] at e7
                try dsimp only at e7
                exact e7
            · by_cases c_12 : (Q_X9_doDisk_2 u g) = 0
              · refine j_iconst (x := 0) C dX9_doDisk_171 (by decide) ?_
                refine j_istore (i := 9) (lv' := [(9, .int 0), (8, .int 1), (7, .int 0), (6, .int (Q_X9_doDisk_2 u g)), (5, .int (Q_X9_doDisk_1 u g)), (3, .long (S_X9_readNumber u g 8 8)), (1, .long (S_X9_readNumber u g 0 4)), (0, .ref (ad 22))]) C dX9_doDisk_172 (by decide) rfl ?_
                refine j_iload (i := 9) C dX9_doDisk_174 0 rfl ?_
                refine j_iload (i := 5) C dX9_doDisk_176 4 rfl ?_
                refine j_icmp_ge (tgt := 215) C dX9_doDisk_178 (by decide) (fun c_13 => ?_) (fun c_13 => ?_)
                · refine j_iload (i := 6) C dX9_doDisk_215 3 rfl ?_
                  refine j_if_eq (tgt := 224) C dX9_doDisk_217 (by decide) (fun _ => ?_) (fun c9 => absurd c_12 c9)
                  refine j_iconst (x := 1) C dX9_doDisk_224 (by decide) ?_
                  refine j_istore (i := 7) (lv' := [(7, .int 1), (9, .int 0), (8, .int 1), (6, .int (Q_X9_doDisk_2 u g)), (5, .int (Q_X9_doDisk_1 u g)), (3, .long (S_X9_readNumber u g 8 8)), (1, .long (S_X9_readNumber u g 0 4)), (0, .ref (ad 22))]) C dX9_doDisk_225 (by decide) rfl ?_
                  refine j_goto (tgt := 348) C dX9_doDisk_227 (by decide) ?_
                  refine j_aload_n (i := 0) C dX9_doDisk_348 rfl 7 rfl ?_
                  refine j_aload_n (i := 0) C dX9_doDisk_349 rfl 7 rfl ?_
                  refine g_22_writeAll (x := (u 7)) C dX9_doDisk_350 lf_X9_104 rfl ?_
                  refine j_iconst (x := 1) C dX9_doDisk_353 (by decide) ?_
                  refine j_isub C dX9_doDisk_354 ?_
                  refine j_iload (i := 7) C dX9_doDisk_355 0 rfl ?_
                  refine c_V (As := [.int ((u 7) - 1), .int 1]) (rest := []) (st1 := []) C (c_X9_writeByte ε ad v f u g ((u 7) - 1) 1  (dd_wl hd c_2)) mv_X9_writeByte lm_X9_152 dX9_doDisk_357 22 wl_22 rfl rfl rfl (by decide) (Nat.le_of_ble_eq_true rfl) rfl ?_
                  refine j_iload (i := 8) C dX9_doDisk_360 2 rfl ?_
                  have hs : S_X9_doDisk u g = (1, (S_X9_writeByte u g ((u 7) - 1) 1)) := by unfold S_X9_doDisk; rw [if_neg c_1, if_neg c_2, if_neg c_3, if_pos c_4, if_pos c_12, if_pos c_13]
                  exact j_iret C hQ rfl dX9_doDisk_362 (dt_ifM hs)
                · refine j_iload (i := 6) C dX9_doDisk_181 3 rfl ?_
                  refine j_if_eq (tgt := 215) C dX9_doDisk_183 (by decide) (fun _ => ?_) (fun c9 => absurd c_12 c9)
                  refine j_iload (i := 6) C dX9_doDisk_215 3 rfl ?_
                  refine j_if_eq (tgt := 224) C dX9_doDisk_217 (by decide) (fun _ => ?_) (fun c9 => absurd c_12 c9)
                  refine j_iconst (x := 1) C dX9_doDisk_224 (by decide) ?_
                  refine j_istore (i := 7) (lv' := [(7, .int 1), (9, .int 0), (8, .int 1), (6, .int (Q_X9_doDisk_2 u g)), (5, .int (Q_X9_doDisk_1 u g)), (3, .long (S_X9_readNumber u g 8 8)), (1, .long (S_X9_readNumber u g 0 4)), (0, .ref (ad 22))]) C dX9_doDisk_225 (by decide) rfl ?_
                  refine j_goto (tgt := 348) C dX9_doDisk_227 (by decide) ?_
                  refine j_aload_n (i := 0) C dX9_doDisk_348 rfl 7 rfl ?_
                  refine j_aload_n (i := 0) C dX9_doDisk_349 rfl 7 rfl ?_
                  refine g_22_writeAll (x := (u 7)) C dX9_doDisk_350 lf_X9_104 rfl ?_
                  refine j_iconst (x := 1) C dX9_doDisk_353 (by decide) ?_
                  refine j_isub C dX9_doDisk_354 ?_
                  refine j_iload (i := 7) C dX9_doDisk_355 0 rfl ?_
                  refine c_V (As := [.int ((u 7) - 1), .int 1]) (rest := []) (st1 := []) C (c_X9_writeByte ε ad v f u g ((u 7) - 1) 1  (dd_wl hd c_2)) mv_X9_writeByte lm_X9_152 dX9_doDisk_357 22 wl_22 rfl rfl rfl (by decide) (Nat.le_of_ble_eq_true rfl) rfl ?_
                  refine j_iload (i := 8) C dX9_doDisk_360 2 rfl ?_
                  have hs : S_X9_doDisk u g = (1, (S_X9_writeByte u g ((u 7) - 1) 1)) := by unfold S_X9_doDisk; rw [if_neg c_1, if_neg c_2, if_neg c_3, if_pos c_4, if_pos c_12, if_neg c_13]
                  exact j_iret C hQ rfl dX9_doDisk_362 (dt_ifM hs)
              · refine j_iconst (x := 0) C dX9_doDisk_171 (by decide) ?_
                refine j_istore (i := 9) (lv' := [(9, .int 0), (8, .int 1), (7, .int 0), (6, .int (Q_X9_doDisk_2 u g)), (5, .int (Q_X9_doDisk_1 u g)), (3, .long (S_X9_readNumber u g 8 8)), (1, .long (S_X9_readNumber u g 0 4)), (0, .ref (ad 22))]) C dX9_doDisk_172 (by decide) rfl ?_
                have hx2 : JW κ 0 0 (WD ε ad v f u (L_X9_doDisk2 u g (Q_X9_doDisk_1 u g).toNatClampNeg)) 215 [(9, .int (nI (Q_X9_doDisk_1 u g).toNatClampNeg)), (8, .int 1), (7, .int 0), (6, .int (Q_X9_doDisk_2 u g)), (5, .int (Q_X9_doDisk_1 u g)), (3, .long (S_X9_readNumber u g 8 8)), (1, .long (S_X9_readNumber u g 0 4)), (0, .ref (ad 22))] [] := by
                  refine j_iload (i := 6) C dX9_doDisk_215 3 rfl ?_
                  refine j_if_eq (tgt := 224) C dX9_doDisk_217 (by decide) (fun c9 => absurd c9 c_12) (fun _ => ?_)
                  refine j_iconst (x := 0) C dX9_doDisk_220 (by decide) ?_
                  refine j_goto (tgt := 225) C dX9_doDisk_221 (by decide) ?_
                  refine j_istore (i := 7) (lv' := [(7, .int 0), (9, .int (nI (Q_X9_doDisk_1 u g).toNatClampNeg)), (8, .int 1), (6, .int (Q_X9_doDisk_2 u g)), (5, .int (Q_X9_doDisk_1 u g)), (3, .long (S_X9_readNumber u g 8 8)), (1, .long (S_X9_readNumber u g 0 4)), (0, .ref (ad 22))]) C dX9_doDisk_225 (by decide) rfl ?_
                  refine j_goto (tgt := 348) C dX9_doDisk_227 (by decide) ?_
                  refine j_aload_n (i := 0) C dX9_doDisk_348 rfl 7 rfl ?_
                  refine j_aload_n (i := 0) C dX9_doDisk_349 rfl 7 rfl ?_
                  refine g_22_writeAll (x := (u 7)) C dX9_doDisk_350 lf_X9_104 rfl ?_
                  refine j_iconst (x := 1) C dX9_doDisk_353 (by decide) ?_
                  refine j_isub C dX9_doDisk_354 ?_
                  refine j_iload (i := 7) C dX9_doDisk_355 0 rfl ?_
                  refine c_V (As := [.int ((u 7) - 1), .int 0]) (rest := []) (st1 := []) (ω1 := (WD ε ad v f u (Q_X9_doDisk_4 u g))) C (c_X9_writeByte ε ad v f u (L_X9_doDisk2 u g (Q_X9_doDisk_1 u g).toNatClampNeg) ((u 7) - 1) 0  (by rw [d2_same _ _ _ 35 (by decide), d2_same _ _ _ 34 (by decide)]; exact dd_wl hd c_2)) mv_X9_writeByte lm_X9_152 dX9_doDisk_357 22 wl_22 rfl rfl rfl (by decide) (Nat.le_of_ble_eq_true rfl) rfl ?_
                  refine j_iload (i := 8) C dX9_doDisk_360 2 rfl ?_
                  have hs : S_X9_doDisk u g = (1, (Q_X9_doDisk_4 u g)) := by unfold S_X9_doDisk; rw [if_neg c_1, if_neg c_2, if_neg c_3, if_pos c_4, if_neg c_12]
                  exact j_iret C hQ rfl dX9_doDisk_362 (dt_ifM hs)
                have lp2 : ∀ d2 i2 : Nat, i2 + d2 = (Q_X9_doDisk_1 u g).toNatClampNeg → JW κ 0 0 (WD ε ad v f u (L_X9_doDisk2 u g i2)) 174 [(9, .int (nI i2)), (8, .int 1), (7, .int 0), (6, .int (Q_X9_doDisk_2 u g)), (5, .int (Q_X9_doDisk_1 u g)), (3, .long (S_X9_readNumber u g 8 8)), (1, .long (S_X9_readNumber u g 0 4)), (0, .ref (ad 22))] [] := by
                  intro d2
                  induction d2 with
                  | zero =>
                    intro i2 hi
                    have e9 : i2 = (Q_X9_doDisk_1 u g).toNatClampNeg := by omega
                    rw [e9]
                    have lf2 : (Q_X9_doDisk_1 u g) ≤ (nI (Q_X9_doDisk_1 u g).toNatClampNeg) := lp_ge _
                    refine j_iload (i := 9) C dX9_doDisk_174 0 rfl ?_
                    refine j_iload (i := 5) C dX9_doDisk_176 4 rfl ?_
                    refine j_icmp_ge (tgt := 215) C dX9_doDisk_178 (by decide) (fun _ => ?_) (fun c9 => absurd lf2 c9)
                    exact hx2
                  | succ d2 ih2 =>
                    intro i2 hi
                    have hlt2 : i2 < (Q_X9_doDisk_1 u g).toNatClampNeg := by omega
                    have lf2 : ¬ (Q_X9_doDisk_1 u g) ≤ (nI i2) := lp_lt hlt2
                    refine j_iload (i := 9) C dX9_doDisk_174 0 rfl ?_
                    refine j_iload (i := 5) C dX9_doDisk_176 4 rfl ?_
                    refine j_icmp_ge (tgt := 215) C dX9_doDisk_178 (by decide) (fun c9 => absurd c9 lf2) (fun _ => ?_)
                    refine j_iload (i := 6) C dX9_doDisk_181 3 rfl ?_
                    refine j_if_eq (tgt := 215) C dX9_doDisk_183 (by decide) (fun c9 => absurd c9 c_12) (fun _ => ?_)
                    refine j_aload_n (i := 0) C dX9_doDisk_186 rfl 7 rfl ?_
                    refine g_22_disk C dX9_doDisk_187 lf_X9_46 ?_
                    refine j_bipush (x := 64) C dX9_doDisk_190 (by decide) ?_
                    refine j_lload_n (i := 3) C dX9_doDisk_192 rfl 5 rfl ?_
                    refine j_l2i C dX9_doDisk_193 ?_
                    refine j_imul C dX9_doDisk_194 ?_
                    refine j_iload (i := 9) C dX9_doDisk_195 0 rfl ?_
                    refine j_iadd C dX9_doDisk_197 ?_
                    refine j_aload_n (i := 0) C dX9_doDisk_198 rfl 7 rfl ?_
                    refine j_bipush (x := 16) C dX9_doDisk_199 (by decide) ?_
                    refine j_iload (i := 9) C dX9_doDisk_201 0 rfl ?_
                    refine j_iaddN (a := 16) (b := i2) C dX9_doDisk_203 rfl rfl ?_
                    refine c_V (As := [.int (nI (16 + i2))]) (rest := [.int ((64 * (((S_X9_readNumber u g 8 8) : Int64).toInt32)) + (nI i2)), .ref (ad 24)]) (st1 := [.int (S_X9_readByte u (L_X9_doDisk2 u g i2) (nI (16 + i2))), .int ((64 * (((S_X9_readNumber u g 8 8) : Int64).toInt32)) + (nI i2)), .ref (ad 24)]) C (c_X9_readByte ε ad v f u (L_X9_doDisk2 u g i2) (nI (16 + i2))  (by rw [d2_same _ _ _ 33 (by decide), d2_same _ _ _ 32 (by decide)]; exact dd_r1 hd (by unfold Q_X9_doDisk_1; rw [if_neg c_3]) hlt2)) mv_X9_readByte lm_X9_123 dX9_doDisk_204 22 wl_22 rfl rfl rfl (by decide) (Nat.le_of_ble_eq_true rfl) rfl ?_
                    refine j_i2b C dX9_doDisk_207 ?_
                    refine as_24 (F2 := ((L_X9_doDisk2 u g i2) 24)) (F := (upd ((L_X9_doDisk2 u g i2) 24) (((64 * (((S_X9_readNumber u g 8 8) : Int64).toInt32)) + (nI i2))).toNatClampNeg (vp_nar .byte (((S_X9_readByte u (L_X9_doDisk2 u g i2) (nI (16 + i2))) : Int32).toInt8.toInt32)))) C dX9_doDisk_208 (th_ne (y := Q_X9_doDisk_1 u g) (sec := S_X9_readNumber u g 8 8) (by rw [Q_X9_doDisk_2]) c_12 hlt2 (dd_y hd)) rfl rfl ?_
                    refine j_iinc (y := (nI (i2 + 1))) (lv' := [(9, .int (nI (i2 + 1))), (8, .int 1), (7, .int 0), (6, .int (Q_X9_doDisk_2 u g)), (5, .int (Q_X9_doDisk_1 u g)), (3, .long (S_X9_readNumber u g 8 8)), (1, .long (S_X9_readNumber u g 0 4)), (0, .ref (ad 22))]) C dX9_doDisk_209 0 rfl (nI_1 _) (by decide) rfl ?_
                    refine j_goto (tgt := 174) C dX9_doDisk_212 (by decide) ?_
                    refine j_lv (lv' := [(9, .int (nI (i2 + 1))), (8, .int 1), (7, .int 0), (6, .int (Q_X9_doDisk_2 u g)), (5, .int (Q_X9_doDisk_1 u g)), (3, .long (S_X9_readNumber u g 8 8)), (1, .long (S_X9_readNumber u g 0 4)), (0, .ref (ad 22))]) [0, 1, 2, 3, 4, 5, 6, 7] rfl ?_
                    have e8 := ih2 (i2 + 1) (by omega)
                    rw [L_X9_doDisk2] at e8
                    try dsimp only at e8
                    exact e8
                have e7 := lp2 ((Q_X9_doDisk_1 u g).toNatClampNeg) 0 (by omega)
                rw [L_X9_doDisk2] at e7
                try dsimp only at e7
                exact e7
          · refine j_iload (i := 6) C dX9_doDisk_110 2 rfl ?_
            refine j_if_eq (tgt := 159) C dX9_doDisk_112 (by decide) (fun c_14 => ?_) (fun c_14 => ?_)
            · refine j_iconst (x := 1) C dX9_doDisk_159 (by decide) ?_
              refine j_istore (i := 7) (lv' := [(7, .int 1), (8, .int 1), (6, .int (Q_X9_doDisk_2 u g)), (5, .int (Q_X9_doDisk_1 u g)), (3, .long (S_X9_readNumber u g 8 8)), (1, .long (S_X9_readNumber u g 0 4)), (0, .ref (ad 22))]) C dX9_doDisk_160 (by decide) rfl ?_
              refine j_goto (tgt := 348) C dX9_doDisk_162 (by decide) ?_
              refine j_aload_n (i := 0) C dX9_doDisk_348 rfl 6 rfl ?_
              refine j_aload_n (i := 0) C dX9_doDisk_349 rfl 6 rfl ?_
              refine g_22_writeAll (x := (u 7)) C dX9_doDisk_350 lf_X9_104 rfl ?_
              refine j_iconst (x := 1) C dX9_doDisk_353 (by decide) ?_
              refine j_isub C dX9_doDisk_354 ?_
              refine j_iload (i := 7) C dX9_doDisk_355 0 rfl ?_
              refine c_V (As := [.int ((u 7) - 1), .int 1]) (rest := []) (st1 := []) C (c_X9_writeByte ε ad v f u g ((u 7) - 1) 1  (dd_wl hd c_2)) mv_X9_writeByte lm_X9_152 dX9_doDisk_357 22 wl_22 rfl rfl rfl (by decide) (Nat.le_of_ble_eq_true rfl) rfl ?_
              refine j_iload (i := 8) C dX9_doDisk_360 1 rfl ?_
              have hs : S_X9_doDisk u g = (1, (S_X9_writeByte u g ((u 7) - 1) 1)) := by unfold S_X9_doDisk; rw [if_neg c_1, if_neg c_2, if_pos c_3, if_pos c_14]
              exact j_iret C hQ rfl dX9_doDisk_362 (dt_ifM hs)
            · refine j_iconst (x := 0) C dX9_doDisk_115 (by decide) ?_
              refine j_istore (i := 9) (lv' := [(9, .int 0), (8, .int 1), (7, .int 0), (6, .int (Q_X9_doDisk_2 u g)), (5, .int (Q_X9_doDisk_1 u g)), (3, .long (S_X9_readNumber u g 8 8)), (1, .long (S_X9_readNumber u g 0 4)), (0, .ref (ad 22))]) C dX9_doDisk_116 (by decide) rfl ?_
              have hx3 : JW κ 0 0 (WD ε ad v f u (L_X9_doDisk3 u g (Q_X9_doDisk_1 u g).toNatClampNeg)) 150 [(9, .int (nI (Q_X9_doDisk_1 u g).toNatClampNeg)), (8, .int 1), (7, .int 0), (6, .int (Q_X9_doDisk_2 u g)), (5, .int (Q_X9_doDisk_1 u g)), (3, .long (S_X9_readNumber u g 8 8)), (1, .long (S_X9_readNumber u g 0 4)), (0, .ref (ad 22))] [] := by
                refine j_iload (i := 5) C dX9_doDisk_150 4 rfl ?_
                refine j_iconst (x := 1) C dX9_doDisk_152 (by decide) ?_
                refine j_iadd C dX9_doDisk_153 ?_
                refine j_istore (i := 8) (lv' := [(8, .int ((Q_X9_doDisk_1 u g) + 1)), (9, .int (nI (Q_X9_doDisk_1 u g).toNatClampNeg)), (7, .int 0), (6, .int (Q_X9_doDisk_2 u g)), (5, .int (Q_X9_doDisk_1 u g)), (3, .long (S_X9_readNumber u g 8 8)), (1, .long (S_X9_readNumber u g 0 4)), (0, .ref (ad 22))]) C dX9_doDisk_154 (by decide) rfl ?_
                refine j_goto (tgt := 348) C dX9_doDisk_156 (by decide) ?_
                refine j_aload_n (i := 0) C dX9_doDisk_348 rfl 7 rfl ?_
                refine j_aload_n (i := 0) C dX9_doDisk_349 rfl 7 rfl ?_
                refine g_22_writeAll (x := (u 7)) C dX9_doDisk_350 lf_X9_104 rfl ?_
                refine j_iconst (x := 1) C dX9_doDisk_353 (by decide) ?_
                refine j_isub C dX9_doDisk_354 ?_
                refine j_iload (i := 7) C dX9_doDisk_355 2 rfl ?_
                refine c_V (As := [.int ((u 7) - 1), .int 0]) (rest := []) (st1 := []) (ω1 := (WD ε ad v f u (Q_X9_doDisk_5 u g))) C (c_X9_writeByte ε ad v f u (L_X9_doDisk3 u g (Q_X9_doDisk_1 u g).toNatClampNeg) ((u 7) - 1) 0  (by rw [d3_same _ _ _ 35 (by decide), d3_same _ _ _ 34 (by decide)]; exact dd_wl hd c_2)) mv_X9_writeByte lm_X9_152 dX9_doDisk_357 22 wl_22 rfl rfl rfl (by decide) (Nat.le_of_ble_eq_true rfl) rfl ?_
                refine j_iload (i := 8) C dX9_doDisk_360 0 rfl ?_
                have hs : S_X9_doDisk u g = (((Q_X9_doDisk_1 u g) + 1), (Q_X9_doDisk_5 u g)) := by unfold S_X9_doDisk; rw [if_neg c_1, if_neg c_2, if_pos c_3, if_neg c_14]
                exact j_iret C hQ rfl dX9_doDisk_362 (dt_ifM hs)
              have lp3 : ∀ d3 i3 : Nat, i3 + d3 = (Q_X9_doDisk_1 u g).toNatClampNeg → JW κ 0 0 (WD ε ad v f u (L_X9_doDisk3 u g i3)) 118 [(9, .int (nI i3)), (8, .int 1), (7, .int 0), (6, .int (Q_X9_doDisk_2 u g)), (5, .int (Q_X9_doDisk_1 u g)), (3, .long (S_X9_readNumber u g 8 8)), (1, .long (S_X9_readNumber u g 0 4)), (0, .ref (ad 22))] [] := by
                intro d3
                induction d3 with
                | zero =>
                  intro i3 hi
                  have e9 : i3 = (Q_X9_doDisk_1 u g).toNatClampNeg := by omega
                  rw [e9]
                  have lf3 : (Q_X9_doDisk_1 u g) ≤ (nI (Q_X9_doDisk_1 u g).toNatClampNeg) := lp_ge _
                  refine j_iload (i := 9) C dX9_doDisk_118 0 rfl ?_
                  refine j_iload (i := 5) C dX9_doDisk_120 4 rfl ?_
                  refine j_icmp_ge (tgt := 150) C dX9_doDisk_122 (by decide) (fun _ => ?_) (fun c9 => absurd lf3 c9)
                  exact hx3
                | succ d3 ih3 =>
                  intro i3 hi
                  have hlt3 : i3 < (Q_X9_doDisk_1 u g).toNatClampNeg := by omega
                  have lf3 : ¬ (Q_X9_doDisk_1 u g) ≤ (nI i3) := lp_lt hlt3
                  refine j_iload (i := 9) C dX9_doDisk_118 0 rfl ?_
                  refine j_iload (i := 5) C dX9_doDisk_120 4 rfl ?_
                  refine j_icmp_ge (tgt := 150) C dX9_doDisk_122 (by decide) (fun c9 => absurd c9 lf3) (fun _ => ?_)
                  refine j_aload_n (i := 0) C dX9_doDisk_125 rfl 7 rfl ?_
                  refine j_iload (i := 9) C dX9_doDisk_126 0 rfl ?_
                  refine j_aload_n (i := 0) C dX9_doDisk_128 rfl 7 rfl ?_
                  refine g_22_disk C dX9_doDisk_129 lf_X9_46 ?_
                  refine j_bipush (x := 64) C dX9_doDisk_132 (by decide) ?_
                  refine j_lload_n (i := 3) C dX9_doDisk_134 rfl 5 rfl ?_
                  refine j_l2i C dX9_doDisk_135 ?_
                  refine j_imul C dX9_doDisk_136 ?_
                  refine j_iload (i := 9) C dX9_doDisk_137 0 rfl ?_
                  refine j_iadd C dX9_doDisk_139 ?_
                  refine al_24 (F := ((L_X9_doDisk3 u g i3) 24)) C dX9_doDisk_140 (th_ne (y := Q_X9_doDisk_1 u g) (sec := S_X9_readNumber u g 8 8) (by rw [Q_X9_doDisk_2]) c_14 hlt3 (dd_y hd)) rfl ?_
                  refine c_V (As := [.int (nI i3), .int (((L_X9_doDisk3 u g i3) 24) (((64 * (((S_X9_readNumber u g 8 8) : Int64).toInt32)) + (nI i3))).toNatClampNeg)]) (rest := []) (st1 := []) C (c_X9_writeByte ε ad v f u (L_X9_doDisk3 u g i3) (nI i3) (((L_X9_doDisk3 u g i3) 24) (((64 * (((S_X9_readNumber u g 8 8) : Int64).toInt32)) + (nI i3))).toNatClampNeg)  (by rw [d3_same _ _ _ 35 (by decide), d3_same _ _ _ 34 (by decide)]; exact dd_w0 hd (by unfold Q_X9_doDisk_1; rw [if_pos c_3]) hlt3)) mv_X9_writeByte lm_X9_152 dX9_doDisk_141 22 wl_22 rfl rfl rfl (by decide) (Nat.le_of_ble_eq_true rfl) rfl ?_
                  refine j_iinc (y := (nI (i3 + 1))) (lv' := [(9, .int (nI (i3 + 1))), (8, .int 1), (7, .int 0), (6, .int (Q_X9_doDisk_2 u g)), (5, .int (Q_X9_doDisk_1 u g)), (3, .long (S_X9_readNumber u g 8 8)), (1, .long (S_X9_readNumber u g 0 4)), (0, .ref (ad 22))]) C dX9_doDisk_144 0 rfl (nI_1 _) (by decide) rfl ?_
                  refine j_goto (tgt := 118) C dX9_doDisk_147 (by decide) ?_
                  refine j_lv (lv' := [(9, .int (nI (i3 + 1))), (8, .int 1), (7, .int 0), (6, .int (Q_X9_doDisk_2 u g)), (5, .int (Q_X9_doDisk_1 u g)), (3, .long (S_X9_readNumber u g 8 8)), (1, .long (S_X9_readNumber u g 0 4)), (0, .ref (ad 22))]) [0, 1, 2, 3, 4, 5, 6, 7] rfl ?_
                  have e8 := ih3 (i3 + 1) (by omega)
                  rw [L_X9_doDisk3] at e8
                  try dsimp only at e8
                  exact e8
              have e7 := lp3 ((Q_X9_doDisk_1 u g).toNatClampNeg) 0 (by omega)
              rw [L_X9_doDisk3] at e7
              try dsimp only at e7
              exact e7
        refine j_iload (i := 5) C dX9_doDisk_58 0 rfl ?_
        refine j_if_eq (tgt := 91) C dX9_doDisk_60 (by decide) (fun c_15 => ?_) (fun c_15 => ?_)
        · refine j_iconst (x := 1) C dX9_doDisk_91 (by decide) ?_
          refine j_goto (tgt := 96) C dX9_doDisk_92 (by decide) ?_
          have e6 : (Q_X9_doDisk_2 u g) = 1 := by unfold Q_X9_doDisk_2; rw [if_pos c_15]
          rw [e6] at jn2
          exact jn2
        · refine j_iload (i := 5) C dX9_doDisk_63 0 rfl ?_
          refine j_bipush (x := 64) C dX9_doDisk_65 (by decide) ?_
          refine j_irem C dX9_doDisk_67 (by decide) ?_
          refine j_if_ne (tgt := 95) C dX9_doDisk_68 (by decide) (fun c_16 => ?_) (fun c_16 => ?_)
          · refine j_iconst (x := 0) C dX9_doDisk_95 (by decide) ?_
            have e6 : (Q_X9_doDisk_2 u g) = 0 := by unfold Q_X9_doDisk_2; rw [if_neg c_15, if_neg c_16]
            rw [e6] at jn2
            exact jn2
          · refine j_lload_n (i := 3) C dX9_doDisk_71 rfl 1 rfl ?_
            refine j_lconst (x := 0) C dX9_doDisk_72 (by decide) ?_
            refine j_lcmp C dX9_doDisk_73 ?_
            refine j_if_lt (tgt := 95) C dX9_doDisk_74 (by decide) (fun c_17 => ?_) (fun c_17 => ?_)
            · refine j_iconst (x := 0) C dX9_doDisk_95 (by decide) ?_
              have e6 : (Q_X9_doDisk_2 u g) = 0 := by unfold Q_X9_doDisk_2; rw [if_neg c_15, if_pos c_16, if_pos c_17]
              rw [e6] at jn2
              exact jn2
            · refine j_lload_n (i := 3) C dX9_doDisk_77 rfl 1 rfl ?_
              refine j_bipush (x := 32) C dX9_doDisk_78 (by decide) ?_
              refine j_iload (i := 5) C dX9_doDisk_80 0 rfl ?_
              refine j_bipush (x := 64) C dX9_doDisk_82 (by decide) ?_
              refine j_idiv C dX9_doDisk_84 (by decide) ?_
              refine j_isub C dX9_doDisk_85 ?_
              refine j_i2l C dX9_doDisk_86 ?_
              refine j_lcmp C dX9_doDisk_87 ?_
              refine j_if_gt (tgt := 95) C dX9_doDisk_88 (by decide) (fun c_18 => ?_) (fun c_18 => ?_)
              · refine j_iconst (x := 0) C dX9_doDisk_95 (by decide) ?_
                have e6 : (Q_X9_doDisk_2 u g) = 0 := by unfold Q_X9_doDisk_2; rw [if_neg c_15, if_pos c_16, if_neg c_17, if_pos c_18]
                rw [e6] at jn2
                exact jn2
              · refine j_iconst (x := 1) C dX9_doDisk_91 (by decide) ?_
                refine j_goto (tgt := 96) C dX9_doDisk_92 (by decide) ?_
                have e6 : (Q_X9_doDisk_2 u g) = 1 := by unfold Q_X9_doDisk_2; rw [if_neg c_15, if_pos c_16, if_neg c_17, if_neg c_18]
                rw [e6] at jn2
                exact jn2
      refine j_lload_n (i := 1) C dX9_doDisk_34 rfl 1 rfl ?_
      refine j_lconst (x := 0) C dX9_doDisk_35 (by decide) ?_
      refine j_lcmp C dX9_doDisk_36 ?_
      refine j_if_ne (tgt := 49) C dX9_doDisk_37 (by decide) (fun c_19 => ?_) (fun c_19 => ?_)
      · refine j_aload_n (i := 0) C dX9_doDisk_49 rfl 2 rfl ?_
        refine g_22_readAll (x := (u 5)) C dX9_doDisk_50 lf_X9_98 rfl ?_
        refine j_bipush (x := 16) C dX9_doDisk_53 (by decide) ?_
        refine j_isub C dX9_doDisk_55 ?_
        have e6 : (Q_X9_doDisk_1 u g) = ((u 5) - 16) := by unfold Q_X9_doDisk_1; rw [if_neg c_19]
        rw [e6] at jn1
        exact jn1
      · refine j_aload_n (i := 0) C dX9_doDisk_40 rfl 2 rfl ?_
        refine g_22_writeAll (x := (u 7)) C dX9_doDisk_41 lf_X9_104 rfl ?_
        refine j_iconst (x := 1) C dX9_doDisk_44 (by decide) ?_
        refine j_isub C dX9_doDisk_45 ?_
        refine j_goto (tgt := 56) C dX9_doDisk_46 (by decide) ?_
        have e6 : (Q_X9_doDisk_1 u g) = ((u 7) - 1) := by unfold Q_X9_doDisk_1; rw [if_pos c_19]
        rw [e6] at jn1
        exact jn1
    · refine j_iconst (x := 0) C dX9_doDisk_16 (by decide) ?_
      have hs : S_X9_doDisk u g = (0, g) := by unfold S_X9_doDisk; rw [if_neg c_1, if_pos c_2]
      exact j_iret C hQ rfl dX9_doDisk_17 (dt_ifM hs)

