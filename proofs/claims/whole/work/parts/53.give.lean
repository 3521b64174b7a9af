theorem nb_low (F : Nat → Int32) (p : Nat) : nI (nb F p 2) &&& 1 = F p &&& 1 := by
  have h1 := nb_lt F p 2
  rw [pk_andN (by omega) (m := 1) 1 rfl, pk_and (F p) (m := 1) 1 rfl]
  congr 1
  show (0 + 256 ^ 0 * bt8 (F (p + 0)) + 256 ^ 1 * bt8 (F (p + 1))) % 2 ^ 1 = _
  unfold bt8
  rw [Nat.add_zero]
  omega
theorem gb_0 {c : Nat} {v : Nat → Int32} {f : Nat → Nat → Int32} {u : Nat → Int32} {g : Nat → Nat → Int32} (h : SIM c v f u g) (zg : ¬ g 25 0 = 0) {hd b : Nat} (h3 : u 3 = nI hd) (hh : hd < 65536) (hb : b < 2 ^ 31) : SIM c (S_X6_giveBack_4 v f (nI hd) (nI b)).1 (S_X6_giveBack_4 v f (nI hd) (nI b)).2 u (S_X9_give u g (nI b) 0) := by
  have hR := h.2.2.2.1 0 (by decide)
  obtain ⟨r4, r5, r6, r7, r8, r9, r10, r11⟩ := hR
  change v 5 = _ at r5
  change v 7 = _ at r7
  change v 8 = _ at r8
  change v 10 = _ at r10
  change v 11 = _ at r11
  obtain ⟨qu, -, ⟨t, et, ht⟩, -⟩ := h.minv.1 0 (by decide)
  obtain ⟨nn, e25, k1, k2, -, ⟨av, eav, hav⟩, ⟨us, eus, hus⟩⟩ := qu.resolve_left zg
  rw [e25] at r5
  rw [eav] at r7
  rw [eus] at r8
  rw [et] at r10
  have hlt : t % nn < nn := Nat.mod_lt _ (by omega)
  have eP : nI us + 4 + 8 * nI (t % nn) = nI (us + 4 + 8 * (t % nn)) := by rw [show (4 : Int32) = nI 4 from rfl, show (8 : Int32) = nI 8 from rfl, pk_mul, nI_add, nI_add]
  have cP : S_X6_placeOf_4 v f (nI t) = nI (t % nn) := by
    unfold S_X6_placeOf_4
    rw [r5, if_neg (nI_nle (by omega) (by omega)), pk_rem (by omega) (by omega) (by omega)]
  have p4 : nI (us + 4 + 8 * (t % nn)) + 4 = nI (us + 4 + 8 * (t % nn) + 4) := nI_add _ 4
  have p2 : nI us + 2 = nI (us + 2) := nI_add _ 2
  obtain ⟨t2, ht2, et2⟩ := pk_andE (nI t + 1) (m := 65535) 16 rfl
  generalize hp : us + 4 + 8 * (t % nn) = p at *
  have hp8 : p + 8 ≤ 4096 := by omega
  have c2 : Q_X6_giveBack_4_2 v f (nI hd) (nI b) = va_up f 2 (WR (WR (f 2) p 4 (bx hd)) (p + 4) 4 (bx b)) := by
    unfold Q_X6_giveBack_4_2 Q_X6_giveBack_4_1
    rw [r10, cP, r8, eP, p4, nI_l (by omega), nI_l (by omega), put_C _ _ _ _ _ (by omega) (by decide) (by omega), put_C _ _ _ _ _ (by omega) (by decide) (by omega), up_up, va_up_self]
  have c3 : Q_X6_giveBack_4_3 v f (nI hd) (nI b) = nI t2 := by
    unfold Q_X6_giveBack_4_3 S_X8_oneMore
    rw [r10, et2]
  have c4 : Q_X6_giveBack_4_4 v f (nI hd) (nI b) = va_up f 2 (WR (WR (WR (f 2) p 4 (bx hd)) (p + 4) 4 (bx b)) (us + 2) 2 (bx t2)) := by
    unfold Q_X6_giveBack_4_4
    rw [c2, c3, pk_un (by decide), r8, p2, nI_l (by omega), put_C _ _ _ _ _ (by omega) (by decide) (by omega), up_up, va_up_self]
  have c5 : Q_X6_giveBack_4_5 v f (nI hd) (nI b) = nI (nb (WR (WR (WR (f 2) p 4 (bx hd)) (p + 4) 4 (bx b)) (us + 2) 2 (bx t2)) av 2) := by
    unfold Q_X6_giveBack_4_5
    rw [c4, c3, pk_un (by decide), r7, two_C _ _ _ (by omega), va_up_self]
  have d2 : Q_X9_give_2 u g (nI b) 0 = va_up g 23 (WR (WR (g 23) p 4 (bx hd)) (p + 4) 4 (bx b)) := by
    unfold Q_X9_give_2 Q_X9_give_1
    rw [eus, et, e25, pk_rem (by omega) (by omega) (by omega), eP, p4, h3, nI_l (by omega), nI_l (by omega), put_M _ _ _ _ _ (by omega) (by decide) (by omega), put_M _ _ _ _ _ (by omega) (by decide) (by omega), up_up, va_up_self]
  have d3 : Q_X9_give_3 u g (nI b) 0 = va_up (va_up g 23 (WR (WR (WR (g 23) p 4 (bx hd)) (p + 4) 4 (bx b)) (us + 2) 2 (bx t2))) 30 (upd (g 30) 0 (nI t2)) := by
    unfold Q_X9_give_3
    rw [d2]
    simp (disch := omega) only [va_up_ne, va_up_self, pk_us]
    rw [et, et2, eus, p2, nI_l (by omega), put_M _ _ _ _ _ (by omega) (by decide) (by omega)]
    simp (disch := omega) only [va_up_ne, va_up_self]
    funext j
    by_cases x1 : j = 23
    · subst x1; simp (disch := omega) only [va_up_ne, va_up_self]
    · by_cases x2 : j = 30
      · subst x2; simp (disch := omega) only [va_up_ne, va_up_self]
      · simp (disch := omega) only [va_up_ne]
  have hE : EQ (WR (WR (WR (f 2) p 4 (bx hd)) (p + 4) 4 (bx b)) (us + 2) 2 (bx t2)) (WR (WR (WR (g 23) p 4 (bx hd)) (p + 4) 4 (bx b)) (us + 2) 2 (bx t2)) := ((EQ.wr h.mem _ _ _).wr _ _ _).wr _ _ _
  unfold S_X6_giveBack_4 S_X9_give
  rw [c5, c4, c3, d3, nb_low]
  simp (disch := omega) only [va_up_ne, va_up_self]
  rw [eav, nI_clamp (by omega), hE av (by omega)]
  generalize WR (WR (WR (f 2) p 4 (bx hd)) (p + 4) 4 (bx b)) (us + 2) 2 (bx t2) = FW at *
  generalize WR (WR (WR (g 23) p 4 (bx hd)) (p + 4) 4 (bx b)) (us + 2) 2 (bx t2) = GW at *
  have hS : SIM c (upd v 10 (nI t2)) (va_up f 2 FW) u (va_up (va_up g 23 GW) 30 (upd (g 30) 0 (nI t2))) := by
    have := (h.wr hE).given 0 (x := nI t2) (y := nI t2) rfl (by decide) ⟨t2, rfl, ht2⟩
    rw [va_up_ne _ _ (by decide)] at this
    exact this
  by_cases cb : GW av &&& 1 = 0
  · rw [if_pos cb, if_pos cb]
    dsimp only
    have hx : upd v 10 (nI t2) 11 + 1 = (g 31) 0 + 1 := by rw [pk_un (by decide), r11]
    have := hS.sig 0 hx (by decide)
    rw [va_up_ne _ _ (by decide), va_up_ne _ _ (by decide)] at this
    exact this
  · rw [if_neg cb, if_neg cb]
    exact hS
theorem gb_1 {c : Nat} {v : Nat → Int32} {f : Nat → Nat → Int32} {u : Nat → Int32} {g : Nat → Nat → Int32} (h : SIM c v f u g) (zg : ¬ g 25 1 = 0) {hd b : Nat} (h3 : u 3 = nI hd) (hh : hd < 65536) (hb : b < 2 ^ 31) : SIM c (S_X6_giveBack_5 v f (nI hd) (nI b)).1 (S_X6_giveBack_5 v f (nI hd) (nI b)).2 u (S_X9_give u g (nI b) 1) := by
  have hR := h.2.2.2.1 1 (by decide)
  obtain ⟨r4, r5, r6, r7, r8, r9, r10, r11⟩ := hR
  change v 13 = _ at r5
  change v 15 = _ at r7
  change v 16 = _ at r8
  change v 18 = _ at r10
  change v 19 = _ at r11
  obtain ⟨qu, -, ⟨t, et, ht⟩, -⟩ := h.minv.1 1 (by decide)
  obtain ⟨nn, e25, k1, k2, -, ⟨av, eav, hav⟩, ⟨us, eus, hus⟩⟩ := qu.resolve_left zg
  rw [e25] at r5
  rw [eav] at r7
  rw [eus] at r8
  rw [et] at r10
  have hlt : t % nn < nn := Nat.mod_lt _ (by omega)
  have eP : nI us + 4 + 8 * nI (t % nn) = nI (us + 4 + 8 * (t % nn)) := by rw [show (4 : Int32) = nI 4 from rfl, show (8 : Int32) = nI 8 from rfl, pk_mul, nI_add, nI_add]
  have cP : S_X6_placeOf_5 v f (nI t) = nI (t % nn) := by
    unfold S_X6_placeOf_5
    rw [r5, if_neg (nI_nle (by omega) (by omega)), pk_rem (by omega) (by omega) (by omega)]
  have p4 : nI (us + 4 + 8 * (t % nn)) + 4 = nI (us + 4 + 8 * (t % nn) + 4) := nI_add _ 4
  have p2 : nI us + 2 = nI (us + 2) := nI_add _ 2
  obtain ⟨t2, ht2, et2⟩ := pk_andE (nI t + 1) (m := 65535) 16 rfl
  generalize hp : us + 4 + 8 * (t % nn) = p at *
  have hp8 : p + 8 ≤ 4096 := by omega
  have c2 : Q_X6_giveBack_5_2 v f (nI hd) (nI b) = va_up f 2 (WR (WR (f 2) p 4 (bx hd)) (p + 4) 4 (bx b)) := by
    unfold Q_X6_giveBack_5_2 Q_X6_giveBack_5_1
    rw [r10, cP, r8, eP, p4, nI_l (by omega), nI_l (by omega), put_C _ _ _ _ _ (by omega) (by decide) (by omega), put_C _ _ _ _ _ (by omega) (by decide) (by omega), up_up, va_up_self]
  have c3 : Q_X6_giveBack_5_3 v f (nI hd) (nI b) = nI t2 := by
    unfold Q_X6_giveBack_5_3 S_X8_oneMore
    rw [r10, et2]
  have c4 : Q_X6_giveBack_5_4 v f (nI hd) (nI b) = va_up f 2 (WR (WR (WR (f 2) p 4 (bx hd)) (p + 4) 4 (bx b)) (us + 2) 2 (bx t2)) := by
    unfold Q_X6_giveBack_5_4
    rw [c2, c3, pk_un (by decide), r8, p2, nI_l (by omega), put_C _ _ _ _ _ (by omega) (by decide) (by omega), up_up, va_up_self]
  have c5 : Q_X6_giveBack_5_5 v f (nI hd) (nI b) = nI (nb (WR (WR (WR (f 2) p 4 (bx hd)) (p + 4) 4 (bx b)) (us + 2) 2 (bx t2)) av 2) := by
    unfold Q_X6_giveBack_5_5
    rw [c4, c3, pk_un (by decide), r7, two_C _ _ _ (by omega), va_up_self]
  have d2 : Q_X9_give_2 u g (nI b) 1 = va_up g 23 (WR (WR (g 23) p 4 (bx hd)) (p + 4) 4 (bx b)) := by
    unfold Q_X9_give_2 Q_X9_give_1
    rw [eus, et, e25, pk_rem (by omega) (by omega) (by omega), eP, p4, h3, nI_l (by omega), nI_l (by omega), put_M _ _ _ _ _ (by omega) (by decide) (by omega), put_M _ _ _ _ _ (by omega) (by decide) (by omega), up_up, va_up_self]
  have d3 : Q_X9_give_3 u g (nI b) 1 = va_up (va_up g 23 (WR (WR (WR (g 23) p 4 (bx hd)) (p + 4) 4 (bx b)) (us + 2) 2 (bx t2))) 30 (upd (g 30) 1 (nI t2)) := by
    unfold Q_X9_give_3
    rw [d2]
    simp (disch := omega) only [va_up_ne, va_up_self, pk_us]
    rw [et, et2, eus, p2, nI_l (by omega), put_M _ _ _ _ _ (by omega) (by decide) (by omega)]
    simp (disch := omega) only [va_up_ne, va_up_self]
    funext j
    by_cases x1 : j = 23
    · subst x1; simp (disch := omega) only [va_up_ne, va_up_self]
    · by_cases x2 : j = 30
      · subst x2; simp (disch := omega) only [va_up_ne, va_up_self]
      · simp (disch := omega) only [va_up_ne]
  have hE : EQ (WR (WR (WR (f 2) p 4 (bx hd)) (p + 4) 4 (bx b)) (us + 2) 2 (bx t2)) (WR (WR (WR (g 23) p 4 (bx hd)) (p + 4) 4 (bx b)) (us + 2) 2 (bx t2)) := ((EQ.wr h.mem _ _ _).wr _ _ _).wr _ _ _
  unfold S_X6_giveBack_5 S_X9_give
  rw [c5, c4, c3, d3, nb_low]
  simp (disch := omega) only [va_up_ne, va_up_self]
  rw [eav, nI_clamp (by omega), hE av (by omega)]
  generalize WR (WR (WR (f 2) p 4 (bx hd)) (p + 4) 4 (bx b)) (us + 2) 2 (bx t2) = FW at *
  generalize WR (WR (WR (g 23) p 4 (bx hd)) (p + 4) 4 (bx b)) (us + 2) 2 (bx t2) = GW at *
  have hS : SIM c (upd v 18 (nI t2)) (va_up f 2 FW) u (va_up (va_up g 23 GW) 30 (upd (g 30) 1 (nI t2))) := by
    have := (h.wr hE).given 1 (x := nI t2) (y := nI t2) rfl (by decide) ⟨t2, rfl, ht2⟩
    rw [va_up_ne _ _ (by decide)] at this
    exact this
  by_cases cb : GW av &&& 1 = 0
  · rw [if_pos cb, if_pos cb]
    dsimp only
    have hx : upd v 18 (nI t2) 19 + 1 = (g 31) 1 + 1 := by rw [pk_un (by decide), r11]
    have := hS.sig 1 hx (by decide)
    rw [va_up_ne _ _ (by decide), va_up_ne _ _ (by decide)] at this
    exact this
  · rw [if_neg cb, if_neg cb]
    exact hS
theorem gb_2 {c : Nat} {v : Nat → Int32} {f : Nat → Nat → Int32} {u : Nat → Int32} {g : Nat → Nat → Int32} (h : SIM c v f u g) (zg : ¬ g 25 2 = 0) {hd b : Nat} (h3 : u 3 = nI hd) (hh : hd < 65536) (hb : b < 2 ^ 31) : SIM c (S_X6_giveBack_6 v f (nI hd) (nI b)).1 (S_X6_giveBack_6 v f (nI hd) (nI b)).2 u (S_X9_give u g (nI b) 2) := by
  have hR := h.2.2.2.1 2 (by decide)
  obtain ⟨r4, r5, r6, r7, r8, r9, r10, r11⟩ := hR
  change v 21 = _ at r5
  change v 23 = _ at r7
  change v 24 = _ at r8
  change v 26 = _ at r10
  change v 27 = _ at r11
  obtain ⟨qu, -, ⟨t, et, ht⟩, -⟩ := h.minv.1 2 (by decide)
  obtain ⟨nn, e25, k1, k2, -, ⟨av, eav, hav⟩, ⟨us, eus, hus⟩⟩ := qu.resolve_left zg
  rw [e25] at r5
  rw [eav] at r7
  rw [eus] at r8
  rw [et] at r10
  have hlt : t % nn < nn := Nat.mod_lt _ (by omega)
  have eP : nI us + 4 + 8 * nI (t % nn) = nI (us + 4 + 8 * (t % nn)) := by rw [show (4 : Int32) = nI 4 from rfl, show (8 : Int32) = nI 8 from rfl, pk_mul, nI_add, nI_add]
  have cP : S_X6_placeOf_6 v f (nI t) = nI (t % nn) := by
    unfold S_X6_placeOf_6
    rw [r5, if_neg (nI_nle (by omega) (by omega)), pk_rem (by omega) (by omega) (by omega)]
  have p4 : nI (us + 4 + 8 * (t % nn)) + 4 = nI (us + 4 + 8 * (t % nn) + 4) := nI_add _ 4
  have p2 : nI us + 2 = nI (us + 2) := nI_add _ 2
  obtain ⟨t2, ht2, et2⟩ := pk_andE (nI t + 1) (m := 65535) 16 rfl
  generalize hp : us + 4 + 8 * (t % nn) = p at *
  have hp8 : p + 8 ≤ 4096 := by omega
  have c2 : Q_X6_giveBack_6_2 v f (nI hd) (nI b) = va_up f 2 (WR (WR (f 2) p 4 (bx hd)) (p + 4) 4 (bx b)) := by
    unfold Q_X6_giveBack_6_2 Q_X6_giveBack_6_1
    rw [r10, cP, r8, eP, p4, nI_l (by omega), nI_l (by omega), put_C _ _ _ _ _ (by omega) (by decide) (by omega), put_C _ _ _ _ _ (by omega) (by decide) (by omega), up_up, va_up_self]
  have c3 : Q_X6_giveBack_6_3 v f (nI hd) (nI b) = nI t2 := by
    unfold Q_X6_giveBack_6_3 S_X8_oneMore
    rw [r10, et2]
  have c4 : Q_X6_giveBack_6_4 v f (nI hd) (nI b) = va_up f 2 (WR (WR (WR (f 2) p 4 (bx hd)) (p + 4) 4 (bx b)) (us + 2) 2 (bx t2)) := by
    unfold Q_X6_giveBack_6_4
    rw [c2, c3, pk_un (by decide), r8, p2, nI_l (by omega), put_C _ _ _ _ _ (by omega) (by decide) (by omega), up_up, va_up_self]
  have c5 : Q_X6_giveBack_6_5 v f (nI hd) (nI b) = nI (nb (WR (WR (WR (f 2) p 4 (bx hd)) (p + 4) 4 (bx b)) (us + 2) 2 (bx t2)) av 2) := by
    unfold Q_X6_giveBack_6_5
    rw [c4, c3, pk_un (by decide), r7, two_C _ _ _ (by omega), va_up_self]
  have d2 : Q_X9_give_2 u g (nI b) 2 = va_up g 23 (WR (WR (g 23) p 4 (bx hd)) (p + 4) 4 (bx b)) := by
    unfold Q_X9_give_2 Q_X9_give_1
    rw [eus, et, e25, pk_rem (by omega) (by omega) (by omega), eP, p4, h3, nI_l (by omega), nI_l (by omega), put_M _ _ _ _ _ (by omega) (by decide) (by omega), put_M _ _ _ _ _ (by omega) (by decide) (by omega), up_up, va_up_self]
  have d3 : Q_X9_give_3 u g (nI b) 2 = va_up (va_up g 23 (WR (WR (WR (g 23) p 4 (bx hd)) (p + 4) 4 (bx b)) (us + 2) 2 (bx t2))) 30 (upd (g 30) 2 (nI t2)) := by
    unfold Q_X9_give_3
    rw [d2]
    simp (disch := omega) only [va_up_ne, va_up_self, pk_us]
    rw [et, et2, eus, p2, nI_l (by omega), put_M _ _ _ _ _ (by omega) (by decide) (by omega)]
    simp (disch := omega) only [va_up_ne, va_up_self]
    funext j
    by_cases x1 : j = 23
    · subst x1; simp (disch := omega) only [va_up_ne, va_up_self]
    · by_cases x2 : j = 30
      · subst x2; simp (disch := omega) only [va_up_ne, va_up_self]
      · simp (disch := omega) only [va_up_ne]
  have hE : EQ (WR (WR (WR (f 2) p 4 (bx hd)) (p + 4) 4 (bx b)) (us + 2) 2 (bx t2)) (WR (WR (WR (g 23) p 4 (bx hd)) (p + 4) 4 (bx b)) (us + 2) 2 (bx t2)) := ((EQ.wr h.mem _ _ _).wr _ _ _).wr _ _ _
  unfold S_X6_giveBack_6 S_X9_give
  rw [c5, c4, c3, d3, nb_low]
  simp (disch := omega) only [va_up_ne, va_up_self]
  rw [eav, nI_clamp (by omega), hE av (by omega)]
  generalize WR (WR (WR (f 2) p 4 (bx hd)) (p + 4) 4 (bx b)) (us + 2) 2 (bx t2) = FW at *
  generalize WR (WR (WR (g 23) p 4 (bx hd)) (p + 4) 4 (bx b)) (us + 2) 2 (bx t2) = GW at *
  have hS : SIM c (upd v 26 (nI t2)) (va_up f 2 FW) u (va_up (va_up g 23 GW) 30 (upd (g 30) 2 (nI t2))) := by
    have := (h.wr hE).given 2 (x := nI t2) (y := nI t2) rfl (by decide) ⟨t2, rfl, ht2⟩
    rw [va_up_ne _ _ (by decide)] at this
    exact this
  by_cases cb : GW av &&& 1 = 0
  · rw [if_pos cb, if_pos cb]
    dsimp only
    have hx : upd v 26 (nI t2) 27 + 1 = (g 31) 2 + 1 := by rw [pk_un (by decide), r11]
    have := hS.sig 2 hx (by decide)
    rw [va_up_ne _ _ (by decide), va_up_ne _ _ (by decide)] at this
    exact this
  · rw [if_neg cb, if_neg cb]
    exact hS
