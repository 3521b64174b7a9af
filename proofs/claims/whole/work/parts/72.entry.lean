theorem arr_start {s : State} {a : Array Value} {ty : FieldType} (h : (Cond.arrayClass ty).before a s = true) (hn : ∀ C : String, ty ≠ .object C) : ∃ cA : ClassId, ArrOfT s cA ty ∧ va_RA s cA ty := by
  obtain ⟨cA, kA, comp, h1, h2, h3⟩ := Cond.arrayClass_spec h
  refine ⟨cA, fun n z => ⟨fun k h => (by cases h), kA, h2, comp, h3⟩, ?_⟩
  cases ty with
  | object C => exact absurd rfl (hn C)
  | _ => exact h1
/-- what the entry gives -/
theorem bg_start {s : State} {b : Nat} (hts : ∀ w ∈ lw_tbl, w.before #[Value.ref b] s = true) (hgv : (Jvm.Cond.and given_1 narrow_1).before #[Value.ref b] s = true) : ∃ ε : ET, BG ε (fun q => s.heap.size ≤ q) s := by
  have hg := flat_of_before _ hgv
  have ht : ∀ w ∈ TB, w.before #[Value.ref b] s = true := fun w h => hts w (TB_in w h)
  obtain ⟨c0, i0, k0⟩ := u_known (ws := TB) (T := TX0) (N := 12) ht inX0 (ht _ wn_X0)
  obtain ⟨c1, i1, k1⟩ := u_known (ws := TB) (T := TX1) (N := 10) ht inX1 (ht _ wn_X1)
  obtain ⟨c2, i2, k2⟩ := u_known (ws := TB) (T := TX2) (N := 1) ht inX2 (ht _ wn_X2)
  obtain ⟨c3, i3, k3⟩ := u_known (ws := TB) (T := TX3) (N := 6) ht inX3 (ht _ wn_X3)
  obtain ⟨c4, i4, k4⟩ := u_known (ws := TB) (T := TX4) (N := 5) ht inX4 (ht _ wn_X4)
  obtain ⟨c5, i5, k5⟩ := u_known (ws := TB) (T := TX5) (N := 1) ht inX5 (ht _ wn_X5)
  obtain ⟨c6, i6, k6⟩ := u_known (ws := TB) (T := TX6) (N := 9) ht inX6 (ht _ wn_X6)
  obtain ⟨c7, i7, k7⟩ := u_known (ws := TB) (T := TX7) (N := 4) ht inX7 (ht _ wn_X7)
  obtain ⟨c8, i8, k8⟩ := u_known (ws := TB) (T := TX8) (N := 3) ht inX8 (ht _ wn_X8)
  obtain ⟨c9, i9, k9⟩ := u_known (ws := TB) (T := TX9) (N := 32) ht inX9 (ht _ wn_X9)
  obtain ⟨cB, hB⟩ := arr_start (ht _ wa_byte) (by intro C h; cases h)
  obtain ⟨cI, hI⟩ := arr_start (ht _ wa_int) (by intro C h; cases h)
  obtain ⟨cZ, hZ⟩ := arr_start (ht _ wa_boolean) (by intro C h; cases h)
  have hA : ∀ a : Nat, a < s.heap.size → ¬ (fun q => s.heap.size ≤ q) a := fun a h1 h2 => by exact absurd h2 (Nat.not_le.mpr h1)
  have one : ∀ {P : Nat → Prop}, P 0 → ∀ i : Nat, i < 1 → P i := fun {P} h0 i hi => by
    match i, hi with
    | 0, _ => exact h0
  obtain ⟨adK, adV, hS, hE⟩ := vk_Sof (args := #[Value.ref b]) (s := s) (N := 1) (tm := fun _ => .string RX2 85) (len := [5]) (byt := [[114, 105, 110, 103, 115]]) (A := fun q => s.heap.size ≤ q)
    (one (by decide)) (one (hg _ (by decide +kernel))) (one (hg _ (by decide +kernel))) (one (hg _ (by decide +kernel))) (one (hg _ (by decide +kernel)))
    (one (fun j hj => by
      match j, hj with
      | 0, _ => exact hg _ (by decide +kernel)
      | 1, _ => exact hg _ (by decide +kernel)
      | 2, _ => exact hg _ (by decide +kernel)
      | 3, _ => exact hg _ (by decide +kernel)
      | 4, _ => exact hg _ (by decide +kernel)
      | j + 5, hj => exact absurd hj (by show ¬ j + 5 < 5; omega)))
    (fun i j hi hj hn => absurd (show i = j by omega) hn) hA
  refine ⟨((fun c => [c0, c1, c2, c3, c4, c5, c6, c7, c8, c9].getD c c0, fun c => [i0, i1, i2, i3, i4, i5, i6, i7, i8, i9].getD c i0), cB, cI, cZ, adK 0, adV 0), ⟨?_, ?_⟩, nest_of hts, ?_, ?_, ?_, ?_⟩
  · intro c q hq
    match c, hq with
    | 0, hq => cases hq; exact k0
    | 1, hq => cases hq; exact k1
    | 2, hq => cases hq; exact k2
    | 3, hq => cases hq; exact k3
    | 4, hq => cases hq; exact k4
    | 5, hq => cases hq; exact k5
    | 6, hq => cases hq; exact k6
    | 7, hq => cases hq; exact k7
    | 8, hq => cases hq; exact k8
    | 9, hq => cases hq; exact k9
    | c + 10, hq => cases hq
  · intro k q hq
    match k, hq with
    | 0, hq => cases hq; exact hB
    | 1, hq => cases hq; exact hI
    | 2, hq => cases hq; exact hZ
    | k + 3, hq => cases hq
  · refine ⟨fun i hi => ?_, fun i j hi hj _ => by omega⟩
    have := hS.1 0 (by decide)
    match i, hi with
    | 0, _ => exact this
  · exact vk_R.of (hts _ (tl_3 14 rfl)) (hE 0 (by decide))
  · exact va_Zof (hts _ (tl_3 24 rfl)) (ht _ wz_J0) (va_eqt (hg _ (by decide +kernel))) hA
  · exact va_Zqof (hts _ (tl_3 40 rfl)) (ht _ wz_J3) (hg _ (by decide +kernel)) hA
