theorem q3 {a : Int32} (h1 : ¬ a < 0) (h2 : ¬ (3 : Int32) ≤ a) : a = 0 ∨ a = 1 ∨ a = 2 := by
  obtain ⟨j, hj, rfl⟩ := nI_of h1
  rw [show (3 : Int32) = nI 3 from rfl, nI_leI (by decide) hj] at h2
  match j, h2 with
  | 0, _ => exact Or.inl rfl
  | 1, _ => exact Or.inr (Or.inl rfl)
  | 2, _ => exact Or.inr (Or.inr rfl)
  | j + 3, h2 => omega
/-- the two ways of testing that a number lies in bounds -/
theorem isin (u : Nat → Int32) (g : Nat → Nat → Int32) (a : Int32) {M N : Int32} {n : Nat} (hM : M = nI n) (hN : N = nI (n + 1)) (hn : n + 1 < 2 ^ 31) : S_X9_isIn u g a 0 M = (if a < 0 then 0 else if N ≤ a then 0 else 1) := by
  subst hM hN
  unfold S_X9_isIn
  by_cases h : a < 0
  · rw [if_pos h, if_pos h]
  · rw [if_neg h, if_neg h]
    obtain ⟨j, hj, rfl⟩ := nI_of h
    by_cases h2 : n < j
    · rw [if_pos ((nI_ltI (by omega) hj).mpr h2), if_pos ((nI_leI (by omega) hj).mpr (by omega))]
    · rw [if_neg (fun q => h2 ((nI_ltI (by omega) hj).mp q)), if_neg (fun q => h2 (by have := (nI_leI (by omega) hj).mp q; omega))]
theorem isin_q (v u : Nat → Int32) (f g : Nat → Nat → Int32) (a : Int32) : S_X9_isIn u g a 0 2 = S_X8_isQueue v f a := isin u g a (n := 2) rfl rfl (by decide)
theorem isin_a (v u : Nat → Int32) (f g : Nat → Nat → Int32) (a : Int32) : S_X9_isIn u g a 0 4095 = S_X8_isAddress v f a := isin u g a (n := 4095) rfl rfl (by decide)
theorem isin_s (v u : Nat → Int32) (f g : Nat → Nat → Int32) (a : Int32) : S_X9_isIn u g a 0 31 = S_X8_isSector v f a := isin u g a (n := 31) rfl rfl (by decide)
theorem isin_f (v u : Nat → Int32) (f g : Nat → Nat → Int32) (a : Int32) : S_X9_isIn u g a 1 80 = S_X8_isFrame v f a := rfl
theorem isq {v : Nat → Int32} {f : Nat → Nat → Int32} {a : Int32} (h : ¬ S_X8_isQueue v f a = 0) : a = 0 ∨ a = 1 ∨ a = 2 := by
  unfold S_X8_isQueue at h
  by_cases h1 : a < 0
  · rw [if_pos h1] at h; exact absurd rfl h
  · rw [if_neg h1] at h
    by_cases h2 : (3 : Int32) ≤ a
    · rw [if_pos h2] at h; exact absurd rfl h
    · exact q3 h1 h2
theorem isa {v : Nat → Int32} {f : Nat → Nat → Int32} {a : Int32} (h : ¬ S_X8_isAddress v f a = 0) : ∃ p : Nat, p < 4096 ∧ a = nI p := by
  unfold S_X8_isAddress at h
  by_cases h1 : a < 0
  · rw [if_pos h1] at h; exact absurd rfl h
  · rw [if_neg h1] at h
    by_cases h2 : (4096 : Int32) ≤ a
    · rw [if_pos h2] at h; exact absurd rfl h
    · obtain ⟨j, hj, rfl⟩ := nI_of h1
      rw [show (4096 : Int32) = nI 4096 from rfl, nI_leI (by decide) hj] at h2
      exact ⟨j, by omega, rfl⟩
theorem iss {v : Nat → Int32} {f : Nat → Nat → Int32} {a : Int32} (h : ¬ S_X8_isSector v f a = 0) : ∃ p : Nat, p < 32 ∧ a = nI p := by
  unfold S_X8_isSector at h
  by_cases h1 : a < 0
  · rw [if_pos h1] at h; exact absurd rfl h
  · rw [if_neg h1] at h
    by_cases h2 : (32 : Int32) ≤ a
    · rw [if_pos h2] at h; exact absurd rfl h
    · obtain ⟨j, hj, rfl⟩ := nI_of h1
      rw [show (32 : Int32) = nI 32 from rfl, nI_leI (by decide) hj] at h2
      exact ⟨j, by omega, rfl⟩
theorem SIM.mem {c : Nat} {v : Nat → Int32} {f : Nat → Nat → Int32} {u : Nat → Int32} {g : Nat → Nat → Int32} (h : SIM c v f u g) : ∀ p : Nat, p < 4096 → f 2 p = g 23 p := h.2.1
theorem SIM.dsk {c : Nat} {v : Nat → Int32} {f : Nat → Nat → Int32} {u : Nat → Int32} {g : Nat → Nat → Int32} (h : SIM c v f u g) : ∀ p : Nat, p < 2048 → f 11 p = g 24 p := h.2.2.1
/-- only MEMORY changes -/
theorem SIM.memf {c : Nat} {v : Nat → Int32} {f : Nat → Nat → Int32} {u : Nat → Int32} {g : Nat → Nat → Int32} (h : SIM c v f u g) {F G : Nat → Int32} (hm : ∀ p : Nat, p < 4096 → F p = G p) : SIM c v (va_up f 2 F) u (va_up g 23 G) := by
  refine h.fr (fun _ _ => rfl) (fun _ _ => rfl) (fun j h1 _ _ _ => va_up_ne _ _ h1) (fun j h1 _ _ => va_up_ne _ _ h1) (fun p hp => ?_) (fun p hp => ?_)
  · rw [va_up_self, va_up_self]; exact hm p hp
  · rw [va_up_ne _ _ (by decide), va_up_ne _ _ (by decide)]; exact h.dsk p hp
theorem sim_run {c9 : Nat} {v : Nat → Int32} {f : Nat → Nat → Int32} {u : Nat → Int32} {g : Nat → Nat → Int32} (h : SIM c9 v f u g) (hc : c9 + 1 ≤ 512)  : (S_X8_run v f).1 = (S_X9_run u g).1 ∧ SIM (c9 + 1) ((S_X8_run v f).2) (f) ((S_X9_run u g).2) (g) := by
  unfold S_X8_run S_X9_run
  rw [h.1.1]
  split
  · exact ⟨rfl, (h.up hc).st 1 (Or.inr (Or.inl rfl))⟩
  · exact ⟨rfl, h.up hc⟩
theorem sim_peek {c9 : Nat} {v : Nat → Int32} {f : Nat → Nat → Int32} {u : Nat → Int32} {g : Nat → Nat → Int32} (h : SIM c9 v f u g) (hc : c9 + 1 ≤ 512) (a : Int32) : (S_X8_peek v f a) = (S_X9_peek u g a) ∧ SIM (c9 + 1) (v) (f) (u) (g) := by
  refine ⟨?_, h.up hc⟩
  unfold S_X8_peek S_X9_peek
  rw [isin_a v u f g]
  split
  · rfl
  · rename_i h1
    obtain ⟨p, hp, rfl⟩ := isa h1
    rw [at_C v f p hp, nI_clamp (by omega), bt8_and, h.mem p hp]
theorem sim_poke {c9 : Nat} {v : Nat → Int32} {f : Nat → Nat → Int32} {u : Nat → Int32} {g : Nat → Nat → Int32} (h : SIM c9 v f u g) (hc : c9 + 1 ≤ 512) (a : Int32) (b : Int32) : (S_X8_poke v f a b).1 = (S_X9_poke u g a b).1 ∧ SIM (c9 + 1) (v) ((S_X8_poke v f a b).2) (u) ((S_X9_poke u g a b).2) := by
  unfold S_X8_poke S_X9_poke
  rw [isin_a v u f g]
  split
  · exact ⟨rfl, h.up hc⟩
  · rename_i h1
    obtain ⟨p, hp, rfl⟩ := isa h1
    unfold S_X9_isIn
    by_cases h2 : b < 0
    · rw [if_pos h2, if_pos h2]; exact ⟨rfl, h.up hc⟩
    · rw [if_neg h2, if_neg h2]
      by_cases h3 : b ≤ 255
      · rw [if_pos h3, if_neg (show ¬ (255 : Int32) < b from fun q => by rw [Int32.lt_iff_toInt_lt] at q; rw [Int32.le_iff_toInt_le] at h3; omega), if_neg (by decide)]
        rw [at_C v f p hp, nI_clamp (by omega), bt8_and, h.mem p hp]
        refine ⟨rfl, ?_⟩
        show SIM (c9 + 1) v (S_X5_set v f (nI p) b) u _
        unfold S_X5_set
        rw [if_neg (nI_pos (by omega)), if_neg (show ¬ (4096 : Int32) ≤ nI p from nI_ge (b := 4096) hp (by decide)), nI_clamp (by omega)]
        refine (h.up hc).memf (fun p9 hp9 => ?_)
        unfold upd
        split
        · rfl
        · exact h.mem p9 hp9
      · rw [if_neg h3, if_pos (show (255 : Int32) < b from by rw [Int32.lt_iff_toInt_lt]; rw [Int32.le_iff_toInt_le] at h3; omega), if_pos rfl]
        exact ⟨rfl, h.up hc⟩
theorem sim_written {c9 : Nat} {v : Nat → Int32} {f : Nat → Nat → Int32} {u : Nat → Int32} {g : Nat → Nat → Int32} (h : SIM c9 v f u g) (hc : c9 + 1 ≤ 512) (a : Int32) : (S_X8_written v f a) = (S_X9_written u g a) ∧ SIM (c9 + 1) (v) (f) (u) (g) := by
  refine ⟨?_, h.up hc⟩
  unfold S_X8_written S_X9_written
  rw [isin_q v u f g]
  have h0 := (h.2.2.2.2.2.1 0 (by decide)).1.2.2
  have h1 := (h.2.2.2.2.2.1 1 (by decide)).1.2.2
  have h2 := (h.2.2.2.2.2.1 2 (by decide)).1.2.2
  split
  · rfl
  · split
    · exact h0
    · split
      · exact h1
      · exact h2
theorem sim_disk {c9 : Nat} {v : Nat → Int32} {f : Nat → Nat → Int32} {u : Nat → Int32} {g : Nat → Nat → Int32} (h : SIM c9 v f u g) (hc : c9 + 1 ≤ 512) (a : Int32) (b : Int32) : (S_X8_disk v f a b) = (S_X9_disk u g a b) ∧ SIM (c9 + 1) (v) (f) (u) (g) := by
  refine ⟨?_, h.up hc⟩
  unfold S_X8_disk S_X9_disk
  rw [isin_s v u f g]
  split
  · rfl
  · rename_i h1
    obtain ⟨p, hp, rfl⟩ := iss h1
    rw [isin u g b (n := 63) (M := 63) (N := 64) rfl rfl (by decide)]
    by_cases h2 : b < 0
    · rw [if_pos h2, if_pos h2, if_pos rfl]
    · obtain ⟨j, hj, rfl⟩ := nI_of h2
      rw [if_neg h2, if_neg h2]
      by_cases h3 : j < 64
      · rw [if_pos (show nI j < 64 from nI_lt (b := 64) h3 (by decide)), if_neg (show ¬ (64 : Int32) ≤ nI j from nI_ge (b := 64) h3 (by decide)), if_neg (by decide)]
        rw [show (64 : Int32) = nI 64 from rfl, pk_mul, nI_add]
        unfold S_X2_at
        rw [if_neg (nI_pos (by omega)), if_neg (show ¬ (2048 : Int32) ≤ nI (64 * p + j) from nI_ge (b := 2048) (by omega) (by decide)), nI_clamp (by omega), h.dsk _ (by omega)]
      · rw [if_neg (show ¬ nI j < 64 from nI_nlt (b := 64) (by omega) (by omega)), if_pos (show (64 : Int32) ≤ nI j from nI_le (a := 64) (by omega) (by omega)), if_pos rfl]
theorem sim_count {c9 : Nat} {v : Nat → Int32} {f : Nat → Nat → Int32} {u : Nat → Int32} {g : Nat → Nat → Int32} (h : SIM c9 v f u g) (hc : c9 + 1 ≤ 512) (a : Int32) : (S_X8_count v f a) = (S_X9_count u g a) ∧ SIM (c9 + 1) (v) (f) (u) (g) := by
  refine ⟨?_, h.up hc⟩
  unfold S_X8_count S_X9_count
  obtain ⟨a1, a2, a3, a4, a5, a6, a7, a8, a9, a10⟩ := h.1
  rw [a1, a2, a3, a4, a5]
