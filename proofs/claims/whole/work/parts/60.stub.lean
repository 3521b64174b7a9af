theorem sim_start {c9 : Nat} {v : Nat → Int32} {f : Nat → Nat → Int32} {u : Nat → Int32} {g : Nat → Nat → Int32} (h : SIM c9 v f u g) (hc : c9 + 1 ≤ 512) (a : Int32) (ha : a = 0 ∨ a = 1) : (S_X8_start v f a).1 = (S_X9_start u g a).1 ∧ SIM (c9 + 1) ((S_X8_start v f a).2.1) ((S_X8_start v f a).2.2) ((S_X9_start u g a).2.1) ((S_X9_start u g a).2.2) := by
  sorry
theorem sim_reset {c9 : Nat} {v : Nat → Int32} {f : Nat → Nat → Int32} {u : Nat → Int32} {g : Nat → Nat → Int32} (h : SIM c9 v f u g) (hc : c9 + 1 ≤ 512) (a : Int32) (ha : a = 0 ∨ a = 1) : (S_X8_reset v f a).1 = (S_X9_reset u g a).1 ∧ SIM (c9 + 1) ((S_X8_reset v f a).2.1) ((S_X8_reset v f a).2.2) ((S_X9_reset u g a).2.1) ((S_X9_reset u g a).2.2) := by
  sorry
theorem sim_queue {c9 : Nat} {v : Nat → Int32} {f : Nat → Nat → Int32} {u : Nat → Int32} {g : Nat → Nat → Int32} (h : SIM c9 v f u g) (hc : c9 + 1 ≤ 512) (a : Int32) (b : Int32) (c : Int32) (d : Int32) (e : Int32) : (S_X8_queue v f a b c d e).1 = (S_X9_queue u g a b c d e).1 ∧ SIM (c9 + 1) ((S_X8_queue v f a b c d e).2) (f) (u) ((S_X9_queue u g a b c d e).2) := by
  sorry
theorem sim_run {c9 : Nat} {v : Nat → Int32} {f : Nat → Nat → Int32} {u : Nat → Int32} {g : Nat → Nat → Int32} (h : SIM c9 v f u g) (hc : c9 + 1 ≤ 512)  : (S_X8_run v f).1 = (S_X9_run u g).1 ∧ SIM (c9 + 1) ((S_X8_run v f).2) (f) ((S_X9_run u g).2) (g) := by
  sorry
theorem sim_poke {c9 : Nat} {v : Nat → Int32} {f : Nat → Nat → Int32} {u : Nat → Int32} {g : Nat → Nat → Int32} (h : SIM c9 v f u g) (hc : c9 + 1 ≤ 512) (a : Int32) (b : Int32) : (S_X8_poke v f a b).1 = (S_X9_poke u g a b).1 ∧ SIM (c9 + 1) (v) ((S_X8_poke v f a b).2) (u) ((S_X9_poke u g a b).2) := by
  sorry
theorem sim_peek {c9 : Nat} {v : Nat → Int32} {f : Nat → Nat → Int32} {u : Nat → Int32} {g : Nat → Nat → Int32} (h : SIM c9 v f u g) (hc : c9 + 1 ≤ 512) (a : Int32) : (S_X8_peek v f a) = (S_X9_peek u g a) ∧ SIM (c9 + 1) (v) (f) (u) (g) := by
  sorry
theorem sim_step {c9 : Nat} {v : Nat → Int32} {f : Nat → Nat → Int32} {u : Nat → Int32} {g : Nat → Nat → Int32} (h : SIM c9 v f u g) (hc : c9 + 1 ≤ 512) (a : Int32) : (S_X8_step v f a).1 = (S_X9_step u g a).1 ∧ SIM (c9 + 1) ((S_X8_step v f a).2.1) ((S_X8_step v f a).2.2) ((S_X9_step u g a).2.1) ((S_X9_step u g a).2.2) := by
  sorry
theorem sim_arrive {c9 : Nat} {v : Nat → Int32} {f : Nat → Nat → Int32} {u : Nat → Int32} {g : Nat → Nat → Int32} (h : SIM c9 v f u g) (hc : c9 + 1 ≤ 512) (a : Int32) (b : Int64) : (S_X8_arrive v f a b).1 = (S_X9_arrive u g a b).1 ∧ SIM (c9 + 1) ((S_X8_arrive v f a b).2.1) ((S_X8_arrive v f a b).2.2) ((S_X9_arrive u g a b).2.1) ((S_X9_arrive u g a b).2.2) := by
  sorry
theorem sim_read {c9 : Nat} {v : Nat → Int32} {f : Nat → Nat → Int32} {u : Nat → Int32} {g : Nat → Nat → Int32} (h : SIM c9 v f u g) (hc : c9 + 1 ≤ 512) (a : Int32) : (S_X8_read v f a).1 = (S_X9_read u g a).1 ∧ SIM (c9 + 1) ((S_X8_read v f a).2.1) ((S_X8_read v f a).2.2) (u) ((S_X9_read u g a).2) := by
  sorry
theorem sim_write {c9 : Nat} {v : Nat → Int32} {f : Nat → Nat → Int32} {u : Nat → Int32} {g : Nat → Nat → Int32} (h : SIM c9 v f u g) (hc : c9 + 1 ≤ 512) (a : Int32) (b : Int64) : (S_X8_write v f a b).1 = (S_X9_write u g a b).1 ∧ SIM (c9 + 1) ((S_X8_write v f a b).2.1) ((S_X8_write v f a b).2.2) (u) ((S_X9_write u g a b).2) := by
  sorry
theorem sim_send {c9 : Nat} {v : Nat → Int32} {f : Nat → Nat → Int32} {u : Nat → Int32} {g : Nat → Nat → Int32} (h : SIM c9 v f u g) (hc : c9 + 1 ≤ 512) (a : Int32) (b : Int64) : (S_X8_send v f a b).1 = (S_X9_send u g a b).1 ∧ SIM (c9 + 1) ((S_X8_send v f a b).2.1) ((S_X8_send v f a b).2.2) (u) ((S_X9_send u g a b).2) := by
  sorry
theorem sim_post {c9 : Nat} {v : Nat → Int32} {f : Nat → Nat → Int32} {u : Nat → Int32} {g : Nat → Nat → Int32} (h : SIM c9 v f u g) (hc : c9 + 1 ≤ 512)  : (S_X8_post v f).1 = (S_X9_post u g).1 ∧ SIM (c9 + 1) ((S_X8_post v f).2.1) ((S_X8_post v f).2.2) (u) ((S_X9_post u g).2) := by
  sorry
theorem sim_collect {c9 : Nat} {v : Nat → Int32} {f : Nat → Nat → Int32} {u : Nat → Int32} {g : Nat → Nat → Int32} (h : SIM c9 v f u g) (hc : c9 + 1 ≤ 512) (a : Int32) : (S_X8_collect v f a).1 = (S_X9_collect u g a).1 ∧ SIM (c9 + 1) ((S_X8_collect v f a).2.1) ((S_X8_collect v f a).2.2) (u) ((S_X9_collect u g a).2) := by
  sorry
theorem sim_written {c9 : Nat} {v : Nat → Int32} {f : Nat → Nat → Int32} {u : Nat → Int32} {g : Nat → Nat → Int32} (h : SIM c9 v f u g) (hc : c9 + 1 ≤ 512) (a : Int32) : (S_X8_written v f a) = (S_X9_written u g a) ∧ SIM (c9 + 1) (v) (f) (u) (g) := by
  sorry
theorem sim_wire {c9 : Nat} {v : Nat → Int32} {f : Nat → Nat → Int32} {u : Nat → Int32} {g : Nat → Nat → Int32} (h : SIM c9 v f u g) (hc : c9 + 1 ≤ 512) (a : Int32) (b : Int32) : (S_X8_wire v f a b) = (S_X9_wire u g a b) ∧ SIM (c9 + 1) (v) (f) (u) (g) := by
  sorry
theorem sim_disk {c9 : Nat} {v : Nat → Int32} {f : Nat → Nat → Int32} {u : Nat → Int32} {g : Nat → Nat → Int32} (h : SIM c9 v f u g) (hc : c9 + 1 ≤ 512) (a : Int32) (b : Int32) : (S_X8_disk v f a b) = (S_X9_disk u g a b) ∧ SIM (c9 + 1) (v) (f) (u) (g) := by
  sorry
theorem sim_told {c9 : Nat} {v : Nat → Int32} {f : Nat → Nat → Int32} {u : Nat → Int32} {g : Nat → Nat → Int32} (h : SIM c9 v f u g) (hc : c9 + 1 ≤ 512) (a : Int32) (b : Int32) : (S_X8_told v f a b) = (S_X9_told u g a b) ∧ SIM (c9 + 1) (v) (f) (u) (g) := by
  sorry
theorem sim_count {c9 : Nat} {v : Nat → Int32} {f : Nat → Nat → Int32} {u : Nat → Int32} {g : Nat → Nat → Int32} (h : SIM c9 v f u g) (hc : c9 + 1 ≤ 512) (a : Int32) : (S_X8_count v f a) = (S_X9_count u g a) ∧ SIM (c9 + 1) (v) (f) (u) (g) := by
  sorry
