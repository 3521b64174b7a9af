theorem sim_step {c9 : Nat} {v : Nat → Int32} {f : Nat → Nat → Int32} {u : Nat → Int32} {g : Nat → Nat → Int32} (h : SIM c9 v f u g) (hc : c9 + 1 ≤ 512) (a : Int32) : (S_X8_step v f a).1 = (S_X9_step u g a).1 ∧ SIM (c9 + 1) ((S_X8_step v f a).2.1) ((S_X8_step v f a).2.2) ((S_X9_step u g a).2.1) ((S_X9_step u g a).2.2) := by
  sorry
theorem sim_arrive {c9 : Nat} {v : Nat → Int32} {f : Nat → Nat → Int32} {u : Nat → Int32} {g : Nat → Nat → Int32} (h : SIM c9 v f u g) (hc : c9 + 1 ≤ 512) (a : Int32) (b : Int64) : (S_X8_arrive v f a b).1 = (S_X9_arrive u g a b).1 ∧ SIM (c9 + 1) ((S_X8_arrive v f a b).2.1) ((S_X8_arrive v f a b).2.2) ((S_X9_arrive u g a b).2.1) ((S_X9_arrive u g a b).2.2) := by
  sorry
