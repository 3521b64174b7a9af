/-! the world: cells 0 .. 21 the class's (numbers v, rows f), 22 .. 42 the reference's (numbers u, rows g) -/
-- v 0: cell 3 (Device), state
-- v 1: cell 3 (Device), tables
-- v 2: cell 3 (Device), came
-- v 3: cell 3 (Device), dropped
-- v 4: cell 4 (Ring), laid
-- v 5: cell 4 (Ring), size
-- v 6: cell 4 (Ring), descriptors
-- v 7: cell 4 (Ring), available
-- v 8: cell 4 (Ring), used
-- v 9: cell 4 (Ring), taken
-- v 10: cell 4 (Ring), given
-- v 11: cell 4 (Ring), signals
-- v 12: cell 5 (Ring), laid
-- v 13: cell 5 (Ring), size
-- v 14: cell 5 (Ring), descriptors
-- v 15: cell 5 (Ring), available
-- v 16: cell 5 (Ring), used
-- v 17: cell 5 (Ring), taken
-- v 18: cell 5 (Ring), given
-- v 19: cell 5 (Ring), signals
-- v 20: cell 6 (Ring), laid
-- v 21: cell 6 (Ring), size
-- v 22: cell 6 (Ring), descriptors
-- v 23: cell 6 (Ring), available
-- v 24: cell 6 (Ring), used
-- v 25: cell 6 (Ring), taken
-- v 26: cell 6 (Ring), given
-- v 27: cell 6 (Ring), signals
-- v 28: cell 7 (Chain), parts
-- v 29: cell 7 (Chain), readParts
-- v 30: cell 7 (Chain), part
-- v 31: cell 7 (Chain), end
-- v 32: cell 7 (Chain), offset
-- v 33: cell 7 (Chain), lastPlace
-- v 34: cell 7 (Chain), head
-- v 35: cell 7 (Chain), readable
-- v 36: cell 7 (Chain), writable
-- v 37: cell 12 (Wire), latest
-- v 38: cell 12 (Wire), went
-- v 39: cell 15 (Driver), tables
-- v 40: cell 15 (Driver), started
-- v 41: cell 16 (Loans), free
-- v 42: cell 16 (Loans), asked
-- v 43: cell 16 (Loans), saw
-- v 44: cell 16 (Loans), latestWritten
-- v 45: cell 18 (Loans), free
-- v 46: cell 18 (Loans), asked
-- v 47: cell 18 (Loans), saw
-- v 48: cell 18 (Loans), latestWritten
-- v 49: cell 20 (Loans), free
-- v 50: cell 20 (Loans), asked
-- v 51: cell 20 (Loans), saw
-- v 52: cell 20 (Loans), latestWritten
-- u 0: cell 22 (Model), state
-- u 1: cell 22 (Model), tables
-- u 2: cell 22 (Model), started
-- u 3: cell 22 (Model), head
-- u 4: cell 22 (Model), readMany
-- u 5: cell 22 (Model), readAll
-- u 6: cell 22 (Model), writeMany
-- u 7: cell 22 (Model), writeAll
-- u 8: cell 22 (Model), bad
-- u 9: cell 22 (Model), went
-- u 10: cell 22 (Model), came
-- u 11: cell 22 (Model), dropped
-- f 2: ('B', 4096)
-- f 8: ('I', 16)
-- f 9: ('I', 16)
-- f 11: ('B', 2048)
-- f 13: ('B', 1280)
-- f 14: ('I', 16)
-- f 17: ('I', 8)
-- f 19: ('I', 8)
-- f 21: ('I', 8)
-- g 23: ('B', 4096)
-- g 24: ('B', 2048)
-- g 25: ('I', 3)
-- g 26: ('I', 3)
-- g 27: ('I', 3)
-- g 28: ('I', 3)
-- g 29: ('I', 3)
-- g 30: ('I', 3)
-- g 31: ('I', 3)
-- g 32: ('I', 20)
-- g 33: ('I', 20)
-- g 34: ('I', 20)
-- g 35: ('I', 20)
-- g 36: ('B', 1280)
-- g 37: ('I', 16)
-- g 38: ('Z', 24)
-- g 39: ('I', 24)
-- g 40: ('I', 3)
-- g 41: ('I', 3)
-- g 42: ('I', 3)
def WD (ε : ET) (ad : Nat → Nat) (v : Nat → Int32) (f : Nat → Nat → Int32) (u : Nat → Int32) (g : Nat → Nat → Int32) : va_W := [(ad 0, .inr (8, [.ref (ad 1), .ref (ad 3), .ref (ad 15)])),
  (ad 1, .inr (5, [.ref (ad 2)])),
  (ad 2, .inl (ε.2.1, 4096, .inl (f 2))),
  (ad 3, .inr (1, [.ref (ad 4), .ref (ad 5), .ref (ad 6), .ref (ad 7), .ref (ad 10), .ref (ad 12), .int (v 0), .int (v 1), .int (v 2), .int (v 3)])),
  (ad 4, .inr (6, [.ref (ad 1), .int (v 4), .int (v 5), .int (v 6), .int (v 7), .int (v 8), .int (v 9), .int (v 10), .int (v 11)])),
  (ad 5, .inr (6, [.ref (ad 1), .int (v 12), .int (v 13), .int (v 14), .int (v 15), .int (v 16), .int (v 17), .int (v 18), .int (v 19)])),
  (ad 6, .inr (6, [.ref (ad 1), .int (v 20), .int (v 21), .int (v 22), .int (v 23), .int (v 24), .int (v 25), .int (v 26), .int (v 27)])),
  (ad 7, .inr (0, [.ref (ad 1), .ref (ad 8), .ref (ad 9), .int (v 28), .int (v 29), .int (v 30), .int (v 31), .int (v 32), .int (v 33), .int (v 34), .int (v 35), .int (v 36)])),
  (ad 8, .inl (ε.2.2.1, 16, .inl (f 8))),
  (ad 9, .inl (ε.2.2.1, 16, .inl (f 9))),
  (ad 10, .inr (2, [.ref (ad 11)])),
  (ad 11, .inl (ε.2.1, 2048, .inl (f 11))),
  (ad 12, .inr (7, [.ref (ad 13), .ref (ad 14), .int (v 37), .int (v 38)])),
  (ad 13, .inl (ε.2.1, 1280, .inl (f 13))),
  (ad 14, .inl (ε.2.2.1, 16, .inl (f 14))),
  (ad 15, .inr (3, [.ref (ad 1), .ref (ad 16), .ref (ad 18), .ref (ad 20), .int (v 39), .int (v 40)])),
  (ad 16, .inr (4, [.ref (ad 17), .int (v 41), .int (v 42), .int (v 43), .int (v 44)])),
  (ad 17, .inl (ε.2.2.1, 8, .inl (f 17))),
  (ad 18, .inr (4, [.ref (ad 19), .int (v 45), .int (v 46), .int (v 47), .int (v 48)])),
  (ad 19, .inl (ε.2.2.1, 8, .inl (f 19))),
  (ad 20, .inr (4, [.ref (ad 21), .int (v 49), .int (v 50), .int (v 51), .int (v 52)])),
  (ad 21, .inl (ε.2.2.1, 8, .inl (f 21))),
  (ad 22, .inr (9, [.ref (ad 23), .ref (ad 24), .int (u 0), .int (u 1), .int (u 2), .ref (ad 25), .ref (ad 26), .ref (ad 27), .ref (ad 28), .ref (ad 29), .ref (ad 30), .ref (ad 31), .int (u 3), .ref (ad 32), .ref (ad 33), .int (u 4), .int (u 5), .ref (ad 34), .ref (ad 35), .int (u 6), .int (u 7), .int (u 8), .ref (ad 36), .ref (ad 37), .int (u 9), .int (u 10), .int (u 11), .ref (ad 38), .ref (ad 39), .ref (ad 40), .ref (ad 41), .ref (ad 42)])),
  (ad 23, .inl (ε.2.1, 4096, .inl (g 23))),
  (ad 24, .inl (ε.2.1, 2048, .inl (g 24))),
  (ad 25, .inl (ε.2.2.1, 3, .inl (g 25))),
  (ad 26, .inl (ε.2.2.1, 3, .inl (g 26))),
  (ad 27, .inl (ε.2.2.1, 3, .inl (g 27))),
  (ad 28, .inl (ε.2.2.1, 3, .inl (g 28))),
  (ad 29, .inl (ε.2.2.1, 3, .inl (g 29))),
  (ad 30, .inl (ε.2.2.1, 3, .inl (g 30))),
  (ad 31, .inl (ε.2.2.1, 3, .inl (g 31))),
  (ad 32, .inl (ε.2.2.1, 20, .inl (g 32))),
  (ad 33, .inl (ε.2.2.1, 20, .inl (g 33))),
  (ad 34, .inl (ε.2.2.1, 20, .inl (g 34))),
  (ad 35, .inl (ε.2.2.1, 20, .inl (g 35))),
  (ad 36, .inl (ε.2.1, 1280, .inl (g 36))),
  (ad 37, .inl (ε.2.2.1, 16, .inl (g 37))),
  (ad 38, .inl (ε.2.2.2.1, 24, .inl (g 38))),
  (ad 39, .inl (ε.2.2.1, 24, .inl (g 39))),
  (ad 40, .inl (ε.2.2.1, 3, .inl (g 40))),
  (ad 41, .inl (ε.2.2.1, 3, .inl (g 41))),
  (ad 42, .inl (ε.2.2.1, 3, .inl (g 42)))]
def DT (r : Option Value) (ω : va_W) : Option Value → va_W → Prop := fun r1 ω1 => r1 = r ∧ ω1 = ω
theorem dt_i {ε : ET} {ad : Nat → Nat} {v : Nat → Int32} {u : Nat → Int32} {f : Nat → Nat → Int32} {g : Nat → Nat → Int32} {S : Int32} {r : Int32} (hs : S = r) : DT (some (.int (S))) (WD ε ad (v) (f) u g) (some (.int r)) (WD ε ad v f u g) := by subst hs; exact ⟨rfl, rfl⟩
theorem dt_iv {ε : ET} {ad : Nat → Nat} {u : Nat → Int32} {v1 : Nat → Int32} {f : Nat → Nat → Int32} {g : Nat → Nat → Int32} {S : Int32 × (Nat → Int32)} {r : Int32} (hs : S = (r, v1)) : DT (some (.int (S.1))) (WD ε ad (S.2) (f) u g) (some (.int r)) (WD ε ad v1 f u g) := by subst hs; exact ⟨rfl, rfl⟩
theorem dt_if {ε : ET} {ad : Nat → Nat} {v : Nat → Int32} {u : Nat → Int32} {g : Nat → Nat → Int32} {f1 : Nat → Nat → Int32} {S : Int32 × (Nat → Nat → Int32)} {r : Int32} (hs : S = (r, f1)) : DT (some (.int (S.1))) (WD ε ad (v) (S.2) u g) (some (.int r)) (WD ε ad v f1 u g) := by subst hs; exact ⟨rfl, rfl⟩
theorem dt_ivf {ε : ET} {ad : Nat → Nat} {u : Nat → Int32} {v1 : Nat → Int32} {g : Nat → Nat → Int32} {f1 : Nat → Nat → Int32} {S : Int32 × (Nat → Int32) × (Nat → Nat → Int32)} {r : Int32} (hs : S = (r, v1, f1)) : DT (some (.int (S.1))) (WD ε ad (S.2.1) (S.2.2) u g) (some (.int r)) (WD ε ad v1 f1 u g) := by subst hs; exact ⟨rfl, rfl⟩
theorem dt_l {ε : ET} {ad : Nat → Nat} {v : Nat → Int32} {u : Nat → Int32} {f : Nat → Nat → Int32} {g : Nat → Nat → Int32} {S : Int64} {r : Int64} (hs : S = r) : DT (some (.long (S))) (WD ε ad (v) (f) u g) (some (.long r)) (WD ε ad v f u g) := by subst hs; exact ⟨rfl, rfl⟩
theorem dt_lv {ε : ET} {ad : Nat → Nat} {u : Nat → Int32} {v1 : Nat → Int32} {f : Nat → Nat → Int32} {g : Nat → Nat → Int32} {S : Int64 × (Nat → Int32)} {r : Int64} (hs : S = (r, v1)) : DT (some (.long (S.1))) (WD ε ad (S.2) (f) u g) (some (.long r)) (WD ε ad v1 f u g) := by subst hs; exact ⟨rfl, rfl⟩
theorem dt_lf {ε : ET} {ad : Nat → Nat} {v : Nat → Int32} {u : Nat → Int32} {g : Nat → Nat → Int32} {f1 : Nat → Nat → Int32} {S : Int64 × (Nat → Nat → Int32)} {r : Int64} (hs : S = (r, f1)) : DT (some (.long (S.1))) (WD ε ad (v) (S.2) u g) (some (.long r)) (WD ε ad v f1 u g) := by subst hs; exact ⟨rfl, rfl⟩
theorem dt_lvf {ε : ET} {ad : Nat → Nat} {u : Nat → Int32} {v1 : Nat → Int32} {g : Nat → Nat → Int32} {f1 : Nat → Nat → Int32} {S : Int64 × (Nat → Int32) × (Nat → Nat → Int32)} {r : Int64} (hs : S = (r, v1, f1)) : DT (some (.long (S.1))) (WD ε ad (S.2.1) (S.2.2) u g) (some (.long r)) (WD ε ad v1 f1 u g) := by subst hs; exact ⟨rfl, rfl⟩
theorem dt_nv {ε : ET} {ad : Nat → Nat} {u : Nat → Int32} {v1 : Nat → Int32} {f : Nat → Nat → Int32} {g : Nat → Nat → Int32} {S : (Nat → Int32)}  (hs : S = v1) : DT none (WD ε ad (S) (f) u g) none (WD ε ad v1 f u g) := by subst hs; exact ⟨rfl, rfl⟩
theorem dt_nf {ε : ET} {ad : Nat → Nat} {v : Nat → Int32} {u : Nat → Int32} {g : Nat → Nat → Int32} {f1 : Nat → Nat → Int32} {S : (Nat → Nat → Int32)}  (hs : S = f1) : DT none (WD ε ad (v) (S) u g) none (WD ε ad v f1 u g) := by subst hs; exact ⟨rfl, rfl⟩
theorem dt_nvf {ε : ET} {ad : Nat → Nat} {u : Nat → Int32} {v1 : Nat → Int32} {g : Nat → Nat → Int32} {f1 : Nat → Nat → Int32} {S : (Nat → Int32) × (Nat → Nat → Int32)}  (hs : S = (v1, f1)) : DT none (WD ε ad (S.1) (S.2) u g) none (WD ε ad v1 f1 u g) := by subst hs; exact ⟨rfl, rfl⟩
theorem dt_iM {ε : ET} {ad : Nat → Nat} {v : Nat → Int32} {u : Nat → Int32} {f : Nat → Nat → Int32} {g : Nat → Nat → Int32} {S : Int32} {r : Int32} (hs : S = r) : DT (some (.int (S))) (WD ε ad v f (u) (g) ) (some (.int r)) (WD ε ad v f u g) := by subst hs; exact ⟨rfl, rfl⟩
theorem dt_ivM {ε : ET} {ad : Nat → Nat} {v : Nat → Int32} {u1 : Nat → Int32} {f : Nat → Nat → Int32} {g : Nat → Nat → Int32} {S : Int32 × (Nat → Int32)} {r : Int32} (hs : S = (r, u1)) : DT (some (.int (S.1))) (WD ε ad v f (S.2) (g) ) (some (.int r)) (WD ε ad v f u1 g) := by subst hs; exact ⟨rfl, rfl⟩
theorem dt_ifM {ε : ET} {ad : Nat → Nat} {v : Nat → Int32} {u : Nat → Int32} {f : Nat → Nat → Int32} {g1 : Nat → Nat → Int32} {S : Int32 × (Nat → Nat → Int32)} {r : Int32} (hs : S = (r, g1)) : DT (some (.int (S.1))) (WD ε ad v f (u) (S.2) ) (some (.int r)) (WD ε ad v f u g1) := by subst hs; exact ⟨rfl, rfl⟩
theorem dt_ivfM {ε : ET} {ad : Nat → Nat} {v : Nat → Int32} {u1 : Nat → Int32} {f : Nat → Nat → Int32} {g1 : Nat → Nat → Int32} {S : Int32 × (Nat → Int32) × (Nat → Nat → Int32)} {r : Int32} (hs : S = (r, u1, g1)) : DT (some (.int (S.1))) (WD ε ad v f (S.2.1) (S.2.2) ) (some (.int r)) (WD ε ad v f u1 g1) := by subst hs; exact ⟨rfl, rfl⟩
theorem dt_lM {ε : ET} {ad : Nat → Nat} {v : Nat → Int32} {u : Nat → Int32} {f : Nat → Nat → Int32} {g : Nat → Nat → Int32} {S : Int64} {r : Int64} (hs : S = r) : DT (some (.long (S))) (WD ε ad v f (u) (g) ) (some (.long r)) (WD ε ad v f u g) := by subst hs; exact ⟨rfl, rfl⟩
theorem dt_lvM {ε : ET} {ad : Nat → Nat} {v : Nat → Int32} {u1 : Nat → Int32} {f : Nat → Nat → Int32} {g : Nat → Nat → Int32} {S : Int64 × (Nat → Int32)} {r : Int64} (hs : S = (r, u1)) : DT (some (.long (S.1))) (WD ε ad v f (S.2) (g) ) (some (.long r)) (WD ε ad v f u1 g) := by subst hs; exact ⟨rfl, rfl⟩
theorem dt_lfM {ε : ET} {ad : Nat → Nat} {v : Nat → Int32} {u : Nat → Int32} {f : Nat → Nat → Int32} {g1 : Nat → Nat → Int32} {S : Int64 × (Nat → Nat → Int32)} {r : Int64} (hs : S = (r, g1)) : DT (some (.long (S.1))) (WD ε ad v f (u) (S.2) ) (some (.long r)) (WD ε ad v f u g1) := by subst hs; exact ⟨rfl, rfl⟩
theorem dt_lvfM {ε : ET} {ad : Nat → Nat} {v : Nat → Int32} {u1 : Nat → Int32} {f : Nat → Nat → Int32} {g1 : Nat → Nat → Int32} {S : Int64 × (Nat → Int32) × (Nat → Nat → Int32)} {r : Int64} (hs : S = (r, u1, g1)) : DT (some (.long (S.1))) (WD ε ad v f (S.2.1) (S.2.2) ) (some (.long r)) (WD ε ad v f u1 g1) := by subst hs; exact ⟨rfl, rfl⟩
theorem dt_nvM {ε : ET} {ad : Nat → Nat} {v : Nat → Int32} {u1 : Nat → Int32} {f : Nat → Nat → Int32} {g : Nat → Nat → Int32} {S : (Nat → Int32)}  (hs : S = u1) : DT none (WD ε ad v f (S) (g) ) none (WD ε ad v f u1 g) := by subst hs; exact ⟨rfl, rfl⟩
theorem dt_nfM {ε : ET} {ad : Nat → Nat} {v : Nat → Int32} {u : Nat → Int32} {f : Nat → Nat → Int32} {g1 : Nat → Nat → Int32} {S : (Nat → Nat → Int32)}  (hs : S = g1) : DT none (WD ε ad v f (u) (S) ) none (WD ε ad v f u g1) := by subst hs; exact ⟨rfl, rfl⟩
theorem dt_nvfM {ε : ET} {ad : Nat → Nat} {v : Nat → Int32} {u1 : Nat → Int32} {f : Nat → Nat → Int32} {g1 : Nat → Nat → Int32} {S : (Nat → Int32) × (Nat → Nat → Int32)}  (hs : S = (u1, g1)) : DT none (WD ε ad v f (S.1) (S.2) ) none (WD ε ad v f u1 g1) := by subst hs; exact ⟨rfl, rfl⟩
theorem nb_b {x : Int32} (h : x = 0 ∨ x = 1) : narrow .boolean (.int x) = .int x ∧ fits .boolean (.int x) = true := by rcases h with rfl | rfl <;> exact ⟨rfl, rfl⟩
section WORLD
variable {κ : KT} {ε : ET} {own : String} {cc : ByteArray} {nL : Nat} {ret : Option FieldType} {fr lo mc ms : Nat} {k n : Nat} {pc : Nat} {lv : List (Nat × Value)} {st : List Value} {ad : Nat → Nat} {v : Nat → Int32} {f : Nat → Nat → Int32} {u : Nat → Int32} {g : Nat → Nat → Int32}
theorem wl_0 : (WD ε ad v f u g)[0]? = some (ad 0, .inr (8, [.ref (ad 1), .ref (ad 3), .ref (ad 15)])) := rfl
theorem wl_1 : (WD ε ad v f u g)[1]? = some (ad 1, .inr (5, [.ref (ad 2)])) := rfl
theorem wl_2 : (WD ε ad v f u g)[2]? = some (ad 2, .inl (ε.2.1, 4096, .inl (f 2))) := rfl
theorem wl_3 : (WD ε ad v f u g)[3]? = some (ad 3, .inr (1, [.ref (ad 4), .ref (ad 5), .ref (ad 6), .ref (ad 7), .ref (ad 10), .ref (ad 12), .int (v 0), .int (v 1), .int (v 2), .int (v 3)])) := rfl
theorem wl_4 : (WD ε ad v f u g)[4]? = some (ad 4, .inr (6, [.ref (ad 1), .int (v 4), .int (v 5), .int (v 6), .int (v 7), .int (v 8), .int (v 9), .int (v 10), .int (v 11)])) := rfl
theorem wl_5 : (WD ε ad v f u g)[5]? = some (ad 5, .inr (6, [.ref (ad 1), .int (v 12), .int (v 13), .int (v 14), .int (v 15), .int (v 16), .int (v 17), .int (v 18), .int (v 19)])) := rfl
theorem wl_6 : (WD ε ad v f u g)[6]? = some (ad 6, .inr (6, [.ref (ad 1), .int (v 20), .int (v 21), .int (v 22), .int (v 23), .int (v 24), .int (v 25), .int (v 26), .int (v 27)])) := rfl
theorem wl_7 : (WD ε ad v f u g)[7]? = some (ad 7, .inr (0, [.ref (ad 1), .ref (ad 8), .ref (ad 9), .int (v 28), .int (v 29), .int (v 30), .int (v 31), .int (v 32), .int (v 33), .int (v 34), .int (v 35), .int (v 36)])) := rfl
theorem wl_8 : (WD ε ad v f u g)[8]? = some (ad 8, .inl (ε.2.2.1, 16, .inl (f 8))) := rfl
theorem wl_9 : (WD ε ad v f u g)[9]? = some (ad 9, .inl (ε.2.2.1, 16, .inl (f 9))) := rfl
theorem wl_10 : (WD ε ad v f u g)[10]? = some (ad 10, .inr (2, [.ref (ad 11)])) := rfl
theorem wl_11 : (WD ε ad v f u g)[11]? = some (ad 11, .inl (ε.2.1, 2048, .inl (f 11))) := rfl
theorem wl_12 : (WD ε ad v f u g)[12]? = some (ad 12, .inr (7, [.ref (ad 13), .ref (ad 14), .int (v 37), .int (v 38)])) := rfl
theorem wl_13 : (WD ε ad v f u g)[13]? = some (ad 13, .inl (ε.2.1, 1280, .inl (f 13))) := rfl
theorem wl_14 : (WD ε ad v f u g)[14]? = some (ad 14, .inl (ε.2.2.1, 16, .inl (f 14))) := rfl
theorem wl_15 : (WD ε ad v f u g)[15]? = some (ad 15, .inr (3, [.ref (ad 1), .ref (ad 16), .ref (ad 18), .ref (ad 20), .int (v 39), .int (v 40)])) := rfl
theorem wl_16 : (WD ε ad v f u g)[16]? = some (ad 16, .inr (4, [.ref (ad 17), .int (v 41), .int (v 42), .int (v 43), .int (v 44)])) := rfl
theorem wl_17 : (WD ε ad v f u g)[17]? = some (ad 17, .inl (ε.2.2.1, 8, .inl (f 17))) := rfl
theorem wl_18 : (WD ε ad v f u g)[18]? = some (ad 18, .inr (4, [.ref (ad 19), .int (v 45), .int (v 46), .int (v 47), .int (v 48)])) := rfl
theorem wl_19 : (WD ε ad v f u g)[19]? = some (ad 19, .inl (ε.2.2.1, 8, .inl (f 19))) := rfl
theorem wl_20 : (WD ε ad v f u g)[20]? = some (ad 20, .inr (4, [.ref (ad 21), .int (v 49), .int (v 50), .int (v 51), .int (v 52)])) := rfl
theorem wl_21 : (WD ε ad v f u g)[21]? = some (ad 21, .inl (ε.2.2.1, 8, .inl (f 21))) := rfl
theorem wl_22 : (WD ε ad v f u g)[22]? = some (ad 22, .inr (9, [.ref (ad 23), .ref (ad 24), .int (u 0), .int (u 1), .int (u 2), .ref (ad 25), .ref (ad 26), .ref (ad 27), .ref (ad 28), .ref (ad 29), .ref (ad 30), .ref (ad 31), .int (u 3), .ref (ad 32), .ref (ad 33), .int (u 4), .int (u 5), .ref (ad 34), .ref (ad 35), .int (u 6), .int (u 7), .int (u 8), .ref (ad 36), .ref (ad 37), .int (u 9), .int (u 10), .int (u 11), .ref (ad 38), .ref (ad 39), .ref (ad 40), .ref (ad 41), .ref (ad 42)])) := rfl
theorem wl_23 : (WD ε ad v f u g)[23]? = some (ad 23, .inl (ε.2.1, 4096, .inl (g 23))) := rfl
theorem wl_24 : (WD ε ad v f u g)[24]? = some (ad 24, .inl (ε.2.1, 2048, .inl (g 24))) := rfl
theorem wl_25 : (WD ε ad v f u g)[25]? = some (ad 25, .inl (ε.2.2.1, 3, .inl (g 25))) := rfl
theorem wl_26 : (WD ε ad v f u g)[26]? = some (ad 26, .inl (ε.2.2.1, 3, .inl (g 26))) := rfl
theorem wl_27 : (WD ε ad v f u g)[27]? = some (ad 27, .inl (ε.2.2.1, 3, .inl (g 27))) := rfl
theorem wl_28 : (WD ε ad v f u g)[28]? = some (ad 28, .inl (ε.2.2.1, 3, .inl (g 28))) := rfl
theorem wl_29 : (WD ε ad v f u g)[29]? = some (ad 29, .inl (ε.2.2.1, 3, .inl (g 29))) := rfl
theorem wl_30 : (WD ε ad v f u g)[30]? = some (ad 30, .inl (ε.2.2.1, 3, .inl (g 30))) := rfl
theorem wl_31 : (WD ε ad v f u g)[31]? = some (ad 31, .inl (ε.2.2.1, 3, .inl (g 31))) := rfl
theorem wl_32 : (WD ε ad v f u g)[32]? = some (ad 32, .inl (ε.2.2.1, 20, .inl (g 32))) := rfl
theorem wl_33 : (WD ε ad v f u g)[33]? = some (ad 33, .inl (ε.2.2.1, 20, .inl (g 33))) := rfl
theorem wl_34 : (WD ε ad v f u g)[34]? = some (ad 34, .inl (ε.2.2.1, 20, .inl (g 34))) := rfl
theorem wl_35 : (WD ε ad v f u g)[35]? = some (ad 35, .inl (ε.2.2.1, 20, .inl (g 35))) := rfl
theorem wl_36 : (WD ε ad v f u g)[36]? = some (ad 36, .inl (ε.2.1, 1280, .inl (g 36))) := rfl
theorem wl_37 : (WD ε ad v f u g)[37]? = some (ad 37, .inl (ε.2.2.1, 16, .inl (g 37))) := rfl
theorem wl_38 : (WD ε ad v f u g)[38]? = some (ad 38, .inl (ε.2.2.2.1, 24, .inl (g 38))) := rfl
theorem wl_39 : (WD ε ad v f u g)[39]? = some (ad 39, .inl (ε.2.2.1, 24, .inl (g 39))) := rfl
theorem wl_40 : (WD ε ad v f u g)[40]? = some (ad 40, .inl (ε.2.2.1, 3, .inl (g 40))) := rfl
theorem wl_41 : (WD ε ad v f u g)[41]? = some (ad 41, .inl (ε.2.2.1, 3, .inl (g 41))) := rfl
theorem wl_42 : (WD ε ad v f u g)[42]? = some (ad 42, .inl (ε.2.2.1, 3, .inl (g 42))) := rfl
theorem g_0_memory (C : CX κ ε own cc nL ret fr lo mc ms) {ix : Nat} (hd : decode cc pc = .ok (.getfield ix, 3)) (hw : Cond.fieldLink own ix "RingDevices" "memory" "LRingDevices$Memory;" ∈ TB) (h : JW κ k n (WD ε ad v f u g) (pc + 3) lv (.ref (ad 1) :: st)) : JW κ k n (WD ε ad v f u g) pc lv (.ref (ad 0) :: st) := j_get C hd 0 wl_0 inX8 rfl 0 (by decide) hw rfl rfl h
theorem g_0_device (C : CX κ ε own cc nL ret fr lo mc ms) {ix : Nat} (hd : decode cc pc = .ok (.getfield ix, 3)) (hw : Cond.fieldLink own ix "RingDevices" "device" "LRingDevices$Device;" ∈ TB) (h : JW κ k n (WD ε ad v f u g) (pc + 3) lv (.ref (ad 3) :: st)) : JW κ k n (WD ε ad v f u g) pc lv (.ref (ad 0) :: st) := j_get C hd 0 wl_0 inX8 rfl 1 (by decide) hw rfl rfl h
theorem g_0_driver (C : CX κ ε own cc nL ret fr lo mc ms) {ix : Nat} (hd : decode cc pc = .ok (.getfield ix, 3)) (hw : Cond.fieldLink own ix "RingDevices" "driver" "LRingDevices$Driver;" ∈ TB) (h : JW κ k n (WD ε ad v f u g) (pc + 3) lv (.ref (ad 15) :: st)) : JW κ k n (WD ε ad v f u g) pc lv (.ref (ad 0) :: st) := j_get C hd 0 wl_0 inX8 rfl 2 (by decide) hw rfl rfl h
theorem g_1_bytes (C : CX κ ε own cc nL ret fr lo mc ms) {ix : Nat} (hd : decode cc pc = .ok (.getfield ix, 3)) (hw : Cond.fieldLink own ix "RingDevices$Memory" "bytes" "[B" ∈ TB) (h : JW κ k n (WD ε ad v f u g) (pc + 3) lv (.ref (ad 2) :: st)) : JW κ k n (WD ε ad v f u g) pc lv (.ref (ad 1) :: st) := j_get C hd 1 wl_1 inX5 rfl 0 (by decide) hw rfl rfl h
theorem al_2 (C : CX κ ε own cc nL ret fr lo mc ms) {i : Int32} {F : Nat → Int32} (hd : decode cc pc = .ok (.baload, 1)) (hin : vp_in i 4096) (hF : f 2 = F) (h : JW κ k n (WD ε ad v f u g) (pc + 1) lv (.int (F i.toNatClampNeg) :: st)) : JW κ k n (WD ε ad v f u g) pc lv (.int i :: .ref (ad 2) :: st) := by
  subst hF
  exact j_bald C hd 2 wl_2 hin h
theorem wt_2 {F : Nat → Int32} : (WD ε ad v f u g).set 2 (ad 2, .inl (ε.2.1, 4096, .inl F)) = WD ε ad v (va_up f 2 F) u g := rfl
theorem as_2 (C : CX κ ε own cc nL ret fr lo mc ms) {i x : Int32} {F F2 : Nat → Int32} (hd : decode cc pc = .ok (.bastore, 1)) (hin : vp_in i 4096) (hF : f 2 = F2) (hF2 : upd F2 i.toNatClampNeg (vp_nar .byte x) = F) (h : JW κ k n (WD ε ad v (va_up f 2 F) u g) (pc + 1) lv st) : JW κ k n (WD ε ad v f u g) pc lv (.int x :: .int i :: .ref (ad 2) :: st) := by
  subst hF; subst hF2
  exact j_bast C hd 2 wl_2 hin wt_2 h
theorem an_2 (C : CX κ ε own cc nL ret fr lo mc ms) (hd : decode cc pc = .ok (.arraylength, 1)) (h : JW κ k n (WD ε ad v f u g) (pc + 1) lv (.int 4096 :: st)) : JW κ k n (WD ε ad v f u g) pc lv (.ref (ad 2) :: st) := j_alen C hd 2 0 wl_2 rfl rfl h
theorem g_3_disks (C : CX κ ε own cc nL ret fr lo mc ms) {ix : Nat} (hd : decode cc pc = .ok (.getfield ix, 3)) (hw : Cond.fieldLink own ix "RingDevices$Device" "disks" "LRingDevices$Ring;" ∈ TB) (h : JW κ k n (WD ε ad v f u g) (pc + 3) lv (.ref (ad 4) :: st)) : JW κ k n (WD ε ad v f u g) pc lv (.ref (ad 3) :: st) := j_get C hd 3 wl_3 inX1 rfl 0 (by decide) hw rfl rfl h
theorem g_3_comes (C : CX κ ε own cc nL ret fr lo mc ms) {ix : Nat} (hd : decode cc pc = .ok (.getfield ix, 3)) (hw : Cond.fieldLink own ix "RingDevices$Device" "comes" "LRingDevices$Ring;" ∈ TB) (h : JW κ k n (WD ε ad v f u g) (pc + 3) lv (.ref (ad 5) :: st)) : JW κ k n (WD ε ad v f u g) pc lv (.ref (ad 3) :: st) := j_get C hd 3 wl_3 inX1 rfl 1 (by decide) hw rfl rfl h
theorem g_3_goes (C : CX κ ε own cc nL ret fr lo mc ms) {ix : Nat} (hd : decode cc pc = .ok (.getfield ix, 3)) (hw : Cond.fieldLink own ix "RingDevices$Device" "goes" "LRingDevices$Ring;" ∈ TB) (h : JW κ k n (WD ε ad v f u g) (pc + 3) lv (.ref (ad 6) :: st)) : JW κ k n (WD ε ad v f u g) pc lv (.ref (ad 3) :: st) := j_get C hd 3 wl_3 inX1 rfl 2 (by decide) hw rfl rfl h
theorem g_3_chain (C : CX κ ε own cc nL ret fr lo mc ms) {ix : Nat} (hd : decode cc pc = .ok (.getfield ix, 3)) (hw : Cond.fieldLink own ix "RingDevices$Device" "chain" "LRingDevices$Chain;" ∈ TB) (h : JW κ k n (WD ε ad v f u g) (pc + 3) lv (.ref (ad 7) :: st)) : JW κ k n (WD ε ad v f u g) pc lv (.ref (ad 3) :: st) := j_get C hd 3 wl_3 inX1 rfl 3 (by decide) hw rfl rfl h
theorem g_3_sectors (C : CX κ ε own cc nL ret fr lo mc ms) {ix : Nat} (hd : decode cc pc = .ok (.getfield ix, 3)) (hw : Cond.fieldLink own ix "RingDevices$Device" "sectors" "LRingDevices$Disk;" ∈ TB) (h : JW κ k n (WD ε ad v f u g) (pc + 3) lv (.ref (ad 10) :: st)) : JW κ k n (WD ε ad v f u g) pc lv (.ref (ad 3) :: st) := j_get C hd 3 wl_3 inX1 rfl 4 (by decide) hw rfl rfl h
theorem g_3_line (C : CX κ ε own cc nL ret fr lo mc ms) {ix : Nat} (hd : decode cc pc = .ok (.getfield ix, 3)) (hw : Cond.fieldLink own ix "RingDevices$Device" "line" "LRingDevices$Wire;" ∈ TB) (h : JW κ k n (WD ε ad v f u g) (pc + 3) lv (.ref (ad 12) :: st)) : JW κ k n (WD ε ad v f u g) pc lv (.ref (ad 3) :: st) := j_get C hd 3 wl_3 inX1 rfl 5 (by decide) hw rfl rfl h
theorem g_3_state (C : CX κ ε own cc nL ret fr lo mc ms) {ix : Nat} {x : Int32} (hd : decode cc pc = .ok (.getfield ix, 3)) (hw : Cond.fieldLink own ix "RingDevices$Device" "state" "I" ∈ TB) (hv : v 0 = x) (h : JW κ k n (WD ε ad v f u g) (pc + 3) lv (.int x :: st)) : JW κ k n (WD ε ad v f u g) pc lv (.ref (ad 3) :: st) := by
  subst hv
  exact j_get C hd 3 wl_3 inX1 rfl 6 (by decide) hw rfl rfl h
theorem ws_3_state {x : Int32} : (WD ε ad v f u g).set 3 (ad 3, .inr (1, [.ref (ad 4), .ref (ad 5), .ref (ad 6), .ref (ad 7), .ref (ad 10), .ref (ad 12), .int (v 0), .int (v 1), .int (v 2), .int (v 3)].set 6 (.int x))) = WD ε ad (upd v 0 x) f u g := rfl
theorem p_3_state (C : CX κ ε own cc nL ret fr lo mc ms) {ix : Nat} {x : Int32} (hd : decode cc pc = .ok (.putfield ix, 3)) (hw : Cond.fieldLink own ix "RingDevices$Device" "state" "I" ∈ TB) (h : JW κ k n (WD ε ad (upd v 0 x) f u g) (pc + 3) lv st) : JW κ k n (WD ε ad v f u g) pc lv (.int x :: .ref (ad 3) :: st) := j_put C hd 3 wl_3 inX1 tyX1 tyX1_ok nmX1 rfl 6 (by decide) hw rfl rfl rfl rfl (Nat.le_of_ble_eq_true rfl) ws_3_state h
theorem g_3_tables (C : CX κ ε own cc nL ret fr lo mc ms) {ix : Nat} {x : Int32} (hd : decode cc pc = .ok (.getfield ix, 3)) (hw : Cond.fieldLink own ix "RingDevices$Device" "tables" "Z" ∈ TB) (hv : v 1 = x) (h : JW κ k n (WD ε ad v f u g) (pc + 3) lv (.int x :: st)) : JW κ k n (WD ε ad v f u g) pc lv (.ref (ad 3) :: st) := by
  subst hv
  exact j_get C hd 3 wl_3 inX1 rfl 7 (by decide) hw rfl rfl h
theorem ws_3_tables {x : Int32} : (WD ε ad v f u g).set 3 (ad 3, .inr (1, [.ref (ad 4), .ref (ad 5), .ref (ad 6), .ref (ad 7), .ref (ad 10), .ref (ad 12), .int (v 0), .int (v 1), .int (v 2), .int (v 3)].set 7 (.int x))) = WD ε ad (upd v 1 x) f u g := rfl
theorem p_3_tables (C : CX κ ε own cc nL ret fr lo mc ms) {ix : Nat} {x : Int32} (hd : decode cc pc = .ok (.putfield ix, 3)) (hw : Cond.fieldLink own ix "RingDevices$Device" "tables" "Z" ∈ TB) (hb : x = 0 ∨ x = 1) (h : JW κ k n (WD ε ad (upd v 1 x) f u g) (pc + 3) lv st) : JW κ k n (WD ε ad v f u g) pc lv (.int x :: .ref (ad 3) :: st) := j_put C hd 3 wl_3 inX1 tyX1 tyX1_ok nmX1 rfl 7 (by decide) hw rfl rfl (nb_b hb).1 (nb_b hb).2 (Nat.le_of_ble_eq_true rfl) ws_3_tables h
theorem g_3_came (C : CX κ ε own cc nL ret fr lo mc ms) {ix : Nat} {x : Int32} (hd : decode cc pc = .ok (.getfield ix, 3)) (hw : Cond.fieldLink own ix "RingDevices$Device" "came" "I" ∈ TB) (hv : v 2 = x) (h : JW κ k n (WD ε ad v f u g) (pc + 3) lv (.int x :: st)) : JW κ k n (WD ε ad v f u g) pc lv (.ref (ad 3) :: st) := by
  subst hv
  exact j_get C hd 3 wl_3 inX1 rfl 8 (by decide) hw rfl rfl h
theorem ws_3_came {x : Int32} : (WD ε ad v f u g).set 3 (ad 3, .inr (1, [.ref (ad 4), .ref (ad 5), .ref (ad 6), .ref (ad 7), .ref (ad 10), .ref (ad 12), .int (v 0), .int (v 1), .int (v 2), .int (v 3)].set 8 (.int x))) = WD ε ad (upd v 2 x) f u g := rfl
theorem p_3_came (C : CX κ ε own cc nL ret fr lo mc ms) {ix : Nat} {x : Int32} (hd : decode cc pc = .ok (.putfield ix, 3)) (hw : Cond.fieldLink own ix "RingDevices$Device" "came" "I" ∈ TB) (h : JW κ k n (WD ε ad (upd v 2 x) f u g) (pc + 3) lv st) : JW κ k n (WD ε ad v f u g) pc lv (.int x :: .ref (ad 3) :: st) := j_put C hd 3 wl_3 inX1 tyX1 tyX1_ok nmX1 rfl 8 (by decide) hw rfl rfl rfl rfl (Nat.le_of_ble_eq_true rfl) ws_3_came h
theorem g_3_dropped (C : CX κ ε own cc nL ret fr lo mc ms) {ix : Nat} {x : Int32} (hd : decode cc pc = .ok (.getfield ix, 3)) (hw : Cond.fieldLink own ix "RingDevices$Device" "dropped" "I" ∈ TB) (hv : v 3 = x) (h : JW κ k n (WD ε ad v f u g) (pc + 3) lv (.int x :: st)) : JW κ k n (WD ε ad v f u g) pc lv (.ref (ad 3) :: st) := by
  subst hv
  exact j_get C hd 3 wl_3 inX1 rfl 9 (by decide) hw rfl rfl h
theorem ws_3_dropped {x : Int32} : (WD ε ad v f u g).set 3 (ad 3, .inr (1, [.ref (ad 4), .ref (ad 5), .ref (ad 6), .ref (ad 7), .ref (ad 10), .ref (ad 12), .int (v 0), .int (v 1), .int (v 2), .int (v 3)].set 9 (.int x))) = WD ε ad (upd v 3 x) f u g := rfl
theorem p_3_dropped (C : CX κ ε own cc nL ret fr lo mc ms) {ix : Nat} {x : Int32} (hd : decode cc pc = .ok (.putfield ix, 3)) (hw : Cond.fieldLink own ix "RingDevices$Device" "dropped" "I" ∈ TB) (h : JW κ k n (WD ε ad (upd v 3 x) f u g) (pc + 3) lv st) : JW κ k n (WD ε ad v f u g) pc lv (.int x :: .ref (ad 3) :: st) := j_put C hd 3 wl_3 inX1 tyX1 tyX1_ok nmX1 rfl 9 (by decide) hw rfl rfl rfl rfl (Nat.le_of_ble_eq_true rfl) ws_3_dropped h
theorem g_4_memory (C : CX κ ε own cc nL ret fr lo mc ms) {ix : Nat} (hd : decode cc pc = .ok (.getfield ix, 3)) (hw : Cond.fieldLink own ix "RingDevices$Ring" "memory" "LRingDevices$Memory;" ∈ TB) (h : JW κ k n (WD ε ad v f u g) (pc + 3) lv (.ref (ad 1) :: st)) : JW κ k n (WD ε ad v f u g) pc lv (.ref (ad 4) :: st) := j_get C hd 4 wl_4 inX6 rfl 0 (by decide) hw rfl rfl h
theorem g_4_laid (C : CX κ ε own cc nL ret fr lo mc ms) {ix : Nat} {x : Int32} (hd : decode cc pc = .ok (.getfield ix, 3)) (hw : Cond.fieldLink own ix "RingDevices$Ring" "laid" "Z" ∈ TB) (hv : v 4 = x) (h : JW κ k n (WD ε ad v f u g) (pc + 3) lv (.int x :: st)) : JW κ k n (WD ε ad v f u g) pc lv (.ref (ad 4) :: st) := by
  subst hv
  exact j_get C hd 4 wl_4 inX6 rfl 1 (by decide) hw rfl rfl h
theorem ws_4_laid {x : Int32} : (WD ε ad v f u g).set 4 (ad 4, .inr (6, [.ref (ad 1), .int (v 4), .int (v 5), .int (v 6), .int (v 7), .int (v 8), .int (v 9), .int (v 10), .int (v 11)].set 1 (.int x))) = WD ε ad (upd v 4 x) f u g := rfl
theorem p_4_laid (C : CX κ ε own cc nL ret fr lo mc ms) {ix : Nat} {x : Int32} (hd : decode cc pc = .ok (.putfield ix, 3)) (hw : Cond.fieldLink own ix "RingDevices$Ring" "laid" "Z" ∈ TB) (hb : x = 0 ∨ x = 1) (h : JW κ k n (WD ε ad (upd v 4 x) f u g) (pc + 3) lv st) : JW κ k n (WD ε ad v f u g) pc lv (.int x :: .ref (ad 4) :: st) := j_put C hd 4 wl_4 inX6 tyX6 tyX6_ok nmX6 rfl 1 (by decide) hw rfl rfl (nb_b hb).1 (nb_b hb).2 (Nat.le_of_ble_eq_true rfl) ws_4_laid h
theorem g_4_size (C : CX κ ε own cc nL ret fr lo mc ms) {ix : Nat} {x : Int32} (hd : decode cc pc = .ok (.getfield ix, 3)) (hw : Cond.fieldLink own ix "RingDevices$Ring" "size" "I" ∈ TB) (hv : v 5 = x) (h : JW κ k n (WD ε ad v f u g) (pc + 3) lv (.int x :: st)) : JW κ k n (WD ε ad v f u g) pc lv (.ref (ad 4) :: st) := by
  subst hv
  exact j_get C hd 4 wl_4 inX6 rfl 2 (by decide) hw rfl rfl h
theorem ws_4_size {x : Int32} : (WD ε ad v f u g).set 4 (ad 4, .inr (6, [.ref (ad 1), .int (v 4), .int (v 5), .int (v 6), .int (v 7), .int (v 8), .int (v 9), .int (v 10), .int (v 11)].set 2 (.int x))) = WD ε ad (upd v 5 x) f u g := rfl
theorem p_4_size (C : CX κ ε own cc nL ret fr lo mc ms) {ix : Nat} {x : Int32} (hd : decode cc pc = .ok (.putfield ix, 3)) (hw : Cond.fieldLink own ix "RingDevices$Ring" "size" "I" ∈ TB) (h : JW κ k n (WD ε ad (upd v 5 x) f u g) (pc + 3) lv st) : JW κ k n (WD ε ad v f u g) pc lv (.int x :: .ref (ad 4) :: st) := j_put C hd 4 wl_4 inX6 tyX6 tyX6_ok nmX6 rfl 2 (by decide) hw rfl rfl rfl rfl (Nat.le_of_ble_eq_true rfl) ws_4_size h
theorem g_4_descriptors (C : CX κ ε own cc nL ret fr lo mc ms) {ix : Nat} {x : Int32} (hd : decode cc pc = .ok (.getfield ix, 3)) (hw : Cond.fieldLink own ix "RingDevices$Ring" "descriptors" "I" ∈ TB) (hv : v 6 = x) (h : JW κ k n (WD ε ad v f u g) (pc + 3) lv (.int x :: st)) : JW κ k n (WD ε ad v f u g) pc lv (.ref (ad 4) :: st) := by
  subst hv
  exact j_get C hd 4 wl_4 inX6 rfl 3 (by decide) hw rfl rfl h
theorem ws_4_descriptors {x : Int32} : (WD ε ad v f u g).set 4 (ad 4, .inr (6, [.ref (ad 1), .int (v 4), .int (v 5), .int (v 6), .int (v 7), .int (v 8), .int (v 9), .int (v 10), .int (v 11)].set 3 (.int x))) = WD ε ad (upd v 6 x) f u g := rfl
theorem p_4_descriptors (C : CX κ ε own cc nL ret fr lo mc ms) {ix : Nat} {x : Int32} (hd : decode cc pc = .ok (.putfield ix, 3)) (hw : Cond.fieldLink own ix "RingDevices$Ring" "descriptors" "I" ∈ TB) (h : JW κ k n (WD ε ad (upd v 6 x) f u g) (pc + 3) lv st) : JW κ k n (WD ε ad v f u g) pc lv (.int x :: .ref (ad 4) :: st) := j_put C hd 4 wl_4 inX6 tyX6 tyX6_ok nmX6 rfl 3 (by decide) hw rfl rfl rfl rfl (Nat.le_of_ble_eq_true rfl) ws_4_descriptors h
theorem g_4_available (C : CX κ ε own cc nL ret fr lo mc ms) {ix : Nat} {x : Int32} (hd : decode cc pc = .ok (.getfield ix, 3)) (hw : Cond.fieldLink own ix "RingDevices$Ring" "available" "I" ∈ TB) (hv : v 7 = x) (h : JW κ k n (WD ε ad v f u g) (pc + 3) lv (.int x :: st)) : JW κ k n (WD ε ad v f u g) pc lv (.ref (ad 4) :: st) := by
  subst hv
  exact j_get C hd 4 wl_4 inX6 rfl 4 (by decide) hw rfl rfl h
theorem ws_4_available {x : Int32} : (WD ε ad v f u g).set 4 (ad 4, .inr (6, [.ref (ad 1), .int (v 4), .int (v 5), .int (v 6), .int (v 7), .int (v 8), .int (v 9), .int (v 10), .int (v 11)].set 4 (.int x))) = WD ε ad (upd v 7 x) f u g := rfl
theorem p_4_available (C : CX κ ε own cc nL ret fr lo mc ms) {ix : Nat} {x : Int32} (hd : decode cc pc = .ok (.putfield ix, 3)) (hw : Cond.fieldLink own ix "RingDevices$Ring" "available" "I" ∈ TB) (h : JW κ k n (WD ε ad (upd v 7 x) f u g) (pc + 3) lv st) : JW κ k n (WD ε ad v f u g) pc lv (.int x :: .ref (ad 4) :: st) := j_put C hd 4 wl_4 inX6 tyX6 tyX6_ok nmX6 rfl 4 (by decide) hw rfl rfl rfl rfl (Nat.le_of_ble_eq_true rfl) ws_4_available h
theorem g_4_used (C : CX κ ε own cc nL ret fr lo mc ms) {ix : Nat} {x : Int32} (hd : decode cc pc = .ok (.getfield ix, 3)) (hw : Cond.fieldLink own ix "RingDevices$Ring" "used" "I" ∈ TB) (hv : v 8 = x) (h : JW κ k n (WD ε ad v f u g) (pc + 3) lv (.int x :: st)) : JW κ k n (WD ε ad v f u g) pc lv (.ref (ad 4) :: st) := by
  subst hv
  exact j_get C hd 4 wl_4 inX6 rfl 5 (by decide) hw rfl rfl h
theorem ws_4_used {x : Int32} : (WD ε ad v f u g).set 4 (ad 4, .inr (6, [.ref (ad 1), .int (v 4), .int (v 5), .int (v 6), .int (v 7), .int (v 8), .int (v 9), .int (v 10), .int (v 11)].set 5 (.int x))) = WD ε ad (upd v 8 x) f u g := rfl
theorem p_4_used (C : CX κ ε own cc nL ret fr lo mc ms) {ix : Nat} {x : Int32} (hd : decode cc pc = .ok (.putfield ix, 3)) (hw : Cond.fieldLink own ix "RingDevices$Ring" "used" "I" ∈ TB) (h : JW κ k n (WD ε ad (upd v 8 x) f u g) (pc + 3) lv st) : JW κ k n (WD ε ad v f u g) pc lv (.int x :: .ref (ad 4) :: st) := j_put C hd 4 wl_4 inX6 tyX6 tyX6_ok nmX6 rfl 5 (by decide) hw rfl rfl rfl rfl (Nat.le_of_ble_eq_true rfl) ws_4_used h
theorem g_4_taken (C : CX κ ε own cc nL ret fr lo mc ms) {ix : Nat} {x : Int32} (hd : decode cc pc = .ok (.getfield ix, 3)) (hw : Cond.fieldLink own ix "RingDevices$Ring" "taken" "I" ∈ TB) (hv : v 9 = x) (h : JW κ k n (WD ε ad v f u g) (pc + 3) lv (.int x :: st)) : JW κ k n (WD ε ad v f u g) pc lv (.ref (ad 4) :: st) := by
  subst hv
  exact j_get C hd 4 wl_4 inX6 rfl 6 (by decide) hw rfl rfl h
theorem ws_4_taken {x : Int32} : (WD ε ad v f u g).set 4 (ad 4, .inr (6, [.ref (ad 1), .int (v 4), .int (v 5), .int (v 6), .int (v 7), .int (v 8), .int (v 9), .int (v 10), .int (v 11)].set 6 (.int x))) = WD ε ad (upd v 9 x) f u g := rfl
theorem p_4_taken (C : CX κ ε own cc nL ret fr lo mc ms) {ix : Nat} {x : Int32} (hd : decode cc pc = .ok (.putfield ix, 3)) (hw : Cond.fieldLink own ix "RingDevices$Ring" "taken" "I" ∈ TB) (h : JW κ k n (WD ε ad (upd v 9 x) f u g) (pc + 3) lv st) : JW κ k n (WD ε ad v f u g) pc lv (.int x :: .ref (ad 4) :: st) := j_put C hd 4 wl_4 inX6 tyX6 tyX6_ok nmX6 rfl 6 (by decide) hw rfl rfl rfl rfl (Nat.le_of_ble_eq_true rfl) ws_4_taken h
theorem g_4_given (C : CX κ ε own cc nL ret fr lo mc ms) {ix : Nat} {x : Int32} (hd : decode cc pc = .ok (.getfield ix, 3)) (hw : Cond.fieldLink own ix "RingDevices$Ring" "given" "I" ∈ TB) (hv : v 10 = x) (h : JW κ k n (WD ε ad v f u g) (pc + 3) lv (.int x :: st)) : JW κ k n (WD ε ad v f u g) pc lv (.ref (ad 4) :: st) := by
  subst hv
  exact j_get C hd 4 wl_4 inX6 rfl 7 (by decide) hw rfl rfl h
theorem ws_4_given {x : Int32} : (WD ε ad v f u g).set 4 (ad 4, .inr (6, [.ref (ad 1), .int (v 4), .int (v 5), .int (v 6), .int (v 7), .int (v 8), .int (v 9), .int (v 10), .int (v 11)].set 7 (.int x))) = WD ε ad (upd v 10 x) f u g := rfl
theorem p_4_given (C : CX κ ε own cc nL ret fr lo mc ms) {ix : Nat} {x : Int32} (hd : decode cc pc = .ok (.putfield ix, 3)) (hw : Cond.fieldLink own ix "RingDevices$Ring" "given" "I" ∈ TB) (h : JW κ k n (WD ε ad (upd v 10 x) f u g) (pc + 3) lv st) : JW κ k n (WD ε ad v f u g) pc lv (.int x :: .ref (ad 4) :: st) := j_put C hd 4 wl_4 inX6 tyX6 tyX6_ok nmX6 rfl 7 (by decide) hw rfl rfl rfl rfl (Nat.le_of_ble_eq_true rfl) ws_4_given h
theorem g_4_signals (C : CX κ ε own cc nL ret fr lo mc ms) {ix : Nat} {x : Int32} (hd : decode cc pc = .ok (.getfield ix, 3)) (hw : Cond.fieldLink own ix "RingDevices$Ring" "signals" "I" ∈ TB) (hv : v 11 = x) (h : JW κ k n (WD ε ad v f u g) (pc + 3) lv (.int x :: st)) : JW κ k n (WD ε ad v f u g) pc lv (.ref (ad 4) :: st) := by
  subst hv
  exact j_get C hd 4 wl_4 inX6 rfl 8 (by decide) hw rfl rfl h
theorem ws_4_signals {x : Int32} : (WD ε ad v f u g).set 4 (ad 4, .inr (6, [.ref (ad 1), .int (v 4), .int (v 5), .int (v 6), .int (v 7), .int (v 8), .int (v 9), .int (v 10), .int (v 11)].set 8 (.int x))) = WD ε ad (upd v 11 x) f u g := rfl
theorem p_4_signals (C : CX κ ε own cc nL ret fr lo mc ms) {ix : Nat} {x : Int32} (hd : decode cc pc = .ok (.putfield ix, 3)) (hw : Cond.fieldLink own ix "RingDevices$Ring" "signals" "I" ∈ TB) (h : JW κ k n (WD ε ad (upd v 11 x) f u g) (pc + 3) lv st) : JW κ k n (WD ε ad v f u g) pc lv (.int x :: .ref (ad 4) :: st) := j_put C hd 4 wl_4 inX6 tyX6 tyX6_ok nmX6 rfl 8 (by decide) hw rfl rfl rfl rfl (Nat.le_of_ble_eq_true rfl) ws_4_signals h
theorem g_5_memory (C : CX κ ε own cc nL ret fr lo mc ms) {ix : Nat} (hd : decode cc pc = .ok (.getfield ix, 3)) (hw : Cond.fieldLink own ix "RingDevices$Ring" "memory" "LRingDevices$Memory;" ∈ TB) (h : JW κ k n (WD ε ad v f u g) (pc + 3) lv (.ref (ad 1) :: st)) : JW κ k n (WD ε ad v f u g) pc lv (.ref (ad 5) :: st) := j_get C hd 5 wl_5 inX6 rfl 0 (by decide) hw rfl rfl h
theorem g_5_laid (C : CX κ ε own cc nL ret fr lo mc ms) {ix : Nat} {x : Int32} (hd : decode cc pc = .ok (.getfield ix, 3)) (hw : Cond.fieldLink own ix "RingDevices$Ring" "laid" "Z" ∈ TB) (hv : v 12 = x) (h : JW κ k n (WD ε ad v f u g) (pc + 3) lv (.int x :: st)) : JW κ k n (WD ε ad v f u g) pc lv (.ref (ad 5) :: st) := by
  subst hv
  exact j_get C hd 5 wl_5 inX6 rfl 1 (by decide) hw rfl rfl h
theorem ws_5_laid {x : Int32} : (WD ε ad v f u g).set 5 (ad 5, .inr (6, [.ref (ad 1), .int (v 12), .int (v 13), .int (v 14), .int (v 15), .int (v 16), .int (v 17), .int (v 18), .int (v 19)].set 1 (.int x))) = WD ε ad (upd v 12 x) f u g := rfl
theorem p_5_laid (C : CX κ ε own cc nL ret fr lo mc ms) {ix : Nat} {x : Int32} (hd : decode cc pc = .ok (.putfield ix, 3)) (hw : Cond.fieldLink own ix "RingDevices$Ring" "laid" "Z" ∈ TB) (hb : x = 0 ∨ x = 1) (h : JW κ k n (WD ε ad (upd v 12 x) f u g) (pc + 3) lv st) : JW κ k n (WD ε ad v f u g) pc lv (.int x :: .ref (ad 5) :: st) := j_put C hd 5 wl_5 inX6 tyX6 tyX6_ok nmX6 rfl 1 (by decide) hw rfl rfl (nb_b hb).1 (nb_b hb).2 (Nat.le_of_ble_eq_true rfl) ws_5_laid h
theorem g_5_size (C : CX κ ε own cc nL ret fr lo mc ms) {ix : Nat} {x : Int32} (hd : decode cc pc = .ok (.getfield ix, 3)) (hw : Cond.fieldLink own ix "RingDevices$Ring" "size" "I" ∈ TB) (hv : v 13 = x) (h : JW κ k n (WD ε ad v f u g) (pc + 3) lv (.int x :: st)) : JW κ k n (WD ε ad v f u g) pc lv (.ref (ad 5) :: st) := by
  subst hv
  exact j_get C hd 5 wl_5 inX6 rfl 2 (by decide) hw rfl rfl h
theorem ws_5_size {x : Int32} : (WD ε ad v f u g).set 5 (ad 5, .inr (6, [.ref (ad 1), .int (v 12), .int (v 13), .int (v 14), .int (v 15), .int (v 16), .int (v 17), .int (v 18), .int (v 19)].set 2 (.int x))) = WD ε ad (upd v 13 x) f u g := rfl
theorem p_5_size (C : CX κ ε own cc nL ret fr lo mc ms) {ix : Nat} {x : Int32} (hd : decode cc pc = .ok (.putfield ix, 3)) (hw : Cond.fieldLink own ix "RingDevices$Ring" "size" "I" ∈ TB) (h : JW κ k n (WD ε ad (upd v 13 x) f u g) (pc + 3) lv st) : JW κ k n (WD ε ad v f u g) pc lv (.int x :: .ref (ad 5) :: st) := j_put C hd 5 wl_5 inX6 tyX6 tyX6_ok nmX6 rfl 2 (by decide) hw rfl rfl rfl rfl (Nat.le_of_ble_eq_true rfl) ws_5_size h
theorem g_5_descriptors (C : CX κ ε own cc nL ret fr lo mc ms) {ix : Nat} {x : Int32} (hd : decode cc pc = .ok (.getfield ix, 3)) (hw : Cond.fieldLink own ix "RingDevices$Ring" "descriptors" "I" ∈ TB) (hv : v 14 = x) (h : JW κ k n (WD ε ad v f u g) (pc + 3) lv (.int x :: st)) : JW κ k n (WD ε ad v f u g) pc lv (.ref (ad 5) :: st) := by
  subst hv
  exact j_get C hd 5 wl_5 inX6 rfl 3 (by decide) hw rfl rfl h
theorem ws_5_descriptors {x : Int32} : (WD ε ad v f u g).set 5 (ad 5, .inr (6, [.ref (ad 1), .int (v 12), .int (v 13), .int (v 14), .int (v 15), .int (v 16), .int (v 17), .int (v 18), .int (v 19)].set 3 (.int x))) = WD ε ad (upd v 14 x) f u g := rfl
theorem p_5_descriptors (C : CX κ ε own cc nL ret fr lo mc ms) {ix : Nat} {x : Int32} (hd : decode cc pc = .ok (.putfield ix, 3)) (hw : Cond.fieldLink own ix "RingDevices$Ring" "descriptors" "I" ∈ TB) (h : JW κ k n (WD ε ad (upd v 14 x) f u g) (pc + 3) lv st) : JW κ k n (WD ε ad v f u g) pc lv (.int x :: .ref (ad 5) :: st) := j_put C hd 5 wl_5 inX6 tyX6 tyX6_ok nmX6 rfl 3 (by decide) hw rfl rfl rfl rfl (Nat.le_of_ble_eq_true rfl) ws_5_descriptors h
theorem g_5_available (C : CX κ ε own cc nL ret fr lo mc ms) {ix : Nat} {x : Int32} (hd : decode cc pc = .ok (.getfield ix, 3)) (hw : Cond.fieldLink own ix "RingDevices$Ring" "available" "I" ∈ TB) (hv : v 15 = x) (h : JW κ k n (WD ε ad v f u g) (pc + 3) lv (.int x :: st)) : JW κ k n (WD ε ad v f u g) pc lv (.ref (ad 5) :: st) := by
  subst hv
  exact j_get C hd 5 wl_5 inX6 rfl 4 (by decide) hw rfl rfl h
theorem ws_5_available {x : Int32} : (WD ε ad v f u g).set 5 (ad 5, .inr (6, [.ref (ad 1), .int (v 12), .int (v 13), .int (v 14), .int (v 15), .int (v 16), .int (v 17), .int (v 18), .int (v 19)].set 4 (.int x))) = WD ε ad (upd v 15 x) f u g := rfl
theorem p_5_available (C : CX κ ε own cc nL ret fr lo mc ms) {ix : Nat} {x : Int32} (hd : decode cc pc = .ok (.putfield ix, 3)) (hw : Cond.fieldLink own ix "RingDevices$Ring" "available" "I" ∈ TB) (h : JW κ k n (WD ε ad (upd v 15 x) f u g) (pc + 3) lv st) : JW κ k n (WD ε ad v f u g) pc lv (.int x :: .ref (ad 5) :: st) := j_put C hd 5 wl_5 inX6 tyX6 tyX6_ok nmX6 rfl 4 (by decide) hw rfl rfl rfl rfl (Nat.le_of_ble_eq_true rfl) ws_5_available h
theorem g_5_used (C : CX κ ε own cc nL ret fr lo mc ms) {ix : Nat} {x : Int32} (hd : decode cc pc = .ok (.getfield ix, 3)) (hw : Cond.fieldLink own ix "RingDevices$Ring" "used" "I" ∈ TB) (hv : v 16 = x) (h : JW κ k n (WD ε ad v f u g) (pc + 3) lv (.int x :: st)) : JW κ k n (WD ε ad v f u g) pc lv (.ref (ad 5) :: st) := by
  subst hv
  exact j_get C hd 5 wl_5 inX6 rfl 5 (by decide) hw rfl rfl h
theorem ws_5_used {x : Int32} : (WD ε ad v f u g).set 5 (ad 5, .inr (6, [.ref (ad 1), .int (v 12), .int (v 13), .int (v 14), .int (v 15), .int (v 16), .int (v 17), .int (v 18), .int (v 19)].set 5 (.int x))) = WD ε ad (upd v 16 x) f u g := rfl
theorem p_5_used (C : CX κ ε own cc nL ret fr lo mc ms) {ix : Nat} {x : Int32} (hd : decode cc pc = .ok (.putfield ix, 3)) (hw : Cond.fieldLink own ix "RingDevices$Ring" "used" "I" ∈ TB) (h : JW κ k n (WD ε ad (upd v 16 x) f u g) (pc + 3) lv st) : JW κ k n (WD ε ad v f u g) pc lv (.int x :: .ref (ad 5) :: st) := j_put C hd 5 wl_5 inX6 tyX6 tyX6_ok nmX6 rfl 5 (by decide) hw rfl rfl rfl rfl (Nat.le_of_ble_eq_true rfl) ws_5_used h
theorem g_5_taken (C : CX κ ε own cc nL ret fr lo mc ms) {ix : Nat} {x : Int32} (hd : decode cc pc = .ok (.getfield ix, 3)) (hw : Cond.fieldLink own ix "RingDevices$Ring" "taken" "I" ∈ TB) (hv : v 17 = x) (h : JW κ k n (WD ε ad v f u g) (pc + 3) lv (.int x :: st)) : JW κ k n (WD ε ad v f u g) pc lv (.ref (ad 5) :: st) := by
  subst hv
  exact j_get C hd 5 wl_5 inX6 rfl 6 (by decide) hw rfl rfl h
theorem ws_5_taken {x : Int32} : (WD ε ad v f u g).set 5 (ad 5, .inr (6, [.ref (ad 1), .int (v 12), .int (v 13), .int (v 14), .int (v 15), .int (v 16), .int (v 17), .int (v 18), .int (v 19)].set 6 (.int x))) = WD ε ad (upd v 17 x) f u g := rfl
theorem p_5_taken (C : CX κ ε own cc nL ret fr lo mc ms) {ix : Nat} {x : Int32} (hd : decode cc pc = .ok (.putfield ix, 3)) (hw : Cond.fieldLink own ix "RingDevices$Ring" "taken" "I" ∈ TB) (h : JW κ k n (WD ε ad (upd v 17 x) f u g) (pc + 3) lv st) : JW κ k n (WD ε ad v f u g) pc lv (.int x :: .ref (ad 5) :: st) := j_put C hd 5 wl_5 inX6 tyX6 tyX6_ok nmX6 rfl 6 (by decide) hw rfl rfl rfl rfl (Nat.le_of_ble_eq_true rfl) ws_5_taken h
theorem g_5_given (C : CX κ ε own cc nL ret fr lo mc ms) {ix : Nat} {x : Int32} (hd : decode cc pc = .ok (.getfield ix, 3)) (hw : Cond.fieldLink own ix "RingDevices$Ring" "given" "I" ∈ TB) (hv : v 18 = x) (h : JW κ k n (WD ε ad v f u g) (pc + 3) lv (.int x :: st)) : JW κ k n (WD ε ad v f u g) pc lv (.ref (ad 5) :: st) := by
  subst hv
  exact j_get C hd 5 wl_5 inX6 rfl 7 (by decide) hw rfl rfl h
theorem ws_5_given {x : Int32} : (WD ε ad v f u g).set 5 (ad 5, .inr (6, [.ref (ad 1), .int (v 12), .int (v 13), .int (v 14), .int (v 15), .int (v 16), .int (v 17), .int (v 18), .int (v 19)].set 7 (.int x))) = WD ε ad (upd v 18 x) f u g := rfl
theorem p_5_given (C : CX κ ε own cc nL ret fr lo mc ms) {ix : Nat} {x : Int32} (hd : decode cc pc = .ok (.putfield ix, 3)) (hw : Cond.fieldLink own ix "RingDevices$Ring" "given" "I" ∈ TB) (h : JW κ k n (WD ε ad (upd v 18 x) f u g) (pc + 3) lv st) : JW κ k n (WD ε ad v f u g) pc lv (.int x :: .ref (ad 5) :: st) := j_put C hd 5 wl_5 inX6 tyX6 tyX6_ok nmX6 rfl 7 (by decide) hw rfl rfl rfl rfl (Nat.le_of_ble_eq_true rfl) ws_5_given h
theorem g_5_signals (C : CX κ ε own cc nL ret fr lo mc ms) {ix : Nat} {x : Int32} (hd : decode cc pc = .ok (.getfield ix, 3)) (hw : Cond.fieldLink own ix "RingDevices$Ring" "signals" "I" ∈ TB) (hv : v 19 = x) (h : JW κ k n (WD ε ad v f u g) (pc + 3) lv (.int x :: st)) : JW κ k n (WD ε ad v f u g) pc lv (.ref (ad 5) :: st) := by
  subst hv
  exact j_get C hd 5 wl_5 inX6 rfl 8 (by decide) hw rfl rfl h
theorem ws_5_signals {x : Int32} : (WD ε ad v f u g).set 5 (ad 5, .inr (6, [.ref (ad 1), .int (v 12), .int (v 13), .int (v 14), .int (v 15), .int (v 16), .int (v 17), .int (v 18), .int (v 19)].set 8 (.int x))) = WD ε ad (upd v 19 x) f u g := rfl
theorem p_5_signals (C : CX κ ε own cc nL ret fr lo mc ms) {ix : Nat} {x : Int32} (hd : decode cc pc = .ok (.putfield ix, 3)) (hw : Cond.fieldLink own ix "RingDevices$Ring" "signals" "I" ∈ TB) (h : JW κ k n (WD ε ad (upd v 19 x) f u g) (pc + 3) lv st) : JW κ k n (WD ε ad v f u g) pc lv (.int x :: .ref (ad 5) :: st) := j_put C hd 5 wl_5 inX6 tyX6 tyX6_ok nmX6 rfl 8 (by decide) hw rfl rfl rfl rfl (Nat.le_of_ble_eq_true rfl) ws_5_signals h
theorem g_6_memory (C : CX κ ε own cc nL ret fr lo mc ms) {ix : Nat} (hd : decode cc pc = .ok (.getfield ix, 3)) (hw : Cond.fieldLink own ix "RingDevices$Ring" "memory" "LRingDevices$Memory;" ∈ TB) (h : JW κ k n (WD ε ad v f u g) (pc + 3) lv (.ref (ad 1) :: st)) : JW κ k n (WD ε ad v f u g) pc lv (.ref (ad 6) :: st) := j_get C hd 6 wl_6 inX6 rfl 0 (by decide) hw rfl rfl h
theorem g_6_laid (C : CX κ ε own cc nL ret fr lo mc ms) {ix : Nat} {x : Int32} (hd : decode cc pc = .ok (.getfield ix, 3)) (hw : Cond.fieldLink own ix "RingDevices$Ring" "laid" "Z" ∈ TB) (hv : v 20 = x) (h : JW κ k n (WD ε ad v f u g) (pc + 3) lv (.int x :: st)) : JW κ k n (WD ε ad v f u g) pc lv (.ref (ad 6) :: st) := by
  subst hv
  exact j_get C hd 6 wl_6 inX6 rfl 1 (by decide) hw rfl rfl h
theorem ws_6_laid {x : Int32} : (WD ε ad v f u g).set 6 (ad 6, .inr (6, [.ref (ad 1), .int (v 20), .int (v 21), .int (v 22), .int (v 23), .int (v 24), .int (v 25), .int (v 26), .int (v 27)].set 1 (.int x))) = WD ε ad (upd v 20 x) f u g := rfl
theorem p_6_laid (C : CX κ ε own cc nL ret fr lo mc ms) {ix : Nat} {x : Int32} (hd : decode cc pc = .ok (.putfield ix, 3)) (hw : Cond.fieldLink own ix "RingDevices$Ring" "laid" "Z" ∈ TB) (hb : x = 0 ∨ x = 1) (h : JW κ k n (WD ε ad (upd v 20 x) f u g) (pc + 3) lv st) : JW κ k n (WD ε ad v f u g) pc lv (.int x :: .ref (ad 6) :: st) := j_put C hd 6 wl_6 inX6 tyX6 tyX6_ok nmX6 rfl 1 (by decide) hw rfl rfl (nb_b hb).1 (nb_b hb).2 (Nat.le_of_ble_eq_true rfl) ws_6_laid h
theorem g_6_size (C : CX κ ε own cc nL ret fr lo mc ms) {ix : Nat} {x : Int32} (hd : decode cc pc = .ok (.getfield ix, 3)) (hw : Cond.fieldLink own ix "RingDevices$Ring" "size" "I" ∈ TB) (hv : v 21 = x) (h : JW κ k n (WD ε ad v f u g) (pc + 3) lv (.int x :: st)) : JW κ k n (WD ε ad v f u g) pc lv (.ref (ad 6) :: st) := by
  subst hv
  exact j_get C hd 6 wl_6 inX6 rfl 2 (by decide) hw rfl rfl h
theorem ws_6_size {x : Int32} : (WD ε ad v f u g).set 6 (ad 6, .inr (6, [.ref (ad 1), .int (v 20), .int (v 21), .int (v 22), .int (v 23), .int (v 24), .int (v 25), .int (v 26), .int (v 27)].set 2 (.int x))) = WD ε ad (upd v 21 x) f u g := rfl
theorem p_6_size (C : CX κ ε own cc nL ret fr lo mc ms) {ix : Nat} {x : Int32} (hd : decode cc pc = .ok (.putfield ix, 3)) (hw : Cond.fieldLink own ix "RingDevices$Ring" "size" "I" ∈ TB) (h : JW κ k n (WD ε ad (upd v 21 x) f u g) (pc + 3) lv st) : JW κ k n (WD ε ad v f u g) pc lv (.int x :: .ref (ad 6) :: st) := j_put C hd 6 wl_6 inX6 tyX6 tyX6_ok nmX6 rfl 2 (by decide) hw rfl rfl rfl rfl (Nat.le_of_ble_eq_true rfl) ws_6_size h
theorem g_6_descriptors (C : CX κ ε own cc nL ret fr lo mc ms) {ix : Nat} {x : Int32} (hd : decode cc pc = .ok (.getfield ix, 3)) (hw : Cond.fieldLink own ix "RingDevices$Ring" "descriptors" "I" ∈ TB) (hv : v 22 = x) (h : JW κ k n (WD ε ad v f u g) (pc + 3) lv (.int x :: st)) : JW κ k n (WD ε ad v f u g) pc lv (.ref (ad 6) :: st) := by
  subst hv
  exact j_get C hd 6 wl_6 inX6 rfl 3 (by decide) hw rfl rfl h
theorem ws_6_descriptors {x : Int32} : (WD ε ad v f u g).set 6 (ad 6, .inr (6, [.ref (ad 1), .int (v 20), .int (v 21), .int (v 22), .int (v 23), .int (v 24), .int (v 25), .int (v 26), .int (v 27)].set 3 (.int x))) = WD ε ad (upd v 22 x) f u g := rfl
theorem p_6_descriptors (C : CX κ ε own cc nL ret fr lo mc ms) {ix : Nat} {x : Int32} (hd : decode cc pc = .ok (.putfield ix, 3)) (hw : Cond.fieldLink own ix "RingDevices$Ring" "descriptors" "I" ∈ TB) (h : JW κ k n (WD ε ad (upd v 22 x) f u g) (pc + 3) lv st) : JW κ k n (WD ε ad v f u g) pc lv (.int x :: .ref (ad 6) :: st) := j_put C hd 6 wl_6 inX6 tyX6 tyX6_ok nmX6 rfl 3 (by decide) hw rfl rfl rfl rfl (Nat.le_of_ble_eq_true rfl) ws_6_descriptors h
theorem g_6_available (C : CX κ ε own cc nL ret fr lo mc ms) {ix : Nat} {x : Int32} (hd : decode cc pc = .ok (.getfield ix, 3)) (hw : Cond.fieldLink own ix "RingDevices$Ring" "available" "I" ∈ TB) (hv : v 23 = x) (h : JW κ k n (WD ε ad v f u g) (pc + 3) lv (.int x :: st)) : JW κ k n (WD ε ad v f u g) pc lv (.ref (ad 6) :: st) := by
  subst hv
  exact j_get C hd 6 wl_6 inX6 rfl 4 (by decide) hw rfl rfl h
theorem ws_6_available {x : Int32} : (WD ε ad v f u g).set 6 (ad 6, .inr (6, [.ref (ad 1), .int (v 20), .int (v 21), .int (v 22), .int (v 23), .int (v 24), .int (v 25), .int (v 26), .int (v 27)].set 4 (.int x))) = WD ε ad (upd v 23 x) f u g := rfl
theorem p_6_available (C : CX κ ε own cc nL ret fr lo mc ms) {ix : Nat} {x : Int32} (hd : decode cc pc = .ok (.putfield ix, 3)) (hw : Cond.fieldLink own ix "RingDevices$Ring" "available" "I" ∈ TB) (h : JW κ k n (WD ε ad (upd v 23 x) f u g) (pc + 3) lv st) : JW κ k n (WD ε ad v f u g) pc lv (.int x :: .ref (ad 6) :: st) := j_put C hd 6 wl_6 inX6 tyX6 tyX6_ok nmX6 rfl 4 (by decide) hw rfl rfl rfl rfl (Nat.le_of_ble_eq_true rfl) ws_6_available h
theorem g_6_used (C : CX κ ε own cc nL ret fr lo mc ms) {ix : Nat} {x : Int32} (hd : decode cc pc = .ok (.getfield ix, 3)) (hw : Cond.fieldLink own ix "RingDevices$Ring" "used" "I" ∈ TB) (hv : v 24 = x) (h : JW κ k n (WD ε ad v f u g) (pc + 3) lv (.int x :: st)) : JW κ k n (WD ε ad v f u g) pc lv (.ref (ad 6) :: st) := by
  subst hv
  exact j_get C hd 6 wl_6 inX6 rfl 5 (by decide) hw rfl rfl h
theorem ws_6_used {x : Int32} : (WD ε ad v f u g).set 6 (ad 6, .inr (6, [.ref (ad 1), .int (v 20), .int (v 21), .int (v 22), .int (v 23), .int (v 24), .int (v 25), .int (v 26), .int (v 27)].set 5 (.int x))) = WD ε ad (upd v 24 x) f u g := rfl
theorem p_6_used (C : CX κ ε own cc nL ret fr lo mc ms) {ix : Nat} {x : Int32} (hd : decode cc pc = .ok (.putfield ix, 3)) (hw : Cond.fieldLink own ix "RingDevices$Ring" "used" "I" ∈ TB) (h : JW κ k n (WD ε ad (upd v 24 x) f u g) (pc + 3) lv st) : JW κ k n (WD ε ad v f u g) pc lv (.int x :: .ref (ad 6) :: st) := j_put C hd 6 wl_6 inX6 tyX6 tyX6_ok nmX6 rfl 5 (by decide) hw rfl rfl rfl rfl (Nat.le_of_ble_eq_true rfl) ws_6_used h
theorem g_6_taken (C : CX κ ε own cc nL ret fr lo mc ms) {ix : Nat} {x : Int32} (hd : decode cc pc = .ok (.getfield ix, 3)) (hw : Cond.fieldLink own ix "RingDevices$Ring" "taken" "I" ∈ TB) (hv : v 25 = x) (h : JW κ k n (WD ε ad v f u g) (pc + 3) lv (.int x :: st)) : JW κ k n (WD ε ad v f u g) pc lv (.ref (ad 6) :: st) := by
  subst hv
  exact j_get C hd 6 wl_6 inX6 rfl 6 (by decide) hw rfl rfl h
theorem ws_6_taken {x : Int32} : (WD ε ad v f u g).set 6 (ad 6, .inr (6, [.ref (ad 1), .int (v 20), .int (v 21), .int (v 22), .int (v 23), .int (v 24), .int (v 25), .int (v 26), .int (v 27)].set 6 (.int x))) = WD ε ad (upd v 25 x) f u g := rfl
theorem p_6_taken (C : CX κ ε own cc nL ret fr lo mc ms) {ix : Nat} {x : Int32} (hd : decode cc pc = .ok (.putfield ix, 3)) (hw : Cond.fieldLink own ix "RingDevices$Ring" "taken" "I" ∈ TB) (h : JW κ k n (WD ε ad (upd v 25 x) f u g) (pc + 3) lv st) : JW κ k n (WD ε ad v f u g) pc lv (.int x :: .ref (ad 6) :: st) := j_put C hd 6 wl_6 inX6 tyX6 tyX6_ok nmX6 rfl 6 (by decide) hw rfl rfl rfl rfl (Nat.le_of_ble_eq_true rfl) ws_6_taken h
theorem g_6_given (C : CX κ ε own cc nL ret fr lo mc ms) {ix : Nat} {x : Int32} (hd : decode cc pc = .ok (.getfield ix, 3)) (hw : Cond.fieldLink own ix "RingDevices$Ring" "given" "I" ∈ TB) (hv : v 26 = x) (h : JW κ k n (WD ε ad v f u g) (pc + 3) lv (.int x :: st)) : JW κ k n (WD ε ad v f u g) pc lv (.ref (ad 6) :: st) := by
  subst hv
  exact j_get C hd 6 wl_6 inX6 rfl 7 (by decide) hw rfl rfl h
theorem ws_6_given {x : Int32} : (WD ε ad v f u g).set 6 (ad 6, .inr (6, [.ref (ad 1), .int (v 20), .int (v 21), .int (v 22), .int (v 23), .int (v 24), .int (v 25), .int (v 26), .int (v 27)].set 7 (.int x))) = WD ε ad (upd v 26 x) f u g := rfl
theorem p_6_given (C : CX κ ε own cc nL ret fr lo mc ms) {ix : Nat} {x : Int32} (hd : decode cc pc = .ok (.putfield ix, 3)) (hw : Cond.fieldLink own ix "RingDevices$Ring" "given" "I" ∈ TB) (h : JW κ k n (WD ε ad (upd v 26 x) f u g) (pc + 3) lv st) : JW κ k n (WD ε ad v f u g) pc lv (.int x :: .ref (ad 6) :: st) := j_put C hd 6 wl_6 inX6 tyX6 tyX6_ok nmX6 rfl 7 (by decide) hw rfl rfl rfl rfl (Nat.le_of_ble_eq_true rfl) ws_6_given h
theorem g_6_signals (C : CX κ ε own cc nL ret fr lo mc ms) {ix : Nat} {x : Int32} (hd : decode cc pc = .ok (.getfield ix, 3)) (hw : Cond.fieldLink own ix "RingDevices$Ring" "signals" "I" ∈ TB) (hv : v 27 = x) (h : JW κ k n (WD ε ad v f u g) (pc + 3) lv (.int x :: st)) : JW κ k n (WD ε ad v f u g) pc lv (.ref (ad 6) :: st) := by
  subst hv
  exact j_get C hd 6 wl_6 inX6 rfl 8 (by decide) hw rfl rfl h
theorem ws_6_signals {x : Int32} : (WD ε ad v f u g).set 6 (ad 6, .inr (6, [.ref (ad 1), .int (v 20), .int (v 21), .int (v 22), .int (v 23), .int (v 24), .int (v 25), .int (v 26), .int (v 27)].set 8 (.int x))) = WD ε ad (upd v 27 x) f u g := rfl
theorem p_6_signals (C : CX κ ε own cc nL ret fr lo mc ms) {ix : Nat} {x : Int32} (hd : decode cc pc = .ok (.putfield ix, 3)) (hw : Cond.fieldLink own ix "RingDevices$Ring" "signals" "I" ∈ TB) (h : JW κ k n (WD ε ad (upd v 27 x) f u g) (pc + 3) lv st) : JW κ k n (WD ε ad v f u g) pc lv (.int x :: .ref (ad 6) :: st) := j_put C hd 6 wl_6 inX6 tyX6 tyX6_ok nmX6 rfl 8 (by decide) hw rfl rfl rfl rfl (Nat.le_of_ble_eq_true rfl) ws_6_signals h
theorem g_7_memory (C : CX κ ε own cc nL ret fr lo mc ms) {ix : Nat} (hd : decode cc pc = .ok (.getfield ix, 3)) (hw : Cond.fieldLink own ix "RingDevices$Chain" "memory" "LRingDevices$Memory;" ∈ TB) (h : JW κ k n (WD ε ad v f u g) (pc + 3) lv (.ref (ad 1) :: st)) : JW κ k n (WD ε ad v f u g) pc lv (.ref (ad 7) :: st) := j_get C hd 7 wl_7 inX0 rfl 0 (by decide) hw rfl rfl h
theorem g_7_addresses (C : CX κ ε own cc nL ret fr lo mc ms) {ix : Nat} (hd : decode cc pc = .ok (.getfield ix, 3)) (hw : Cond.fieldLink own ix "RingDevices$Chain" "addresses" "[I" ∈ TB) (h : JW κ k n (WD ε ad v f u g) (pc + 3) lv (.ref (ad 8) :: st)) : JW κ k n (WD ε ad v f u g) pc lv (.ref (ad 7) :: st) := j_get C hd 7 wl_7 inX0 rfl 1 (by decide) hw rfl rfl h
theorem g_7_lengths (C : CX κ ε own cc nL ret fr lo mc ms) {ix : Nat} (hd : decode cc pc = .ok (.getfield ix, 3)) (hw : Cond.fieldLink own ix "RingDevices$Chain" "lengths" "[I" ∈ TB) (h : JW κ k n (WD ε ad v f u g) (pc + 3) lv (.ref (ad 9) :: st)) : JW κ k n (WD ε ad v f u g) pc lv (.ref (ad 7) :: st) := j_get C hd 7 wl_7 inX0 rfl 2 (by decide) hw rfl rfl h
theorem g_7_parts (C : CX κ ε own cc nL ret fr lo mc ms) {ix : Nat} {x : Int32} (hd : decode cc pc = .ok (.getfield ix, 3)) (hw : Cond.fieldLink own ix "RingDevices$Chain" "parts" "I" ∈ TB) (hv : v 28 = x) (h : JW κ k n (WD ε ad v f u g) (pc + 3) lv (.int x :: st)) : JW κ k n (WD ε ad v f u g) pc lv (.ref (ad 7) :: st) := by
  subst hv
  exact j_get C hd 7 wl_7 inX0 rfl 3 (by decide) hw rfl rfl h
theorem ws_7_parts {x : Int32} : (WD ε ad v f u g).set 7 (ad 7, .inr (0, [.ref (ad 1), .ref (ad 8), .ref (ad 9), .int (v 28), .int (v 29), .int (v 30), .int (v 31), .int (v 32), .int (v 33), .int (v 34), .int (v 35), .int (v 36)].set 3 (.int x))) = WD ε ad (upd v 28 x) f u g := rfl
theorem p_7_parts (C : CX κ ε own cc nL ret fr lo mc ms) {ix : Nat} {x : Int32} (hd : decode cc pc = .ok (.putfield ix, 3)) (hw : Cond.fieldLink own ix "RingDevices$Chain" "parts" "I" ∈ TB) (h : JW κ k n (WD ε ad (upd v 28 x) f u g) (pc + 3) lv st) : JW κ k n (WD ε ad v f u g) pc lv (.int x :: .ref (ad 7) :: st) := j_put C hd 7 wl_7 inX0 tyX0 tyX0_ok nmX0 rfl 3 (by decide) hw rfl rfl rfl rfl (Nat.le_of_ble_eq_true rfl) ws_7_parts h
theorem g_7_readParts (C : CX κ ε own cc nL ret fr lo mc ms) {ix : Nat} {x : Int32} (hd : decode cc pc = .ok (.getfield ix, 3)) (hw : Cond.fieldLink own ix "RingDevices$Chain" "readParts" "I" ∈ TB) (hv : v 29 = x) (h : JW κ k n (WD ε ad v f u g) (pc + 3) lv (.int x :: st)) : JW κ k n (WD ε ad v f u g) pc lv (.ref (ad 7) :: st) := by
  subst hv
  exact j_get C hd 7 wl_7 inX0 rfl 4 (by decide) hw rfl rfl h
theorem ws_7_readParts {x : Int32} : (WD ε ad v f u g).set 7 (ad 7, .inr (0, [.ref (ad 1), .ref (ad 8), .ref (ad 9), .int (v 28), .int (v 29), .int (v 30), .int (v 31), .int (v 32), .int (v 33), .int (v 34), .int (v 35), .int (v 36)].set 4 (.int x))) = WD ε ad (upd v 29 x) f u g := rfl
theorem p_7_readParts (C : CX κ ε own cc nL ret fr lo mc ms) {ix : Nat} {x : Int32} (hd : decode cc pc = .ok (.putfield ix, 3)) (hw : Cond.fieldLink own ix "RingDevices$Chain" "readParts" "I" ∈ TB) (h : JW κ k n (WD ε ad (upd v 29 x) f u g) (pc + 3) lv st) : JW κ k n (WD ε ad v f u g) pc lv (.int x :: .ref (ad 7) :: st) := j_put C hd 7 wl_7 inX0 tyX0 tyX0_ok nmX0 rfl 4 (by decide) hw rfl rfl rfl rfl (Nat.le_of_ble_eq_true rfl) ws_7_readParts h
theorem g_7_part (C : CX κ ε own cc nL ret fr lo mc ms) {ix : Nat} {x : Int32} (hd : decode cc pc = .ok (.getfield ix, 3)) (hw : Cond.fieldLink own ix "RingDevices$Chain" "part" "I" ∈ TB) (hv : v 30 = x) (h : JW κ k n (WD ε ad v f u g) (pc + 3) lv (.int x :: st)) : JW κ k n (WD ε ad v f u g) pc lv (.ref (ad 7) :: st) := by
  subst hv
  exact j_get C hd 7 wl_7 inX0 rfl 5 (by decide) hw rfl rfl h
theorem ws_7_part {x : Int32} : (WD ε ad v f u g).set 7 (ad 7, .inr (0, [.ref (ad 1), .ref (ad 8), .ref (ad 9), .int (v 28), .int (v 29), .int (v 30), .int (v 31), .int (v 32), .int (v 33), .int (v 34), .int (v 35), .int (v 36)].set 5 (.int x))) = WD ε ad (upd v 30 x) f u g := rfl
theorem p_7_part (C : CX κ ε own cc nL ret fr lo mc ms) {ix : Nat} {x : Int32} (hd : decode cc pc = .ok (.putfield ix, 3)) (hw : Cond.fieldLink own ix "RingDevices$Chain" "part" "I" ∈ TB) (h : JW κ k n (WD ε ad (upd v 30 x) f u g) (pc + 3) lv st) : JW κ k n (WD ε ad v f u g) pc lv (.int x :: .ref (ad 7) :: st) := j_put C hd 7 wl_7 inX0 tyX0 tyX0_ok nmX0 rfl 5 (by decide) hw rfl rfl rfl rfl (Nat.le_of_ble_eq_true rfl) ws_7_part h
theorem g_7_end (C : CX κ ε own cc nL ret fr lo mc ms) {ix : Nat} {x : Int32} (hd : decode cc pc = .ok (.getfield ix, 3)) (hw : Cond.fieldLink own ix "RingDevices$Chain" "end" "I" ∈ TB) (hv : v 31 = x) (h : JW κ k n (WD ε ad v f u g) (pc + 3) lv (.int x :: st)) : JW κ k n (WD ε ad v f u g) pc lv (.ref (ad 7) :: st) := by
  subst hv
  exact j_get C hd 7 wl_7 inX0 rfl 6 (by decide) hw rfl rfl h
theorem ws_7_end {x : Int32} : (WD ε ad v f u g).set 7 (ad 7, .inr (0, [.ref (ad 1), .ref (ad 8), .ref (ad 9), .int (v 28), .int (v 29), .int (v 30), .int (v 31), .int (v 32), .int (v 33), .int (v 34), .int (v 35), .int (v 36)].set 6 (.int x))) = WD ε ad (upd v 31 x) f u g := rfl
theorem p_7_end (C : CX κ ε own cc nL ret fr lo mc ms) {ix : Nat} {x : Int32} (hd : decode cc pc = .ok (.putfield ix, 3)) (hw : Cond.fieldLink own ix "RingDevices$Chain" "end" "I" ∈ TB) (h : JW κ k n (WD ε ad (upd v 31 x) f u g) (pc + 3) lv st) : JW κ k n (WD ε ad v f u g) pc lv (.int x :: .ref (ad 7) :: st) := j_put C hd 7 wl_7 inX0 tyX0 tyX0_ok nmX0 rfl 6 (by decide) hw rfl rfl rfl rfl (Nat.le_of_ble_eq_true rfl) ws_7_end h
theorem g_7_offset (C : CX κ ε own cc nL ret fr lo mc ms) {ix : Nat} {x : Int32} (hd : decode cc pc = .ok (.getfield ix, 3)) (hw : Cond.fieldLink own ix "RingDevices$Chain" "offset" "I" ∈ TB) (hv : v 32 = x) (h : JW κ k n (WD ε ad v f u g) (pc + 3) lv (.int x :: st)) : JW κ k n (WD ε ad v f u g) pc lv (.ref (ad 7) :: st) := by
  subst hv
  exact j_get C hd 7 wl_7 inX0 rfl 7 (by decide) hw rfl rfl h
theorem ws_7_offset {x : Int32} : (WD ε ad v f u g).set 7 (ad 7, .inr (0, [.ref (ad 1), .ref (ad 8), .ref (ad 9), .int (v 28), .int (v 29), .int (v 30), .int (v 31), .int (v 32), .int (v 33), .int (v 34), .int (v 35), .int (v 36)].set 7 (.int x))) = WD ε ad (upd v 32 x) f u g := rfl
theorem p_7_offset (C : CX κ ε own cc nL ret fr lo mc ms) {ix : Nat} {x : Int32} (hd : decode cc pc = .ok (.putfield ix, 3)) (hw : Cond.fieldLink own ix "RingDevices$Chain" "offset" "I" ∈ TB) (h : JW κ k n (WD ε ad (upd v 32 x) f u g) (pc + 3) lv st) : JW κ k n (WD ε ad v f u g) pc lv (.int x :: .ref (ad 7) :: st) := j_put C hd 7 wl_7 inX0 tyX0 tyX0_ok nmX0 rfl 7 (by decide) hw rfl rfl rfl rfl (Nat.le_of_ble_eq_true rfl) ws_7_offset h
theorem g_7_lastPlace (C : CX κ ε own cc nL ret fr lo mc ms) {ix : Nat} {x : Int32} (hd : decode cc pc = .ok (.getfield ix, 3)) (hw : Cond.fieldLink own ix "RingDevices$Chain" "lastPlace" "I" ∈ TB) (hv : v 33 = x) (h : JW κ k n (WD ε ad v f u g) (pc + 3) lv (.int x :: st)) : JW κ k n (WD ε ad v f u g) pc lv (.ref (ad 7) :: st) := by
  subst hv
  exact j_get C hd 7 wl_7 inX0 rfl 8 (by decide) hw rfl rfl h
theorem ws_7_lastPlace {x : Int32} : (WD ε ad v f u g).set 7 (ad 7, .inr (0, [.ref (ad 1), .ref (ad 8), .ref (ad 9), .int (v 28), .int (v 29), .int (v 30), .int (v 31), .int (v 32), .int (v 33), .int (v 34), .int (v 35), .int (v 36)].set 8 (.int x))) = WD ε ad (upd v 33 x) f u g := rfl
theorem p_7_lastPlace (C : CX κ ε own cc nL ret fr lo mc ms) {ix : Nat} {x : Int32} (hd : decode cc pc = .ok (.putfield ix, 3)) (hw : Cond.fieldLink own ix "RingDevices$Chain" "lastPlace" "I" ∈ TB) (h : JW κ k n (WD ε ad (upd v 33 x) f u g) (pc + 3) lv st) : JW κ k n (WD ε ad v f u g) pc lv (.int x :: .ref (ad 7) :: st) := j_put C hd 7 wl_7 inX0 tyX0 tyX0_ok nmX0 rfl 8 (by decide) hw rfl rfl rfl rfl (Nat.le_of_ble_eq_true rfl) ws_7_lastPlace h
theorem g_7_head (C : CX κ ε own cc nL ret fr lo mc ms) {ix : Nat} {x : Int32} (hd : decode cc pc = .ok (.getfield ix, 3)) (hw : Cond.fieldLink own ix "RingDevices$Chain" "head" "I" ∈ TB) (hv : v 34 = x) (h : JW κ k n (WD ε ad v f u g) (pc + 3) lv (.int x :: st)) : JW κ k n (WD ε ad v f u g) pc lv (.ref (ad 7) :: st) := by
  subst hv
  exact j_get C hd 7 wl_7 inX0 rfl 9 (by decide) hw rfl rfl h
theorem ws_7_head {x : Int32} : (WD ε ad v f u g).set 7 (ad 7, .inr (0, [.ref (ad 1), .ref (ad 8), .ref (ad 9), .int (v 28), .int (v 29), .int (v 30), .int (v 31), .int (v 32), .int (v 33), .int (v 34), .int (v 35), .int (v 36)].set 9 (.int x))) = WD ε ad (upd v 34 x) f u g := rfl
theorem p_7_head (C : CX κ ε own cc nL ret fr lo mc ms) {ix : Nat} {x : Int32} (hd : decode cc pc = .ok (.putfield ix, 3)) (hw : Cond.fieldLink own ix "RingDevices$Chain" "head" "I" ∈ TB) (h : JW κ k n (WD ε ad (upd v 34 x) f u g) (pc + 3) lv st) : JW κ k n (WD ε ad v f u g) pc lv (.int x :: .ref (ad 7) :: st) := j_put C hd 7 wl_7 inX0 tyX0 tyX0_ok nmX0 rfl 9 (by decide) hw rfl rfl rfl rfl (Nat.le_of_ble_eq_true rfl) ws_7_head h
theorem g_7_readable (C : CX κ ε own cc nL ret fr lo mc ms) {ix : Nat} {x : Int32} (hd : decode cc pc = .ok (.getfield ix, 3)) (hw : Cond.fieldLink own ix "RingDevices$Chain" "readable" "I" ∈ TB) (hv : v 35 = x) (h : JW κ k n (WD ε ad v f u g) (pc + 3) lv (.int x :: st)) : JW κ k n (WD ε ad v f u g) pc lv (.ref (ad 7) :: st) := by
  subst hv
  exact j_get C hd 7 wl_7 inX0 rfl 10 (by decide) hw rfl rfl h
theorem ws_7_readable {x : Int32} : (WD ε ad v f u g).set 7 (ad 7, .inr (0, [.ref (ad 1), .ref (ad 8), .ref (ad 9), .int (v 28), .int (v 29), .int (v 30), .int (v 31), .int (v 32), .int (v 33), .int (v 34), .int (v 35), .int (v 36)].set 10 (.int x))) = WD ε ad (upd v 35 x) f u g := rfl
theorem p_7_readable (C : CX κ ε own cc nL ret fr lo mc ms) {ix : Nat} {x : Int32} (hd : decode cc pc = .ok (.putfield ix, 3)) (hw : Cond.fieldLink own ix "RingDevices$Chain" "readable" "I" ∈ TB) (h : JW κ k n (WD ε ad (upd v 35 x) f u g) (pc + 3) lv st) : JW κ k n (WD ε ad v f u g) pc lv (.int x :: .ref (ad 7) :: st) := j_put C hd 7 wl_7 inX0 tyX0 tyX0_ok nmX0 rfl 10 (by decide) hw rfl rfl rfl rfl (Nat.le_of_ble_eq_true rfl) ws_7_readable h
theorem g_7_writable (C : CX κ ε own cc nL ret fr lo mc ms) {ix : Nat} {x : Int32} (hd : decode cc pc = .ok (.getfield ix, 3)) (hw : Cond.fieldLink own ix "RingDevices$Chain" "writable" "I" ∈ TB) (hv : v 36 = x) (h : JW κ k n (WD ε ad v f u g) (pc + 3) lv (.int x :: st)) : JW κ k n (WD ε ad v f u g) pc lv (.ref (ad 7) :: st) := by
  subst hv
  exact j_get C hd 7 wl_7 inX0 rfl 11 (by decide) hw rfl rfl h
theorem ws_7_writable {x : Int32} : (WD ε ad v f u g).set 7 (ad 7, .inr (0, [.ref (ad 1), .ref (ad 8), .ref (ad 9), .int (v 28), .int (v 29), .int (v 30), .int (v 31), .int (v 32), .int (v 33), .int (v 34), .int (v 35), .int (v 36)].set 11 (.int x))) = WD ε ad (upd v 36 x) f u g := rfl
theorem p_7_writable (C : CX κ ε own cc nL ret fr lo mc ms) {ix : Nat} {x : Int32} (hd : decode cc pc = .ok (.putfield ix, 3)) (hw : Cond.fieldLink own ix "RingDevices$Chain" "writable" "I" ∈ TB) (h : JW κ k n (WD ε ad (upd v 36 x) f u g) (pc + 3) lv st) : JW κ k n (WD ε ad v f u g) pc lv (.int x :: .ref (ad 7) :: st) := j_put C hd 7 wl_7 inX0 tyX0 tyX0_ok nmX0 rfl 11 (by decide) hw rfl rfl rfl rfl (Nat.le_of_ble_eq_true rfl) ws_7_writable h
theorem al_8 (C : CX κ ε own cc nL ret fr lo mc ms) {i : Int32} {F : Nat → Int32} (hd : decode cc pc = .ok (.iaload, 1)) (hin : vp_in i 16) (hF : f 8 = F) (h : JW κ k n (WD ε ad v f u g) (pc + 1) lv (.int (F i.toNatClampNeg) :: st)) : JW κ k n (WD ε ad v f u g) pc lv (.int i :: .ref (ad 8) :: st) := by
  subst hF
  exact j_iald C hd 8 wl_8 hin h
theorem wt_8 {F : Nat → Int32} : (WD ε ad v f u g).set 8 (ad 8, .inl (ε.2.2.1, 16, .inl F)) = WD ε ad v (va_up f 8 F) u g := rfl
theorem as_8 (C : CX κ ε own cc nL ret fr lo mc ms) {i x : Int32} {F F2 : Nat → Int32} (hd : decode cc pc = .ok (.iastore, 1)) (hin : vp_in i 16) (hF : f 8 = F2) (hF2 : upd F2 i.toNatClampNeg x = F) (h : JW κ k n (WD ε ad v (va_up f 8 F) u g) (pc + 1) lv st) : JW κ k n (WD ε ad v f u g) pc lv (.int x :: .int i :: .ref (ad 8) :: st) := by
  subst hF; subst hF2
  exact j_iast C hd 8 wl_8 hin wt_8 h
theorem an_8 (C : CX κ ε own cc nL ret fr lo mc ms) (hd : decode cc pc = .ok (.arraylength, 1)) (h : JW κ k n (WD ε ad v f u g) (pc + 1) lv (.int 16 :: st)) : JW κ k n (WD ε ad v f u g) pc lv (.ref (ad 8) :: st) := j_alen C hd 8 1 wl_8 rfl rfl h
theorem al_9 (C : CX κ ε own cc nL ret fr lo mc ms) {i : Int32} {F : Nat → Int32} (hd : decode cc pc = .ok (.iaload, 1)) (hin : vp_in i 16) (hF : f 9 = F) (h : JW κ k n (WD ε ad v f u g) (pc + 1) lv (.int (F i.toNatClampNeg) :: st)) : JW κ k n (WD ε ad v f u g) pc lv (.int i :: .ref (ad 9) :: st) := by
  subst hF
  exact j_iald C hd 9 wl_9 hin h
theorem wt_9 {F : Nat → Int32} : (WD ε ad v f u g).set 9 (ad 9, .inl (ε.2.2.1, 16, .inl F)) = WD ε ad v (va_up f 9 F) u g := rfl
theorem as_9 (C : CX κ ε own cc nL ret fr lo mc ms) {i x : Int32} {F F2 : Nat → Int32} (hd : decode cc pc = .ok (.iastore, 1)) (hin : vp_in i 16) (hF : f 9 = F2) (hF2 : upd F2 i.toNatClampNeg x = F) (h : JW κ k n (WD ε ad v (va_up f 9 F) u g) (pc + 1) lv st) : JW κ k n (WD ε ad v f u g) pc lv (.int x :: .int i :: .ref (ad 9) :: st) := by
  subst hF; subst hF2
  exact j_iast C hd 9 wl_9 hin wt_9 h
theorem an_9 (C : CX κ ε own cc nL ret fr lo mc ms) (hd : decode cc pc = .ok (.arraylength, 1)) (h : JW κ k n (WD ε ad v f u g) (pc + 1) lv (.int 16 :: st)) : JW κ k n (WD ε ad v f u g) pc lv (.ref (ad 9) :: st) := j_alen C hd 9 1 wl_9 rfl rfl h
theorem g_10_bytes (C : CX κ ε own cc nL ret fr lo mc ms) {ix : Nat} (hd : decode cc pc = .ok (.getfield ix, 3)) (hw : Cond.fieldLink own ix "RingDevices$Disk" "bytes" "[B" ∈ TB) (h : JW κ k n (WD ε ad v f u g) (pc + 3) lv (.ref (ad 11) :: st)) : JW κ k n (WD ε ad v f u g) pc lv (.ref (ad 10) :: st) := j_get C hd 10 wl_10 inX2 rfl 0 (by decide) hw rfl rfl h
theorem al_11 (C : CX κ ε own cc nL ret fr lo mc ms) {i : Int32} {F : Nat → Int32} (hd : decode cc pc = .ok (.baload, 1)) (hin : vp_in i 2048) (hF : f 11 = F) (h : JW κ k n (WD ε ad v f u g) (pc + 1) lv (.int (F i.toNatClampNeg) :: st)) : JW κ k n (WD ε ad v f u g) pc lv (.int i :: .ref (ad 11) :: st) := by
  subst hF
  exact j_bald C hd 11 wl_11 hin h
theorem wt_11 {F : Nat → Int32} : (WD ε ad v f u g).set 11 (ad 11, .inl (ε.2.1, 2048, .inl F)) = WD ε ad v (va_up f 11 F) u g := rfl
theorem as_11 (C : CX κ ε own cc nL ret fr lo mc ms) {i x : Int32} {F F2 : Nat → Int32} (hd : decode cc pc = .ok (.bastore, 1)) (hin : vp_in i 2048) (hF : f 11 = F2) (hF2 : upd F2 i.toNatClampNeg (vp_nar .byte x) = F) (h : JW κ k n (WD ε ad v (va_up f 11 F) u g) (pc + 1) lv st) : JW κ k n (WD ε ad v f u g) pc lv (.int x :: .int i :: .ref (ad 11) :: st) := by
  subst hF; subst hF2
  exact j_bast C hd 11 wl_11 hin wt_11 h
theorem an_11 (C : CX κ ε own cc nL ret fr lo mc ms) (hd : decode cc pc = .ok (.arraylength, 1)) (h : JW κ k n (WD ε ad v f u g) (pc + 1) lv (.int 2048 :: st)) : JW κ k n (WD ε ad v f u g) pc lv (.ref (ad 11) :: st) := j_alen C hd 11 0 wl_11 rfl rfl h
theorem g_12_bytes (C : CX κ ε own cc nL ret fr lo mc ms) {ix : Nat} (hd : decode cc pc = .ok (.getfield ix, 3)) (hw : Cond.fieldLink own ix "RingDevices$Wire" "bytes" "[B" ∈ TB) (h : JW κ k n (WD ε ad v f u g) (pc + 3) lv (.ref (ad 13) :: st)) : JW κ k n (WD ε ad v f u g) pc lv (.ref (ad 12) :: st) := j_get C hd 12 wl_12 inX7 rfl 0 (by decide) hw rfl rfl h
theorem g_12_lengths (C : CX κ ε own cc nL ret fr lo mc ms) {ix : Nat} (hd : decode cc pc = .ok (.getfield ix, 3)) (hw : Cond.fieldLink own ix "RingDevices$Wire" "lengths" "[I" ∈ TB) (h : JW κ k n (WD ε ad v f u g) (pc + 3) lv (.ref (ad 14) :: st)) : JW κ k n (WD ε ad v f u g) pc lv (.ref (ad 12) :: st) := j_get C hd 12 wl_12 inX7 rfl 1 (by decide) hw rfl rfl h
theorem g_12_latest (C : CX κ ε own cc nL ret fr lo mc ms) {ix : Nat} {x : Int32} (hd : decode cc pc = .ok (.getfield ix, 3)) (hw : Cond.fieldLink own ix "RingDevices$Wire" "latest" "I" ∈ TB) (hv : v 37 = x) (h : JW κ k n (WD ε ad v f u g) (pc + 3) lv (.int x :: st)) : JW κ k n (WD ε ad v f u g) pc lv (.ref (ad 12) :: st) := by
  subst hv
  exact j_get C hd 12 wl_12 inX7 rfl 2 (by decide) hw rfl rfl h
theorem ws_12_latest {x : Int32} : (WD ε ad v f u g).set 12 (ad 12, .inr (7, [.ref (ad 13), .ref (ad 14), .int (v 37), .int (v 38)].set 2 (.int x))) = WD ε ad (upd v 37 x) f u g := rfl
theorem p_12_latest (C : CX κ ε own cc nL ret fr lo mc ms) {ix : Nat} {x : Int32} (hd : decode cc pc = .ok (.putfield ix, 3)) (hw : Cond.fieldLink own ix "RingDevices$Wire" "latest" "I" ∈ TB) (h : JW κ k n (WD ε ad (upd v 37 x) f u g) (pc + 3) lv st) : JW κ k n (WD ε ad v f u g) pc lv (.int x :: .ref (ad 12) :: st) := j_put C hd 12 wl_12 inX7 tyX7 tyX7_ok nmX7 rfl 2 (by decide) hw rfl rfl rfl rfl (Nat.le_of_ble_eq_true rfl) ws_12_latest h
theorem g_12_went (C : CX κ ε own cc nL ret fr lo mc ms) {ix : Nat} {x : Int32} (hd : decode cc pc = .ok (.getfield ix, 3)) (hw : Cond.fieldLink own ix "RingDevices$Wire" "went" "I" ∈ TB) (hv : v 38 = x) (h : JW κ k n (WD ε ad v f u g) (pc + 3) lv (.int x :: st)) : JW κ k n (WD ε ad v f u g) pc lv (.ref (ad 12) :: st) := by
  subst hv
  exact j_get C hd 12 wl_12 inX7 rfl 3 (by decide) hw rfl rfl h
theorem ws_12_went {x : Int32} : (WD ε ad v f u g).set 12 (ad 12, .inr (7, [.ref (ad 13), .ref (ad 14), .int (v 37), .int (v 38)].set 3 (.int x))) = WD ε ad (upd v 38 x) f u g := rfl
theorem p_12_went (C : CX κ ε own cc nL ret fr lo mc ms) {ix : Nat} {x : Int32} (hd : decode cc pc = .ok (.putfield ix, 3)) (hw : Cond.fieldLink own ix "RingDevices$Wire" "went" "I" ∈ TB) (h : JW κ k n (WD ε ad (upd v 38 x) f u g) (pc + 3) lv st) : JW κ k n (WD ε ad v f u g) pc lv (.int x :: .ref (ad 12) :: st) := j_put C hd 12 wl_12 inX7 tyX7 tyX7_ok nmX7 rfl 3 (by decide) hw rfl rfl rfl rfl (Nat.le_of_ble_eq_true rfl) ws_12_went h
theorem al_13 (C : CX κ ε own cc nL ret fr lo mc ms) {i : Int32} {F : Nat → Int32} (hd : decode cc pc = .ok (.baload, 1)) (hin : vp_in i 1280) (hF : f 13 = F) (h : JW κ k n (WD ε ad v f u g) (pc + 1) lv (.int (F i.toNatClampNeg) :: st)) : JW κ k n (WD ε ad v f u g) pc lv (.int i :: .ref (ad 13) :: st) := by
  subst hF
  exact j_bald C hd 13 wl_13 hin h
theorem wt_13 {F : Nat → Int32} : (WD ε ad v f u g).set 13 (ad 13, .inl (ε.2.1, 1280, .inl F)) = WD ε ad v (va_up f 13 F) u g := rfl
theorem as_13 (C : CX κ ε own cc nL ret fr lo mc ms) {i x : Int32} {F F2 : Nat → Int32} (hd : decode cc pc = .ok (.bastore, 1)) (hin : vp_in i 1280) (hF : f 13 = F2) (hF2 : upd F2 i.toNatClampNeg (vp_nar .byte x) = F) (h : JW κ k n (WD ε ad v (va_up f 13 F) u g) (pc + 1) lv st) : JW κ k n (WD ε ad v f u g) pc lv (.int x :: .int i :: .ref (ad 13) :: st) := by
  subst hF; subst hF2
  exact j_bast C hd 13 wl_13 hin wt_13 h
theorem an_13 (C : CX κ ε own cc nL ret fr lo mc ms) (hd : decode cc pc = .ok (.arraylength, 1)) (h : JW κ k n (WD ε ad v f u g) (pc + 1) lv (.int 1280 :: st)) : JW κ k n (WD ε ad v f u g) pc lv (.ref (ad 13) :: st) := j_alen C hd 13 0 wl_13 rfl rfl h
theorem al_14 (C : CX κ ε own cc nL ret fr lo mc ms) {i : Int32} {F : Nat → Int32} (hd : decode cc pc = .ok (.iaload, 1)) (hin : vp_in i 16) (hF : f 14 = F) (h : JW κ k n (WD ε ad v f u g) (pc + 1) lv (.int (F i.toNatClampNeg) :: st)) : JW κ k n (WD ε ad v f u g) pc lv (.int i :: .ref (ad 14) :: st) := by
  subst hF
  exact j_iald C hd 14 wl_14 hin h
theorem wt_14 {F : Nat → Int32} : (WD ε ad v f u g).set 14 (ad 14, .inl (ε.2.2.1, 16, .inl F)) = WD ε ad v (va_up f 14 F) u g := rfl
theorem as_14 (C : CX κ ε own cc nL ret fr lo mc ms) {i x : Int32} {F F2 : Nat → Int32} (hd : decode cc pc = .ok (.iastore, 1)) (hin : vp_in i 16) (hF : f 14 = F2) (hF2 : upd F2 i.toNatClampNeg x = F) (h : JW κ k n (WD ε ad v (va_up f 14 F) u g) (pc + 1) lv st) : JW κ k n (WD ε ad v f u g) pc lv (.int x :: .int i :: .ref (ad 14) :: st) := by
  subst hF; subst hF2
  exact j_iast C hd 14 wl_14 hin wt_14 h
theorem an_14 (C : CX κ ε own cc nL ret fr lo mc ms) (hd : decode cc pc = .ok (.arraylength, 1)) (h : JW κ k n (WD ε ad v f u g) (pc + 1) lv (.int 16 :: st)) : JW κ k n (WD ε ad v f u g) pc lv (.ref (ad 14) :: st) := j_alen C hd 14 1 wl_14 rfl rfl h
theorem g_15_memory (C : CX κ ε own cc nL ret fr lo mc ms) {ix : Nat} (hd : decode cc pc = .ok (.getfield ix, 3)) (hw : Cond.fieldLink own ix "RingDevices$Driver" "memory" "LRingDevices$Memory;" ∈ TB) (h : JW κ k n (WD ε ad v f u g) (pc + 3) lv (.ref (ad 1) :: st)) : JW κ k n (WD ε ad v f u g) pc lv (.ref (ad 15) :: st) := j_get C hd 15 wl_15 inX3 rfl 0 (by decide) hw rfl rfl h
theorem g_15_disks (C : CX κ ε own cc nL ret fr lo mc ms) {ix : Nat} (hd : decode cc pc = .ok (.getfield ix, 3)) (hw : Cond.fieldLink own ix "RingDevices$Driver" "disks" "LRingDevices$Loans;" ∈ TB) (h : JW κ k n (WD ε ad v f u g) (pc + 3) lv (.ref (ad 16) :: st)) : JW κ k n (WD ε ad v f u g) pc lv (.ref (ad 15) :: st) := j_get C hd 15 wl_15 inX3 rfl 1 (by decide) hw rfl rfl h
theorem g_15_comes (C : CX κ ε own cc nL ret fr lo mc ms) {ix : Nat} (hd : decode cc pc = .ok (.getfield ix, 3)) (hw : Cond.fieldLink own ix "RingDevices$Driver" "comes" "LRingDevices$Loans;" ∈ TB) (h : JW κ k n (WD ε ad v f u g) (pc + 3) lv (.ref (ad 18) :: st)) : JW κ k n (WD ε ad v f u g) pc lv (.ref (ad 15) :: st) := j_get C hd 15 wl_15 inX3 rfl 2 (by decide) hw rfl rfl h
theorem g_15_goes (C : CX κ ε own cc nL ret fr lo mc ms) {ix : Nat} (hd : decode cc pc = .ok (.getfield ix, 3)) (hw : Cond.fieldLink own ix "RingDevices$Driver" "goes" "LRingDevices$Loans;" ∈ TB) (h : JW κ k n (WD ε ad v f u g) (pc + 3) lv (.ref (ad 20) :: st)) : JW κ k n (WD ε ad v f u g) pc lv (.ref (ad 15) :: st) := j_get C hd 15 wl_15 inX3 rfl 3 (by decide) hw rfl rfl h
theorem g_15_tables (C : CX κ ε own cc nL ret fr lo mc ms) {ix : Nat} {x : Int32} (hd : decode cc pc = .ok (.getfield ix, 3)) (hw : Cond.fieldLink own ix "RingDevices$Driver" "tables" "Z" ∈ TB) (hv : v 39 = x) (h : JW κ k n (WD ε ad v f u g) (pc + 3) lv (.int x :: st)) : JW κ k n (WD ε ad v f u g) pc lv (.ref (ad 15) :: st) := by
  subst hv
  exact j_get C hd 15 wl_15 inX3 rfl 4 (by decide) hw rfl rfl h
theorem ws_15_tables {x : Int32} : (WD ε ad v f u g).set 15 (ad 15, .inr (3, [.ref (ad 1), .ref (ad 16), .ref (ad 18), .ref (ad 20), .int (v 39), .int (v 40)].set 4 (.int x))) = WD ε ad (upd v 39 x) f u g := rfl
theorem p_15_tables (C : CX κ ε own cc nL ret fr lo mc ms) {ix : Nat} {x : Int32} (hd : decode cc pc = .ok (.putfield ix, 3)) (hw : Cond.fieldLink own ix "RingDevices$Driver" "tables" "Z" ∈ TB) (hb : x = 0 ∨ x = 1) (h : JW κ k n (WD ε ad (upd v 39 x) f u g) (pc + 3) lv st) : JW κ k n (WD ε ad v f u g) pc lv (.int x :: .ref (ad 15) :: st) := j_put C hd 15 wl_15 inX3 tyX3 tyX3_ok nmX3 rfl 4 (by decide) hw rfl rfl (nb_b hb).1 (nb_b hb).2 (Nat.le_of_ble_eq_true rfl) ws_15_tables h
theorem g_15_started (C : CX κ ε own cc nL ret fr lo mc ms) {ix : Nat} {x : Int32} (hd : decode cc pc = .ok (.getfield ix, 3)) (hw : Cond.fieldLink own ix "RingDevices$Driver" "started" "Z" ∈ TB) (hv : v 40 = x) (h : JW κ k n (WD ε ad v f u g) (pc + 3) lv (.int x :: st)) : JW κ k n (WD ε ad v f u g) pc lv (.ref (ad 15) :: st) := by
  subst hv
  exact j_get C hd 15 wl_15 inX3 rfl 5 (by decide) hw rfl rfl h
theorem ws_15_started {x : Int32} : (WD ε ad v f u g).set 15 (ad 15, .inr (3, [.ref (ad 1), .ref (ad 16), .ref (ad 18), .ref (ad 20), .int (v 39), .int (v 40)].set 5 (.int x))) = WD ε ad (upd v 40 x) f u g := rfl
theorem p_15_started (C : CX κ ε own cc nL ret fr lo mc ms) {ix : Nat} {x : Int32} (hd : decode cc pc = .ok (.putfield ix, 3)) (hw : Cond.fieldLink own ix "RingDevices$Driver" "started" "Z" ∈ TB) (hb : x = 0 ∨ x = 1) (h : JW κ k n (WD ε ad (upd v 40 x) f u g) (pc + 3) lv st) : JW κ k n (WD ε ad v f u g) pc lv (.int x :: .ref (ad 15) :: st) := j_put C hd 15 wl_15 inX3 tyX3 tyX3_ok nmX3 rfl 5 (by decide) hw rfl rfl (nb_b hb).1 (nb_b hb).2 (Nat.le_of_ble_eq_true rfl) ws_15_started h
theorem g_16_chains (C : CX κ ε own cc nL ret fr lo mc ms) {ix : Nat} (hd : decode cc pc = .ok (.getfield ix, 3)) (hw : Cond.fieldLink own ix "RingDevices$Loans" "chains" "[I" ∈ TB) (h : JW κ k n (WD ε ad v f u g) (pc + 3) lv (.ref (ad 17) :: st)) : JW κ k n (WD ε ad v f u g) pc lv (.ref (ad 16) :: st) := j_get C hd 16 wl_16 inX4 rfl 0 (by decide) hw rfl rfl h
theorem g_16_free (C : CX κ ε own cc nL ret fr lo mc ms) {ix : Nat} {x : Int32} (hd : decode cc pc = .ok (.getfield ix, 3)) (hw : Cond.fieldLink own ix "RingDevices$Loans" "free" "I" ∈ TB) (hv : v 41 = x) (h : JW κ k n (WD ε ad v f u g) (pc + 3) lv (.int x :: st)) : JW κ k n (WD ε ad v f u g) pc lv (.ref (ad 16) :: st) := by
  subst hv
  exact j_get C hd 16 wl_16 inX4 rfl 1 (by decide) hw rfl rfl h
theorem ws_16_free {x : Int32} : (WD ε ad v f u g).set 16 (ad 16, .inr (4, [.ref (ad 17), .int (v 41), .int (v 42), .int (v 43), .int (v 44)].set 1 (.int x))) = WD ε ad (upd v 41 x) f u g := rfl
theorem p_16_free (C : CX κ ε own cc nL ret fr lo mc ms) {ix : Nat} {x : Int32} (hd : decode cc pc = .ok (.putfield ix, 3)) (hw : Cond.fieldLink own ix "RingDevices$Loans" "free" "I" ∈ TB) (h : JW κ k n (WD ε ad (upd v 41 x) f u g) (pc + 3) lv st) : JW κ k n (WD ε ad v f u g) pc lv (.int x :: .ref (ad 16) :: st) := j_put C hd 16 wl_16 inX4 tyX4 tyX4_ok nmX4 rfl 1 (by decide) hw rfl rfl rfl rfl (Nat.le_of_ble_eq_true rfl) ws_16_free h
theorem g_16_asked (C : CX κ ε own cc nL ret fr lo mc ms) {ix : Nat} {x : Int32} (hd : decode cc pc = .ok (.getfield ix, 3)) (hw : Cond.fieldLink own ix "RingDevices$Loans" "asked" "I" ∈ TB) (hv : v 42 = x) (h : JW κ k n (WD ε ad v f u g) (pc + 3) lv (.int x :: st)) : JW κ k n (WD ε ad v f u g) pc lv (.ref (ad 16) :: st) := by
  subst hv
  exact j_get C hd 16 wl_16 inX4 rfl 2 (by decide) hw rfl rfl h
theorem ws_16_asked {x : Int32} : (WD ε ad v f u g).set 16 (ad 16, .inr (4, [.ref (ad 17), .int (v 41), .int (v 42), .int (v 43), .int (v 44)].set 2 (.int x))) = WD ε ad (upd v 42 x) f u g := rfl
theorem p_16_asked (C : CX κ ε own cc nL ret fr lo mc ms) {ix : Nat} {x : Int32} (hd : decode cc pc = .ok (.putfield ix, 3)) (hw : Cond.fieldLink own ix "RingDevices$Loans" "asked" "I" ∈ TB) (h : JW κ k n (WD ε ad (upd v 42 x) f u g) (pc + 3) lv st) : JW κ k n (WD ε ad v f u g) pc lv (.int x :: .ref (ad 16) :: st) := j_put C hd 16 wl_16 inX4 tyX4 tyX4_ok nmX4 rfl 2 (by decide) hw rfl rfl rfl rfl (Nat.le_of_ble_eq_true rfl) ws_16_asked h
theorem g_16_saw (C : CX κ ε own cc nL ret fr lo mc ms) {ix : Nat} {x : Int32} (hd : decode cc pc = .ok (.getfield ix, 3)) (hw : Cond.fieldLink own ix "RingDevices$Loans" "saw" "I" ∈ TB) (hv : v 43 = x) (h : JW κ k n (WD ε ad v f u g) (pc + 3) lv (.int x :: st)) : JW κ k n (WD ε ad v f u g) pc lv (.ref (ad 16) :: st) := by
  subst hv
  exact j_get C hd 16 wl_16 inX4 rfl 3 (by decide) hw rfl rfl h
theorem ws_16_saw {x : Int32} : (WD ε ad v f u g).set 16 (ad 16, .inr (4, [.ref (ad 17), .int (v 41), .int (v 42), .int (v 43), .int (v 44)].set 3 (.int x))) = WD ε ad (upd v 43 x) f u g := rfl
theorem p_16_saw (C : CX κ ε own cc nL ret fr lo mc ms) {ix : Nat} {x : Int32} (hd : decode cc pc = .ok (.putfield ix, 3)) (hw : Cond.fieldLink own ix "RingDevices$Loans" "saw" "I" ∈ TB) (h : JW κ k n (WD ε ad (upd v 43 x) f u g) (pc + 3) lv st) : JW κ k n (WD ε ad v f u g) pc lv (.int x :: .ref (ad 16) :: st) := j_put C hd 16 wl_16 inX4 tyX4 tyX4_ok nmX4 rfl 3 (by decide) hw rfl rfl rfl rfl (Nat.le_of_ble_eq_true rfl) ws_16_saw h
theorem g_16_latestWritten (C : CX κ ε own cc nL ret fr lo mc ms) {ix : Nat} {x : Int32} (hd : decode cc pc = .ok (.getfield ix, 3)) (hw : Cond.fieldLink own ix "RingDevices$Loans" "latestWritten" "I" ∈ TB) (hv : v 44 = x) (h : JW κ k n (WD ε ad v f u g) (pc + 3) lv (.int x :: st)) : JW κ k n (WD ε ad v f u g) pc lv (.ref (ad 16) :: st) := by
  subst hv
  exact j_get C hd 16 wl_16 inX4 rfl 4 (by decide) hw rfl rfl h
theorem ws_16_latestWritten {x : Int32} : (WD ε ad v f u g).set 16 (ad 16, .inr (4, [.ref (ad 17), .int (v 41), .int (v 42), .int (v 43), .int (v 44)].set 4 (.int x))) = WD ε ad (upd v 44 x) f u g := rfl
theorem p_16_latestWritten (C : CX κ ε own cc nL ret fr lo mc ms) {ix : Nat} {x : Int32} (hd : decode cc pc = .ok (.putfield ix, 3)) (hw : Cond.fieldLink own ix "RingDevices$Loans" "latestWritten" "I" ∈ TB) (h : JW κ k n (WD ε ad (upd v 44 x) f u g) (pc + 3) lv st) : JW κ k n (WD ε ad v f u g) pc lv (.int x :: .ref (ad 16) :: st) := j_put C hd 16 wl_16 inX4 tyX4 tyX4_ok nmX4 rfl 4 (by decide) hw rfl rfl rfl rfl (Nat.le_of_ble_eq_true rfl) ws_16_latestWritten h
theorem al_17 (C : CX κ ε own cc nL ret fr lo mc ms) {i : Int32} {F : Nat → Int32} (hd : decode cc pc = .ok (.iaload, 1)) (hin : vp_in i 8) (hF : f 17 = F) (h : JW κ k n (WD ε ad v f u g) (pc + 1) lv (.int (F i.toNatClampNeg) :: st)) : JW κ k n (WD ε ad v f u g) pc lv (.int i :: .ref (ad 17) :: st) := by
  subst hF
  exact j_iald C hd 17 wl_17 hin h
theorem wt_17 {F : Nat → Int32} : (WD ε ad v f u g).set 17 (ad 17, .inl (ε.2.2.1, 8, .inl F)) = WD ε ad v (va_up f 17 F) u g := rfl
theorem as_17 (C : CX κ ε own cc nL ret fr lo mc ms) {i x : Int32} {F F2 : Nat → Int32} (hd : decode cc pc = .ok (.iastore, 1)) (hin : vp_in i 8) (hF : f 17 = F2) (hF2 : upd F2 i.toNatClampNeg x = F) (h : JW κ k n (WD ε ad v (va_up f 17 F) u g) (pc + 1) lv st) : JW κ k n (WD ε ad v f u g) pc lv (.int x :: .int i :: .ref (ad 17) :: st) := by
  subst hF; subst hF2
  exact j_iast C hd 17 wl_17 hin wt_17 h
theorem an_17 (C : CX κ ε own cc nL ret fr lo mc ms) (hd : decode cc pc = .ok (.arraylength, 1)) (h : JW κ k n (WD ε ad v f u g) (pc + 1) lv (.int 8 :: st)) : JW κ k n (WD ε ad v f u g) pc lv (.ref (ad 17) :: st) := j_alen C hd 17 1 wl_17 rfl rfl h
theorem g_18_chains (C : CX κ ε own cc nL ret fr lo mc ms) {ix : Nat} (hd : decode cc pc = .ok (.getfield ix, 3)) (hw : Cond.fieldLink own ix "RingDevices$Loans" "chains" "[I" ∈ TB) (h : JW κ k n (WD ε ad v f u g) (pc + 3) lv (.ref (ad 19) :: st)) : JW κ k n (WD ε ad v f u g) pc lv (.ref (ad 18) :: st) := j_get C hd 18 wl_18 inX4 rfl 0 (by decide) hw rfl rfl h
theorem g_18_free (C : CX κ ε own cc nL ret fr lo mc ms) {ix : Nat} {x : Int32} (hd : decode cc pc = .ok (.getfield ix, 3)) (hw : Cond.fieldLink own ix "RingDevices$Loans" "free" "I" ∈ TB) (hv : v 45 = x) (h : JW κ k n (WD ε ad v f u g) (pc + 3) lv (.int x :: st)) : JW κ k n (WD ε ad v f u g) pc lv (.ref (ad 18) :: st) := by
  subst hv
  exact j_get C hd 18 wl_18 inX4 rfl 1 (by decide) hw rfl rfl h
theorem ws_18_free {x : Int32} : (WD ε ad v f u g).set 18 (ad 18, .inr (4, [.ref (ad 19), .int (v 45), .int (v 46), .int (v 47), .int (v 48)].set 1 (.int x))) = WD ε ad (upd v 45 x) f u g := rfl
theorem p_18_free (C : CX κ ε own cc nL ret fr lo mc ms) {ix : Nat} {x : Int32} (hd : decode cc pc = .ok (.putfield ix, 3)) (hw : Cond.fieldLink own ix "RingDevices$Loans" "free" "I" ∈ TB) (h : JW κ k n (WD ε ad (upd v 45 x) f u g) (pc + 3) lv st) : JW κ k n (WD ε ad v f u g) pc lv (.int x :: .ref (ad 18) :: st) := j_put C hd 18 wl_18 inX4 tyX4 tyX4_ok nmX4 rfl 1 (by decide) hw rfl rfl rfl rfl (Nat.le_of_ble_eq_true rfl) ws_18_free h
theorem g_18_asked (C : CX κ ε own cc nL ret fr lo mc ms) {ix : Nat} {x : Int32} (hd : decode cc pc = .ok (.getfield ix, 3)) (hw : Cond.fieldLink own ix "RingDevices$Loans" "asked" "I" ∈ TB) (hv : v 46 = x) (h : JW κ k n (WD ε ad v f u g) (pc + 3) lv (.int x :: st)) : JW κ k n (WD ε ad v f u g) pc lv (.ref (ad 18) :: st) := by
  subst hv
  exact j_get C hd 18 wl_18 inX4 rfl 2 (by decide) hw rfl rfl h
theorem ws_18_asked {x : Int32} : (WD ε ad v f u g).set 18 (ad 18, .inr (4, [.ref (ad 19), .int (v 45), .int (v 46), .int (v 47), .int (v 48)].set 2 (.int x))) = WD ε ad (upd v 46 x) f u g := rfl
theorem p_18_asked (C : CX κ ε own cc nL ret fr lo mc ms) {ix : Nat} {x : Int32} (hd : decode cc pc = .ok (.putfield ix, 3)) (hw : Cond.fieldLink own ix "RingDevices$Loans" "asked" "I" ∈ TB) (h : JW κ k n (WD ε ad (upd v 46 x) f u g) (pc + 3) lv st) : JW κ k n (WD ε ad v f u g) pc lv (.int x :: .ref (ad 18) :: st) := j_put C hd 18 wl_18 inX4 tyX4 tyX4_ok nmX4 rfl 2 (by decide) hw rfl rfl rfl rfl (Nat.le_of_ble_eq_true rfl) ws_18_asked h
theorem g_18_saw (C : CX κ ε own cc nL ret fr lo mc ms) {ix : Nat} {x : Int32} (hd : decode cc pc = .ok (.getfield ix, 3)) (hw : Cond.fieldLink own ix "RingDevices$Loans" "saw" "I" ∈ TB) (hv : v 47 = x) (h : JW κ k n (WD ε ad v f u g) (pc + 3) lv (.int x :: st)) : JW κ k n (WD ε ad v f u g) pc lv (.ref (ad 18) :: st) := by
  subst hv
  exact j_get C hd 18 wl_18 inX4 rfl 3 (by decide) hw rfl rfl h
theorem ws_18_saw {x : Int32} : (WD ε ad v f u g).set 18 (ad 18, .inr (4, [.ref (ad 19), .int (v 45), .int (v 46), .int (v 47), .int (v 48)].set 3 (.int x))) = WD ε ad (upd v 47 x) f u g := rfl
theorem p_18_saw (C : CX κ ε own cc nL ret fr lo mc ms) {ix : Nat} {x : Int32} (hd : decode cc pc = .ok (.putfield ix, 3)) (hw : Cond.fieldLink own ix "RingDevices$Loans" "saw" "I" ∈ TB) (h : JW κ k n (WD ε ad (upd v 47 x) f u g) (pc + 3) lv st) : JW κ k n (WD ε ad v f u g) pc lv (.int x :: .ref (ad 18) :: st) := j_put C hd 18 wl_18 inX4 tyX4 tyX4_ok nmX4 rfl 3 (by decide) hw rfl rfl rfl rfl (Nat.le_of_ble_eq_true rfl) ws_18_saw h
theorem g_18_latestWritten (C : CX κ ε own cc nL ret fr lo mc ms) {ix : Nat} {x : Int32} (hd : decode cc pc = .ok (.getfield ix, 3)) (hw : Cond.fieldLink own ix "RingDevices$Loans" "latestWritten" "I" ∈ TB) (hv : v 48 = x) (h : JW κ k n (WD ε ad v f u g) (pc + 3) lv (.int x :: st)) : JW κ k n (WD ε ad v f u g) pc lv (.ref (ad 18) :: st) := by
  subst hv
  exact j_get C hd 18 wl_18 inX4 rfl 4 (by decide) hw rfl rfl h
theorem ws_18_latestWritten {x : Int32} : (WD ε ad v f u g).set 18 (ad 18, .inr (4, [.ref (ad 19), .int (v 45), .int (v 46), .int (v 47), .int (v 48)].set 4 (.int x))) = WD ε ad (upd v 48 x) f u g := rfl
theorem p_18_latestWritten (C : CX κ ε own cc nL ret fr lo mc ms) {ix : Nat} {x : Int32} (hd : decode cc pc = .ok (.putfield ix, 3)) (hw : Cond.fieldLink own ix "RingDevices$Loans" "latestWritten" "I" ∈ TB) (h : JW κ k n (WD ε ad (upd v 48 x) f u g) (pc + 3) lv st) : JW κ k n (WD ε ad v f u g) pc lv (.int x :: .ref (ad 18) :: st) := j_put C hd 18 wl_18 inX4 tyX4 tyX4_ok nmX4 rfl 4 (by decide) hw rfl rfl rfl rfl (Nat.le_of_ble_eq_true rfl) ws_18_latestWritten h
theorem al_19 (C : CX κ ε own cc nL ret fr lo mc ms) {i : Int32} {F : Nat → Int32} (hd : decode cc pc = .ok (.iaload, 1)) (hin : vp_in i 8) (hF : f 19 = F) (h : JW κ k n (WD ε ad v f u g) (pc + 1) lv (.int (F i.toNatClampNeg) :: st)) : JW κ k n (WD ε ad v f u g) pc lv (.int i :: .ref (ad 19) :: st) := by
  subst hF
  exact j_iald C hd 19 wl_19 hin h
theorem wt_19 {F : Nat → Int32} : (WD ε ad v f u g).set 19 (ad 19, .inl (ε.2.2.1, 8, .inl F)) = WD ε ad v (va_up f 19 F) u g := rfl
theorem as_19 (C : CX κ ε own cc nL ret fr lo mc ms) {i x : Int32} {F F2 : Nat → Int32} (hd : decode cc pc = .ok (.iastore, 1)) (hin : vp_in i 8) (hF : f 19 = F2) (hF2 : upd F2 i.toNatClampNeg x = F) (h : JW κ k n (WD ε ad v (va_up f 19 F) u g) (pc + 1) lv st) : JW κ k n (WD ε ad v f u g) pc lv (.int x :: .int i :: .ref (ad 19) :: st) := by
  subst hF; subst hF2
  exact j_iast C hd 19 wl_19 hin wt_19 h
theorem an_19 (C : CX κ ε own cc nL ret fr lo mc ms) (hd : decode cc pc = .ok (.arraylength, 1)) (h : JW κ k n (WD ε ad v f u g) (pc + 1) lv (.int 8 :: st)) : JW κ k n (WD ε ad v f u g) pc lv (.ref (ad 19) :: st) := j_alen C hd 19 1 wl_19 rfl rfl h
theorem g_20_chains (C : CX κ ε own cc nL ret fr lo mc ms) {ix : Nat} (hd : decode cc pc = .ok (.getfield ix, 3)) (hw : Cond.fieldLink own ix "RingDevices$Loans" "chains" "[I" ∈ TB) (h : JW κ k n (WD ε ad v f u g) (pc + 3) lv (.ref (ad 21) :: st)) : JW κ k n (WD ε ad v f u g) pc lv (.ref (ad 20) :: st) := j_get C hd 20 wl_20 inX4 rfl 0 (by decide) hw rfl rfl h
theorem g_20_free (C : CX κ ε own cc nL ret fr lo mc ms) {ix : Nat} {x : Int32} (hd : decode cc pc = .ok (.getfield ix, 3)) (hw : Cond.fieldLink own ix "RingDevices$Loans" "free" "I" ∈ TB) (hv : v 49 = x) (h : JW κ k n (WD ε ad v f u g) (pc + 3) lv (.int x :: st)) : JW κ k n (WD ε ad v f u g) pc lv (.ref (ad 20) :: st) := by
  subst hv
  exact j_get C hd 20 wl_20 inX4 rfl 1 (by decide) hw rfl rfl h
theorem ws_20_free {x : Int32} : (WD ε ad v f u g).set 20 (ad 20, .inr (4, [.ref (ad 21), .int (v 49), .int (v 50), .int (v 51), .int (v 52)].set 1 (.int x))) = WD ε ad (upd v 49 x) f u g := rfl
theorem p_20_free (C : CX κ ε own cc nL ret fr lo mc ms) {ix : Nat} {x : Int32} (hd : decode cc pc = .ok (.putfield ix, 3)) (hw : Cond.fieldLink own ix "RingDevices$Loans" "free" "I" ∈ TB) (h : JW κ k n (WD ε ad (upd v 49 x) f u g) (pc + 3) lv st) : JW κ k n (WD ε ad v f u g) pc lv (.int x :: .ref (ad 20) :: st) := j_put C hd 20 wl_20 inX4 tyX4 tyX4_ok nmX4 rfl 1 (by decide) hw rfl rfl rfl rfl (Nat.le_of_ble_eq_true rfl) ws_20_free h
theorem g_20_asked (C : CX κ ε own cc nL ret fr lo mc ms) {ix : Nat} {x : Int32} (hd : decode cc pc = .ok (.getfield ix, 3)) (hw : Cond.fieldLink own ix "RingDevices$Loans" "asked" "I" ∈ TB) (hv : v 50 = x) (h : JW κ k n (WD ε ad v f u g) (pc + 3) lv (.int x :: st)) : JW κ k n (WD ε ad v f u g) pc lv (.ref (ad 20) :: st) := by
  subst hv
  exact j_get C hd 20 wl_20 inX4 rfl 2 (by decide) hw rfl rfl h
theorem ws_20_asked {x : Int32} : (WD ε ad v f u g).set 20 (ad 20, .inr (4, [.ref (ad 21), .int (v 49), .int (v 50), .int (v 51), .int (v 52)].set 2 (.int x))) = WD ε ad (upd v 50 x) f u g := rfl
theorem p_20_asked (C : CX κ ε own cc nL ret fr lo mc ms) {ix : Nat} {x : Int32} (hd : decode cc pc = .ok (.putfield ix, 3)) (hw : Cond.fieldLink own ix "RingDevices$Loans" "asked" "I" ∈ TB) (h : JW κ k n (WD ε ad (upd v 50 x) f u g) (pc + 3) lv st) : JW κ k n (WD ε ad v f u g) pc lv (.int x :: .ref (ad 20) :: st) := j_put C hd 20 wl_20 inX4 tyX4 tyX4_ok nmX4 rfl 2 (by decide) hw rfl rfl rfl rfl (Nat.le_of_ble_eq_true rfl) ws_20_asked h
theorem g_20_saw (C : CX κ ε own cc nL ret fr lo mc ms) {ix : Nat} {x : Int32} (hd : decode cc pc = .ok (.getfield ix, 3)) (hw : Cond.fieldLink own ix "RingDevices$Loans" "saw" "I" ∈ TB) (hv : v 51 = x) (h : JW κ k n (WD ε ad v f u g) (pc + 3) lv (.int x :: st)) : JW κ k n (WD ε ad v f u g) pc lv (.ref (ad 20) :: st) := by
  subst hv
  exact j_get C hd 20 wl_20 inX4 rfl 3 (by decide) hw rfl rfl h
theorem ws_20_saw {x : Int32} : (WD ε ad v f u g).set 20 (ad 20, .inr (4, [.ref (ad 21), .int (v 49), .int (v 50), .int (v 51), .int (v 52)].set 3 (.int x))) = WD ε ad (upd v 51 x) f u g := rfl
theorem p_20_saw (C : CX κ ε own cc nL ret fr lo mc ms) {ix : Nat} {x : Int32} (hd : decode cc pc = .ok (.putfield ix, 3)) (hw : Cond.fieldLink own ix "RingDevices$Loans" "saw" "I" ∈ TB) (h : JW κ k n (WD ε ad (upd v 51 x) f u g) (pc + 3) lv st) : JW κ k n (WD ε ad v f u g) pc lv (.int x :: .ref (ad 20) :: st) := j_put C hd 20 wl_20 inX4 tyX4 tyX4_ok nmX4 rfl 3 (by decide) hw rfl rfl rfl rfl (Nat.le_of_ble_eq_true rfl) ws_20_saw h
theorem g_20_latestWritten (C : CX κ ε own cc nL ret fr lo mc ms) {ix : Nat} {x : Int32} (hd : decode cc pc = .ok (.getfield ix, 3)) (hw : Cond.fieldLink own ix "RingDevices$Loans" "latestWritten" "I" ∈ TB) (hv : v 52 = x) (h : JW κ k n (WD ε ad v f u g) (pc + 3) lv (.int x :: st)) : JW κ k n (WD ε ad v f u g) pc lv (.ref (ad 20) :: st) := by
  subst hv
  exact j_get C hd 20 wl_20 inX4 rfl 4 (by decide) hw rfl rfl h
theorem ws_20_latestWritten {x : Int32} : (WD ε ad v f u g).set 20 (ad 20, .inr (4, [.ref (ad 21), .int (v 49), .int (v 50), .int (v 51), .int (v 52)].set 4 (.int x))) = WD ε ad (upd v 52 x) f u g := rfl
theorem p_20_latestWritten (C : CX κ ε own cc nL ret fr lo mc ms) {ix : Nat} {x : Int32} (hd : decode cc pc = .ok (.putfield ix, 3)) (hw : Cond.fieldLink own ix "RingDevices$Loans" "latestWritten" "I" ∈ TB) (h : JW κ k n (WD ε ad (upd v 52 x) f u g) (pc + 3) lv st) : JW κ k n (WD ε ad v f u g) pc lv (.int x :: .ref (ad 20) :: st) := j_put C hd 20 wl_20 inX4 tyX4 tyX4_ok nmX4 rfl 4 (by decide) hw rfl rfl rfl rfl (Nat.le_of_ble_eq_true rfl) ws_20_latestWritten h
theorem al_21 (C : CX κ ε own cc nL ret fr lo mc ms) {i : Int32} {F : Nat → Int32} (hd : decode cc pc = .ok (.iaload, 1)) (hin : vp_in i 8) (hF : f 21 = F) (h : JW κ k n (WD ε ad v f u g) (pc + 1) lv (.int (F i.toNatClampNeg) :: st)) : JW κ k n (WD ε ad v f u g) pc lv (.int i :: .ref (ad 21) :: st) := by
  subst hF
  exact j_iald C hd 21 wl_21 hin h
theorem wt_21 {F : Nat → Int32} : (WD ε ad v f u g).set 21 (ad 21, .inl (ε.2.2.1, 8, .inl F)) = WD ε ad v (va_up f 21 F) u g := rfl
theorem as_21 (C : CX κ ε own cc nL ret fr lo mc ms) {i x : Int32} {F F2 : Nat → Int32} (hd : decode cc pc = .ok (.iastore, 1)) (hin : vp_in i 8) (hF : f 21 = F2) (hF2 : upd F2 i.toNatClampNeg x = F) (h : JW κ k n (WD ε ad v (va_up f 21 F) u g) (pc + 1) lv st) : JW κ k n (WD ε ad v f u g) pc lv (.int x :: .int i :: .ref (ad 21) :: st) := by
  subst hF; subst hF2
  exact j_iast C hd 21 wl_21 hin wt_21 h
theorem an_21 (C : CX κ ε own cc nL ret fr lo mc ms) (hd : decode cc pc = .ok (.arraylength, 1)) (h : JW κ k n (WD ε ad v f u g) (pc + 1) lv (.int 8 :: st)) : JW κ k n (WD ε ad v f u g) pc lv (.ref (ad 21) :: st) := j_alen C hd 21 1 wl_21 rfl rfl h
theorem g_22_memory (C : CX κ ε own cc nL ret fr lo mc ms) {ix : Nat} (hd : decode cc pc = .ok (.getfield ix, 3)) (hw : Cond.fieldLink own ix "RingDevicesModel" "memory" "[B" ∈ TB) (h : JW κ k n (WD ε ad v f u g) (pc + 3) lv (.ref (ad 23) :: st)) : JW κ k n (WD ε ad v f u g) pc lv (.ref (ad 22) :: st) := j_get C hd 22 wl_22 inX9 rfl 0 (by decide) hw rfl rfl h
theorem g_22_disk (C : CX κ ε own cc nL ret fr lo mc ms) {ix : Nat} (hd : decode cc pc = .ok (.getfield ix, 3)) (hw : Cond.fieldLink own ix "RingDevicesModel" "disk" "[B" ∈ TB) (h : JW κ k n (WD ε ad v f u g) (pc + 3) lv (.ref (ad 24) :: st)) : JW κ k n (WD ε ad v f u g) pc lv (.ref (ad 22) :: st) := j_get C hd 22 wl_22 inX9 rfl 1 (by decide) hw rfl rfl h
theorem g_22_state (C : CX κ ε own cc nL ret fr lo mc ms) {ix : Nat} {x : Int32} (hd : decode cc pc = .ok (.getfield ix, 3)) (hw : Cond.fieldLink own ix "RingDevicesModel" "state" "I" ∈ TB) (hv : u 0 = x) (h : JW κ k n (WD ε ad v f u g) (pc + 3) lv (.int x :: st)) : JW κ k n (WD ε ad v f u g) pc lv (.ref (ad 22) :: st) := by
  subst hv
  exact j_get C hd 22 wl_22 inX9 rfl 2 (by decide) hw rfl rfl h
theorem ws_22_state {x : Int32} : (WD ε ad v f u g).set 22 (ad 22, .inr (9, [.ref (ad 23), .ref (ad 24), .int (u 0), .int (u 1), .int (u 2), .ref (ad 25), .ref (ad 26), .ref (ad 27), .ref (ad 28), .ref (ad 29), .ref (ad 30), .ref (ad 31), .int (u 3), .ref (ad 32), .ref (ad 33), .int (u 4), .int (u 5), .ref (ad 34), .ref (ad 35), .int (u 6), .int (u 7), .int (u 8), .ref (ad 36), .ref (ad 37), .int (u 9), .int (u 10), .int (u 11), .ref (ad 38), .ref (ad 39), .ref (ad 40), .ref (ad 41), .ref (ad 42)].set 2 (.int x))) = WD ε ad v f (upd u 0 x) g := rfl
theorem p_22_state (C : CX κ ε own cc nL ret fr lo mc ms) {ix : Nat} {x : Int32} (hd : decode cc pc = .ok (.putfield ix, 3)) (hw : Cond.fieldLink own ix "RingDevicesModel" "state" "I" ∈ TB) (h : JW κ k n (WD ε ad v f (upd u 0 x) g) (pc + 3) lv st) : JW κ k n (WD ε ad v f u g) pc lv (.int x :: .ref (ad 22) :: st) := j_put C hd 22 wl_22 inX9 tyX9 tyX9_ok nmX9 rfl 2 (by decide) hw rfl rfl rfl rfl (Nat.le_of_ble_eq_true rfl) ws_22_state h
theorem g_22_tables (C : CX κ ε own cc nL ret fr lo mc ms) {ix : Nat} {x : Int32} (hd : decode cc pc = .ok (.getfield ix, 3)) (hw : Cond.fieldLink own ix "RingDevicesModel" "tables" "Z" ∈ TB) (hv : u 1 = x) (h : JW κ k n (WD ε ad v f u g) (pc + 3) lv (.int x :: st)) : JW κ k n (WD ε ad v f u g) pc lv (.ref (ad 22) :: st) := by
  subst hv
  exact j_get C hd 22 wl_22 inX9 rfl 3 (by decide) hw rfl rfl h
theorem ws_22_tables {x : Int32} : (WD ε ad v f u g).set 22 (ad 22, .inr (9, [.ref (ad 23), .ref (ad 24), .int (u 0), .int (u 1), .int (u 2), .ref (ad 25), .ref (ad 26), .ref (ad 27), .ref (ad 28), .ref (ad 29), .ref (ad 30), .ref (ad 31), .int (u 3), .ref (ad 32), .ref (ad 33), .int (u 4), .int (u 5), .ref (ad 34), .ref (ad 35), .int (u 6), .int (u 7), .int (u 8), .ref (ad 36), .ref (ad 37), .int (u 9), .int (u 10), .int (u 11), .ref (ad 38), .ref (ad 39), .ref (ad 40), .ref (ad 41), .ref (ad 42)].set 3 (.int x))) = WD ε ad v f (upd u 1 x) g := rfl
theorem p_22_tables (C : CX κ ε own cc nL ret fr lo mc ms) {ix : Nat} {x : Int32} (hd : decode cc pc = .ok (.putfield ix, 3)) (hw : Cond.fieldLink own ix "RingDevicesModel" "tables" "Z" ∈ TB) (hb : x = 0 ∨ x = 1) (h : JW κ k n (WD ε ad v f (upd u 1 x) g) (pc + 3) lv st) : JW κ k n (WD ε ad v f u g) pc lv (.int x :: .ref (ad 22) :: st) := j_put C hd 22 wl_22 inX9 tyX9 tyX9_ok nmX9 rfl 3 (by decide) hw rfl rfl (nb_b hb).1 (nb_b hb).2 (Nat.le_of_ble_eq_true rfl) ws_22_tables h
theorem g_22_started (C : CX κ ε own cc nL ret fr lo mc ms) {ix : Nat} {x : Int32} (hd : decode cc pc = .ok (.getfield ix, 3)) (hw : Cond.fieldLink own ix "RingDevicesModel" "started" "Z" ∈ TB) (hv : u 2 = x) (h : JW κ k n (WD ε ad v f u g) (pc + 3) lv (.int x :: st)) : JW κ k n (WD ε ad v f u g) pc lv (.ref (ad 22) :: st) := by
  subst hv
  exact j_get C hd 22 wl_22 inX9 rfl 4 (by decide) hw rfl rfl h
theorem ws_22_started {x : Int32} : (WD ε ad v f u g).set 22 (ad 22, .inr (9, [.ref (ad 23), .ref (ad 24), .int (u 0), .int (u 1), .int (u 2), .ref (ad 25), .ref (ad 26), .ref (ad 27), .ref (ad 28), .ref (ad 29), .ref (ad 30), .ref (ad 31), .int (u 3), .ref (ad 32), .ref (ad 33), .int (u 4), .int (u 5), .ref (ad 34), .ref (ad 35), .int (u 6), .int (u 7), .int (u 8), .ref (ad 36), .ref (ad 37), .int (u 9), .int (u 10), .int (u 11), .ref (ad 38), .ref (ad 39), .ref (ad 40), .ref (ad 41), .ref (ad 42)].set 4 (.int x))) = WD ε ad v f (upd u 2 x) g := rfl
theorem p_22_started (C : CX κ ε own cc nL ret fr lo mc ms) {ix : Nat} {x : Int32} (hd : decode cc pc = .ok (.putfield ix, 3)) (hw : Cond.fieldLink own ix "RingDevicesModel" "started" "Z" ∈ TB) (hb : x = 0 ∨ x = 1) (h : JW κ k n (WD ε ad v f (upd u 2 x) g) (pc + 3) lv st) : JW κ k n (WD ε ad v f u g) pc lv (.int x :: .ref (ad 22) :: st) := j_put C hd 22 wl_22 inX9 tyX9 tyX9_ok nmX9 rfl 4 (by decide) hw rfl rfl (nb_b hb).1 (nb_b hb).2 (Nat.le_of_ble_eq_true rfl) ws_22_started h
theorem g_22_sizes (C : CX κ ε own cc nL ret fr lo mc ms) {ix : Nat} (hd : decode cc pc = .ok (.getfield ix, 3)) (hw : Cond.fieldLink own ix "RingDevicesModel" "sizes" "[I" ∈ TB) (h : JW κ k n (WD ε ad v f u g) (pc + 3) lv (.ref (ad 25) :: st)) : JW κ k n (WD ε ad v f u g) pc lv (.ref (ad 22) :: st) := j_get C hd 22 wl_22 inX9 rfl 5 (by decide) hw rfl rfl h
theorem g_22_descriptors (C : CX κ ε own cc nL ret fr lo mc ms) {ix : Nat} (hd : decode cc pc = .ok (.getfield ix, 3)) (hw : Cond.fieldLink own ix "RingDevicesModel" "descriptors" "[I" ∈ TB) (h : JW κ k n (WD ε ad v f u g) (pc + 3) lv (.ref (ad 26) :: st)) : JW κ k n (WD ε ad v f u g) pc lv (.ref (ad 22) :: st) := j_get C hd 22 wl_22 inX9 rfl 6 (by decide) hw rfl rfl h
theorem g_22_availables (C : CX κ ε own cc nL ret fr lo mc ms) {ix : Nat} (hd : decode cc pc = .ok (.getfield ix, 3)) (hw : Cond.fieldLink own ix "RingDevicesModel" "availables" "[I" ∈ TB) (h : JW κ k n (WD ε ad v f u g) (pc + 3) lv (.ref (ad 27) :: st)) : JW κ k n (WD ε ad v f u g) pc lv (.ref (ad 22) :: st) := j_get C hd 22 wl_22 inX9 rfl 7 (by decide) hw rfl rfl h
theorem g_22_useds (C : CX κ ε own cc nL ret fr lo mc ms) {ix : Nat} (hd : decode cc pc = .ok (.getfield ix, 3)) (hw : Cond.fieldLink own ix "RingDevicesModel" "useds" "[I" ∈ TB) (h : JW κ k n (WD ε ad v f u g) (pc + 3) lv (.ref (ad 28) :: st)) : JW κ k n (WD ε ad v f u g) pc lv (.ref (ad 22) :: st) := j_get C hd 22 wl_22 inX9 rfl 8 (by decide) hw rfl rfl h
theorem g_22_takens (C : CX κ ε own cc nL ret fr lo mc ms) {ix : Nat} (hd : decode cc pc = .ok (.getfield ix, 3)) (hw : Cond.fieldLink own ix "RingDevicesModel" "takens" "[I" ∈ TB) (h : JW κ k n (WD ε ad v f u g) (pc + 3) lv (.ref (ad 29) :: st)) : JW κ k n (WD ε ad v f u g) pc lv (.ref (ad 22) :: st) := j_get C hd 22 wl_22 inX9 rfl 9 (by decide) hw rfl rfl h
theorem g_22_givens (C : CX κ ε own cc nL ret fr lo mc ms) {ix : Nat} (hd : decode cc pc = .ok (.getfield ix, 3)) (hw : Cond.fieldLink own ix "RingDevicesModel" "givens" "[I" ∈ TB) (h : JW κ k n (WD ε ad v f u g) (pc + 3) lv (.ref (ad 30) :: st)) : JW κ k n (WD ε ad v f u g) pc lv (.ref (ad 22) :: st) := j_get C hd 22 wl_22 inX9 rfl 10 (by decide) hw rfl rfl h
theorem g_22_signals (C : CX κ ε own cc nL ret fr lo mc ms) {ix : Nat} (hd : decode cc pc = .ok (.getfield ix, 3)) (hw : Cond.fieldLink own ix "RingDevicesModel" "signals" "[I" ∈ TB) (h : JW κ k n (WD ε ad v f u g) (pc + 3) lv (.ref (ad 31) :: st)) : JW κ k n (WD ε ad v f u g) pc lv (.ref (ad 22) :: st) := j_get C hd 22 wl_22 inX9 rfl 11 (by decide) hw rfl rfl h
theorem g_22_head (C : CX κ ε own cc nL ret fr lo mc ms) {ix : Nat} {x : Int32} (hd : decode cc pc = .ok (.getfield ix, 3)) (hw : Cond.fieldLink own ix "RingDevicesModel" "head" "I" ∈ TB) (hv : u 3 = x) (h : JW κ k n (WD ε ad v f u g) (pc + 3) lv (.int x :: st)) : JW κ k n (WD ε ad v f u g) pc lv (.ref (ad 22) :: st) := by
  subst hv
  exact j_get C hd 22 wl_22 inX9 rfl 12 (by decide) hw rfl rfl h
theorem ws_22_head {x : Int32} : (WD ε ad v f u g).set 22 (ad 22, .inr (9, [.ref (ad 23), .ref (ad 24), .int (u 0), .int (u 1), .int (u 2), .ref (ad 25), .ref (ad 26), .ref (ad 27), .ref (ad 28), .ref (ad 29), .ref (ad 30), .ref (ad 31), .int (u 3), .ref (ad 32), .ref (ad 33), .int (u 4), .int (u 5), .ref (ad 34), .ref (ad 35), .int (u 6), .int (u 7), .int (u 8), .ref (ad 36), .ref (ad 37), .int (u 9), .int (u 10), .int (u 11), .ref (ad 38), .ref (ad 39), .ref (ad 40), .ref (ad 41), .ref (ad 42)].set 12 (.int x))) = WD ε ad v f (upd u 3 x) g := rfl
theorem p_22_head (C : CX κ ε own cc nL ret fr lo mc ms) {ix : Nat} {x : Int32} (hd : decode cc pc = .ok (.putfield ix, 3)) (hw : Cond.fieldLink own ix "RingDevicesModel" "head" "I" ∈ TB) (h : JW κ k n (WD ε ad v f (upd u 3 x) g) (pc + 3) lv st) : JW κ k n (WD ε ad v f u g) pc lv (.int x :: .ref (ad 22) :: st) := j_put C hd 22 wl_22 inX9 tyX9 tyX9_ok nmX9 rfl 12 (by decide) hw rfl rfl rfl rfl (Nat.le_of_ble_eq_true rfl) ws_22_head h
theorem g_22_reads (C : CX κ ε own cc nL ret fr lo mc ms) {ix : Nat} (hd : decode cc pc = .ok (.getfield ix, 3)) (hw : Cond.fieldLink own ix "RingDevicesModel" "reads" "[I" ∈ TB) (h : JW κ k n (WD ε ad v f u g) (pc + 3) lv (.ref (ad 32) :: st)) : JW κ k n (WD ε ad v f u g) pc lv (.ref (ad 22) :: st) := j_get C hd 22 wl_22 inX9 rfl 13 (by decide) hw rfl rfl h
theorem g_22_readSizes (C : CX κ ε own cc nL ret fr lo mc ms) {ix : Nat} (hd : decode cc pc = .ok (.getfield ix, 3)) (hw : Cond.fieldLink own ix "RingDevicesModel" "readSizes" "[I" ∈ TB) (h : JW κ k n (WD ε ad v f u g) (pc + 3) lv (.ref (ad 33) :: st)) : JW κ k n (WD ε ad v f u g) pc lv (.ref (ad 22) :: st) := j_get C hd 22 wl_22 inX9 rfl 14 (by decide) hw rfl rfl h
theorem g_22_readMany (C : CX κ ε own cc nL ret fr lo mc ms) {ix : Nat} {x : Int32} (hd : decode cc pc = .ok (.getfield ix, 3)) (hw : Cond.fieldLink own ix "RingDevicesModel" "readMany" "I" ∈ TB) (hv : u 4 = x) (h : JW κ k n (WD ε ad v f u g) (pc + 3) lv (.int x :: st)) : JW κ k n (WD ε ad v f u g) pc lv (.ref (ad 22) :: st) := by
  subst hv
  exact j_get C hd 22 wl_22 inX9 rfl 15 (by decide) hw rfl rfl h
theorem ws_22_readMany {x : Int32} : (WD ε ad v f u g).set 22 (ad 22, .inr (9, [.ref (ad 23), .ref (ad 24), .int (u 0), .int (u 1), .int (u 2), .ref (ad 25), .ref (ad 26), .ref (ad 27), .ref (ad 28), .ref (ad 29), .ref (ad 30), .ref (ad 31), .int (u 3), .ref (ad 32), .ref (ad 33), .int (u 4), .int (u 5), .ref (ad 34), .ref (ad 35), .int (u 6), .int (u 7), .int (u 8), .ref (ad 36), .ref (ad 37), .int (u 9), .int (u 10), .int (u 11), .ref (ad 38), .ref (ad 39), .ref (ad 40), .ref (ad 41), .ref (ad 42)].set 15 (.int x))) = WD ε ad v f (upd u 4 x) g := rfl
theorem p_22_readMany (C : CX κ ε own cc nL ret fr lo mc ms) {ix : Nat} {x : Int32} (hd : decode cc pc = .ok (.putfield ix, 3)) (hw : Cond.fieldLink own ix "RingDevicesModel" "readMany" "I" ∈ TB) (h : JW κ k n (WD ε ad v f (upd u 4 x) g) (pc + 3) lv st) : JW κ k n (WD ε ad v f u g) pc lv (.int x :: .ref (ad 22) :: st) := j_put C hd 22 wl_22 inX9 tyX9 tyX9_ok nmX9 rfl 15 (by decide) hw rfl rfl rfl rfl (Nat.le_of_ble_eq_true rfl) ws_22_readMany h
theorem g_22_readAll (C : CX κ ε own cc nL ret fr lo mc ms) {ix : Nat} {x : Int32} (hd : decode cc pc = .ok (.getfield ix, 3)) (hw : Cond.fieldLink own ix "RingDevicesModel" "readAll" "I" ∈ TB) (hv : u 5 = x) (h : JW κ k n (WD ε ad v f u g) (pc + 3) lv (.int x :: st)) : JW κ k n (WD ε ad v f u g) pc lv (.ref (ad 22) :: st) := by
  subst hv
  exact j_get C hd 22 wl_22 inX9 rfl 16 (by decide) hw rfl rfl h
theorem ws_22_readAll {x : Int32} : (WD ε ad v f u g).set 22 (ad 22, .inr (9, [.ref (ad 23), .ref (ad 24), .int (u 0), .int (u 1), .int (u 2), .ref (ad 25), .ref (ad 26), .ref (ad 27), .ref (ad 28), .ref (ad 29), .ref (ad 30), .ref (ad 31), .int (u 3), .ref (ad 32), .ref (ad 33), .int (u 4), .int (u 5), .ref (ad 34), .ref (ad 35), .int (u 6), .int (u 7), .int (u 8), .ref (ad 36), .ref (ad 37), .int (u 9), .int (u 10), .int (u 11), .ref (ad 38), .ref (ad 39), .ref (ad 40), .ref (ad 41), .ref (ad 42)].set 16 (.int x))) = WD ε ad v f (upd u 5 x) g := rfl
theorem p_22_readAll (C : CX κ ε own cc nL ret fr lo mc ms) {ix : Nat} {x : Int32} (hd : decode cc pc = .ok (.putfield ix, 3)) (hw : Cond.fieldLink own ix "RingDevicesModel" "readAll" "I" ∈ TB) (h : JW κ k n (WD ε ad v f (upd u 5 x) g) (pc + 3) lv st) : JW κ k n (WD ε ad v f u g) pc lv (.int x :: .ref (ad 22) :: st) := j_put C hd 22 wl_22 inX9 tyX9 tyX9_ok nmX9 rfl 16 (by decide) hw rfl rfl rfl rfl (Nat.le_of_ble_eq_true rfl) ws_22_readAll h
theorem g_22_writes (C : CX κ ε own cc nL ret fr lo mc ms) {ix : Nat} (hd : decode cc pc = .ok (.getfield ix, 3)) (hw : Cond.fieldLink own ix "RingDevicesModel" "writes" "[I" ∈ TB) (h : JW κ k n (WD ε ad v f u g) (pc + 3) lv (.ref (ad 34) :: st)) : JW κ k n (WD ε ad v f u g) pc lv (.ref (ad 22) :: st) := j_get C hd 22 wl_22 inX9 rfl 17 (by decide) hw rfl rfl h
theorem g_22_writeSizes (C : CX κ ε own cc nL ret fr lo mc ms) {ix : Nat} (hd : decode cc pc = .ok (.getfield ix, 3)) (hw : Cond.fieldLink own ix "RingDevicesModel" "writeSizes" "[I" ∈ TB) (h : JW κ k n (WD ε ad v f u g) (pc + 3) lv (.ref (ad 35) :: st)) : JW κ k n (WD ε ad v f u g) pc lv (.ref (ad 22) :: st) := j_get C hd 22 wl_22 inX9 rfl 18 (by decide) hw rfl rfl h
theorem g_22_writeMany (C : CX κ ε own cc nL ret fr lo mc ms) {ix : Nat} {x : Int32} (hd : decode cc pc = .ok (.getfield ix, 3)) (hw : Cond.fieldLink own ix "RingDevicesModel" "writeMany" "I" ∈ TB) (hv : u 6 = x) (h : JW κ k n (WD ε ad v f u g) (pc + 3) lv (.int x :: st)) : JW κ k n (WD ε ad v f u g) pc lv (.ref (ad 22) :: st) := by
  subst hv
  exact j_get C hd 22 wl_22 inX9 rfl 19 (by decide) hw rfl rfl h
theorem ws_22_writeMany {x : Int32} : (WD ε ad v f u g).set 22 (ad 22, .inr (9, [.ref (ad 23), .ref (ad 24), .int (u 0), .int (u 1), .int (u 2), .ref (ad 25), .ref (ad 26), .ref (ad 27), .ref (ad 28), .ref (ad 29), .ref (ad 30), .ref (ad 31), .int (u 3), .ref (ad 32), .ref (ad 33), .int (u 4), .int (u 5), .ref (ad 34), .ref (ad 35), .int (u 6), .int (u 7), .int (u 8), .ref (ad 36), .ref (ad 37), .int (u 9), .int (u 10), .int (u 11), .ref (ad 38), .ref (ad 39), .ref (ad 40), .ref (ad 41), .ref (ad 42)].set 19 (.int x))) = WD ε ad v f (upd u 6 x) g := rfl
theorem p_22_writeMany (C : CX κ ε own cc nL ret fr lo mc ms) {ix : Nat} {x : Int32} (hd : decode cc pc = .ok (.putfield ix, 3)) (hw : Cond.fieldLink own ix "RingDevicesModel" "writeMany" "I" ∈ TB) (h : JW κ k n (WD ε ad v f (upd u 6 x) g) (pc + 3) lv st) : JW κ k n (WD ε ad v f u g) pc lv (.int x :: .ref (ad 22) :: st) := j_put C hd 22 wl_22 inX9 tyX9 tyX9_ok nmX9 rfl 19 (by decide) hw rfl rfl rfl rfl (Nat.le_of_ble_eq_true rfl) ws_22_writeMany h
theorem g_22_writeAll (C : CX κ ε own cc nL ret fr lo mc ms) {ix : Nat} {x : Int32} (hd : decode cc pc = .ok (.getfield ix, 3)) (hw : Cond.fieldLink own ix "RingDevicesModel" "writeAll" "I" ∈ TB) (hv : u 7 = x) (h : JW κ k n (WD ε ad v f u g) (pc + 3) lv (.int x :: st)) : JW κ k n (WD ε ad v f u g) pc lv (.ref (ad 22) :: st) := by
  subst hv
  exact j_get C hd 22 wl_22 inX9 rfl 20 (by decide) hw rfl rfl h
theorem ws_22_writeAll {x : Int32} : (WD ε ad v f u g).set 22 (ad 22, .inr (9, [.ref (ad 23), .ref (ad 24), .int (u 0), .int (u 1), .int (u 2), .ref (ad 25), .ref (ad 26), .ref (ad 27), .ref (ad 28), .ref (ad 29), .ref (ad 30), .ref (ad 31), .int (u 3), .ref (ad 32), .ref (ad 33), .int (u 4), .int (u 5), .ref (ad 34), .ref (ad 35), .int (u 6), .int (u 7), .int (u 8), .ref (ad 36), .ref (ad 37), .int (u 9), .int (u 10), .int (u 11), .ref (ad 38), .ref (ad 39), .ref (ad 40), .ref (ad 41), .ref (ad 42)].set 20 (.int x))) = WD ε ad v f (upd u 7 x) g := rfl
theorem p_22_writeAll (C : CX κ ε own cc nL ret fr lo mc ms) {ix : Nat} {x : Int32} (hd : decode cc pc = .ok (.putfield ix, 3)) (hw : Cond.fieldLink own ix "RingDevicesModel" "writeAll" "I" ∈ TB) (h : JW κ k n (WD ε ad v f (upd u 7 x) g) (pc + 3) lv st) : JW κ k n (WD ε ad v f u g) pc lv (.int x :: .ref (ad 22) :: st) := j_put C hd 22 wl_22 inX9 tyX9 tyX9_ok nmX9 rfl 20 (by decide) hw rfl rfl rfl rfl (Nat.le_of_ble_eq_true rfl) ws_22_writeAll h
theorem g_22_bad (C : CX κ ε own cc nL ret fr lo mc ms) {ix : Nat} {x : Int32} (hd : decode cc pc = .ok (.getfield ix, 3)) (hw : Cond.fieldLink own ix "RingDevicesModel" "bad" "Z" ∈ TB) (hv : u 8 = x) (h : JW κ k n (WD ε ad v f u g) (pc + 3) lv (.int x :: st)) : JW κ k n (WD ε ad v f u g) pc lv (.ref (ad 22) :: st) := by
  subst hv
  exact j_get C hd 22 wl_22 inX9 rfl 21 (by decide) hw rfl rfl h
theorem ws_22_bad {x : Int32} : (WD ε ad v f u g).set 22 (ad 22, .inr (9, [.ref (ad 23), .ref (ad 24), .int (u 0), .int (u 1), .int (u 2), .ref (ad 25), .ref (ad 26), .ref (ad 27), .ref (ad 28), .ref (ad 29), .ref (ad 30), .ref (ad 31), .int (u 3), .ref (ad 32), .ref (ad 33), .int (u 4), .int (u 5), .ref (ad 34), .ref (ad 35), .int (u 6), .int (u 7), .int (u 8), .ref (ad 36), .ref (ad 37), .int (u 9), .int (u 10), .int (u 11), .ref (ad 38), .ref (ad 39), .ref (ad 40), .ref (ad 41), .ref (ad 42)].set 21 (.int x))) = WD ε ad v f (upd u 8 x) g := rfl
theorem p_22_bad (C : CX κ ε own cc nL ret fr lo mc ms) {ix : Nat} {x : Int32} (hd : decode cc pc = .ok (.putfield ix, 3)) (hw : Cond.fieldLink own ix "RingDevicesModel" "bad" "Z" ∈ TB) (hb : x = 0 ∨ x = 1) (h : JW κ k n (WD ε ad v f (upd u 8 x) g) (pc + 3) lv st) : JW κ k n (WD ε ad v f u g) pc lv (.int x :: .ref (ad 22) :: st) := j_put C hd 22 wl_22 inX9 tyX9 tyX9_ok nmX9 rfl 21 (by decide) hw rfl rfl (nb_b hb).1 (nb_b hb).2 (Nat.le_of_ble_eq_true rfl) ws_22_bad h
theorem g_22_wires (C : CX κ ε own cc nL ret fr lo mc ms) {ix : Nat} (hd : decode cc pc = .ok (.getfield ix, 3)) (hw : Cond.fieldLink own ix "RingDevicesModel" "wires" "[B" ∈ TB) (h : JW κ k n (WD ε ad v f u g) (pc + 3) lv (.ref (ad 36) :: st)) : JW κ k n (WD ε ad v f u g) pc lv (.ref (ad 22) :: st) := j_get C hd 22 wl_22 inX9 rfl 22 (by decide) hw rfl rfl h
theorem g_22_wireSizes (C : CX κ ε own cc nL ret fr lo mc ms) {ix : Nat} (hd : decode cc pc = .ok (.getfield ix, 3)) (hw : Cond.fieldLink own ix "RingDevicesModel" "wireSizes" "[I" ∈ TB) (h : JW κ k n (WD ε ad v f u g) (pc + 3) lv (.ref (ad 37) :: st)) : JW κ k n (WD ε ad v f u g) pc lv (.ref (ad 22) :: st) := j_get C hd 22 wl_22 inX9 rfl 23 (by decide) hw rfl rfl h
theorem g_22_went (C : CX κ ε own cc nL ret fr lo mc ms) {ix : Nat} {x : Int32} (hd : decode cc pc = .ok (.getfield ix, 3)) (hw : Cond.fieldLink own ix "RingDevicesModel" "went" "I" ∈ TB) (hv : u 9 = x) (h : JW κ k n (WD ε ad v f u g) (pc + 3) lv (.int x :: st)) : JW κ k n (WD ε ad v f u g) pc lv (.ref (ad 22) :: st) := by
  subst hv
  exact j_get C hd 22 wl_22 inX9 rfl 24 (by decide) hw rfl rfl h
theorem ws_22_went {x : Int32} : (WD ε ad v f u g).set 22 (ad 22, .inr (9, [.ref (ad 23), .ref (ad 24), .int (u 0), .int (u 1), .int (u 2), .ref (ad 25), .ref (ad 26), .ref (ad 27), .ref (ad 28), .ref (ad 29), .ref (ad 30), .ref (ad 31), .int (u 3), .ref (ad 32), .ref (ad 33), .int (u 4), .int (u 5), .ref (ad 34), .ref (ad 35), .int (u 6), .int (u 7), .int (u 8), .ref (ad 36), .ref (ad 37), .int (u 9), .int (u 10), .int (u 11), .ref (ad 38), .ref (ad 39), .ref (ad 40), .ref (ad 41), .ref (ad 42)].set 24 (.int x))) = WD ε ad v f (upd u 9 x) g := rfl
theorem p_22_went (C : CX κ ε own cc nL ret fr lo mc ms) {ix : Nat} {x : Int32} (hd : decode cc pc = .ok (.putfield ix, 3)) (hw : Cond.fieldLink own ix "RingDevicesModel" "went" "I" ∈ TB) (h : JW κ k n (WD ε ad v f (upd u 9 x) g) (pc + 3) lv st) : JW κ k n (WD ε ad v f u g) pc lv (.int x :: .ref (ad 22) :: st) := j_put C hd 22 wl_22 inX9 tyX9 tyX9_ok nmX9 rfl 24 (by decide) hw rfl rfl rfl rfl (Nat.le_of_ble_eq_true rfl) ws_22_went h
theorem g_22_came (C : CX κ ε own cc nL ret fr lo mc ms) {ix : Nat} {x : Int32} (hd : decode cc pc = .ok (.getfield ix, 3)) (hw : Cond.fieldLink own ix "RingDevicesModel" "came" "I" ∈ TB) (hv : u 10 = x) (h : JW κ k n (WD ε ad v f u g) (pc + 3) lv (.int x :: st)) : JW κ k n (WD ε ad v f u g) pc lv (.ref (ad 22) :: st) := by
  subst hv
  exact j_get C hd 22 wl_22 inX9 rfl 25 (by decide) hw rfl rfl h
theorem ws_22_came {x : Int32} : (WD ε ad v f u g).set 22 (ad 22, .inr (9, [.ref (ad 23), .ref (ad 24), .int (u 0), .int (u 1), .int (u 2), .ref (ad 25), .ref (ad 26), .ref (ad 27), .ref (ad 28), .ref (ad 29), .ref (ad 30), .ref (ad 31), .int (u 3), .ref (ad 32), .ref (ad 33), .int (u 4), .int (u 5), .ref (ad 34), .ref (ad 35), .int (u 6), .int (u 7), .int (u 8), .ref (ad 36), .ref (ad 37), .int (u 9), .int (u 10), .int (u 11), .ref (ad 38), .ref (ad 39), .ref (ad 40), .ref (ad 41), .ref (ad 42)].set 25 (.int x))) = WD ε ad v f (upd u 10 x) g := rfl
theorem p_22_came (C : CX κ ε own cc nL ret fr lo mc ms) {ix : Nat} {x : Int32} (hd : decode cc pc = .ok (.putfield ix, 3)) (hw : Cond.fieldLink own ix "RingDevicesModel" "came" "I" ∈ TB) (h : JW κ k n (WD ε ad v f (upd u 10 x) g) (pc + 3) lv st) : JW κ k n (WD ε ad v f u g) pc lv (.int x :: .ref (ad 22) :: st) := j_put C hd 22 wl_22 inX9 tyX9 tyX9_ok nmX9 rfl 25 (by decide) hw rfl rfl rfl rfl (Nat.le_of_ble_eq_true rfl) ws_22_came h
theorem g_22_dropped (C : CX κ ε own cc nL ret fr lo mc ms) {ix : Nat} {x : Int32} (hd : decode cc pc = .ok (.getfield ix, 3)) (hw : Cond.fieldLink own ix "RingDevicesModel" "dropped" "I" ∈ TB) (hv : u 11 = x) (h : JW κ k n (WD ε ad v f u g) (pc + 3) lv (.int x :: st)) : JW κ k n (WD ε ad v f u g) pc lv (.ref (ad 22) :: st) := by
  subst hv
  exact j_get C hd 22 wl_22 inX9 rfl 26 (by decide) hw rfl rfl h
theorem ws_22_dropped {x : Int32} : (WD ε ad v f u g).set 22 (ad 22, .inr (9, [.ref (ad 23), .ref (ad 24), .int (u 0), .int (u 1), .int (u 2), .ref (ad 25), .ref (ad 26), .ref (ad 27), .ref (ad 28), .ref (ad 29), .ref (ad 30), .ref (ad 31), .int (u 3), .ref (ad 32), .ref (ad 33), .int (u 4), .int (u 5), .ref (ad 34), .ref (ad 35), .int (u 6), .int (u 7), .int (u 8), .ref (ad 36), .ref (ad 37), .int (u 9), .int (u 10), .int (u 11), .ref (ad 38), .ref (ad 39), .ref (ad 40), .ref (ad 41), .ref (ad 42)].set 26 (.int x))) = WD ε ad v f (upd u 11 x) g := rfl
theorem p_22_dropped (C : CX κ ε own cc nL ret fr lo mc ms) {ix : Nat} {x : Int32} (hd : decode cc pc = .ok (.putfield ix, 3)) (hw : Cond.fieldLink own ix "RingDevicesModel" "dropped" "I" ∈ TB) (h : JW κ k n (WD ε ad v f (upd u 11 x) g) (pc + 3) lv st) : JW κ k n (WD ε ad v f u g) pc lv (.int x :: .ref (ad 22) :: st) := j_put C hd 22 wl_22 inX9 tyX9 tyX9_ok nmX9 rfl 26 (by decide) hw rfl rfl rfl rfl (Nat.le_of_ble_eq_true rfl) ws_22_dropped h
theorem g_22_lent (C : CX κ ε own cc nL ret fr lo mc ms) {ix : Nat} (hd : decode cc pc = .ok (.getfield ix, 3)) (hw : Cond.fieldLink own ix "RingDevicesModel" "lent" "[Z" ∈ TB) (h : JW κ k n (WD ε ad v f u g) (pc + 3) lv (.ref (ad 38) :: st)) : JW κ k n (WD ε ad v f u g) pc lv (.ref (ad 22) :: st) := j_get C hd 22 wl_22 inX9 rfl 27 (by decide) hw rfl rfl h
theorem g_22_heads (C : CX κ ε own cc nL ret fr lo mc ms) {ix : Nat} (hd : decode cc pc = .ok (.getfield ix, 3)) (hw : Cond.fieldLink own ix "RingDevicesModel" "heads" "[I" ∈ TB) (h : JW κ k n (WD ε ad v f u g) (pc + 3) lv (.ref (ad 39) :: st)) : JW κ k n (WD ε ad v f u g) pc lv (.ref (ad 22) :: st) := j_get C hd 22 wl_22 inX9 rfl 28 (by decide) hw rfl rfl h
theorem g_22_counts (C : CX κ ε own cc nL ret fr lo mc ms) {ix : Nat} (hd : decode cc pc = .ok (.getfield ix, 3)) (hw : Cond.fieldLink own ix "RingDevicesModel" "counts" "[I" ∈ TB) (h : JW κ k n (WD ε ad v f u g) (pc + 3) lv (.ref (ad 40) :: st)) : JW κ k n (WD ε ad v f u g) pc lv (.ref (ad 22) :: st) := j_get C hd 22 wl_22 inX9 rfl 29 (by decide) hw rfl rfl h
theorem g_22_saws (C : CX κ ε own cc nL ret fr lo mc ms) {ix : Nat} (hd : decode cc pc = .ok (.getfield ix, 3)) (hw : Cond.fieldLink own ix "RingDevicesModel" "saws" "[I" ∈ TB) (h : JW κ k n (WD ε ad v f u g) (pc + 3) lv (.ref (ad 41) :: st)) : JW κ k n (WD ε ad v f u g) pc lv (.ref (ad 22) :: st) := j_get C hd 22 wl_22 inX9 rfl 30 (by decide) hw rfl rfl h
theorem g_22_written (C : CX κ ε own cc nL ret fr lo mc ms) {ix : Nat} (hd : decode cc pc = .ok (.getfield ix, 3)) (hw : Cond.fieldLink own ix "RingDevicesModel" "written" "[I" ∈ TB) (h : JW κ k n (WD ε ad v f u g) (pc + 3) lv (.ref (ad 42) :: st)) : JW κ k n (WD ε ad v f u g) pc lv (.ref (ad 22) :: st) := j_get C hd 22 wl_22 inX9 rfl 31 (by decide) hw rfl rfl h
theorem al_23 (C : CX κ ε own cc nL ret fr lo mc ms) {i : Int32} {F : Nat → Int32} (hd : decode cc pc = .ok (.baload, 1)) (hin : vp_in i 4096) (hF : g 23 = F) (h : JW κ k n (WD ε ad v f u g) (pc + 1) lv (.int (F i.toNatClampNeg) :: st)) : JW κ k n (WD ε ad v f u g) pc lv (.int i :: .ref (ad 23) :: st) := by
  subst hF
  exact j_bald C hd 23 wl_23 hin h
theorem wt_23 {F : Nat → Int32} : (WD ε ad v f u g).set 23 (ad 23, .inl (ε.2.1, 4096, .inl F)) = WD ε ad v f u (va_up g 23 F) := rfl
theorem as_23 (C : CX κ ε own cc nL ret fr lo mc ms) {i x : Int32} {F F2 : Nat → Int32} (hd : decode cc pc = .ok (.bastore, 1)) (hin : vp_in i 4096) (hF : g 23 = F2) (hF2 : upd F2 i.toNatClampNeg (vp_nar .byte x) = F) (h : JW κ k n (WD ε ad v f u (va_up g 23 F)) (pc + 1) lv st) : JW κ k n (WD ε ad v f u g) pc lv (.int x :: .int i :: .ref (ad 23) :: st) := by
  subst hF; subst hF2
  exact j_bast C hd 23 wl_23 hin wt_23 h
theorem aln_23 (C : CX κ ε own cc nL ret fr lo mc ms) {i : Int32} {q : Nat} {F : Nat → Int32} (hd : decode cc pc = .ok (.baload, 1)) (hq : q < 4096) (hi : i = nI q) (hF : g 23 = F) (h : JW κ k n (WD ε ad v f u g) (pc + 1) lv (.int (F q) :: st)) : JW κ k n (WD ε ad v f u g) pc lv (.int i :: .ref (ad 23) :: st) := by
  subst hF; subst hi
  refine al_23 C hd (vp_in_nI hq (by decide)) rfl ?_
  rw [nI_clamp (by omega)]
  exact h
theorem asn_23 (C : CX κ ε own cc nL ret fr lo mc ms) {i x : Int32} {q : Nat} {F F2 : Nat → Int32} (hd : decode cc pc = .ok (.bastore, 1)) (hq : q < 4096) (hi : i = nI q) (hF : g 23 = F2) (hF2 : upd F2 q (vp_nar .byte x) = F) (h : JW κ k n (WD ε ad v f u (va_up g 23 F)) (pc + 1) lv st) : JW κ k n (WD ε ad v f u g) pc lv (.int x :: .int i :: .ref (ad 23) :: st) := by
  subst hi
  exact as_23 C hd (vp_in_nI hq (by decide)) hF (by rw [nI_clamp (by omega)]; exact hF2) h
theorem an_23 (C : CX κ ε own cc nL ret fr lo mc ms) (hd : decode cc pc = .ok (.arraylength, 1)) (h : JW κ k n (WD ε ad v f u g) (pc + 1) lv (.int 4096 :: st)) : JW κ k n (WD ε ad v f u g) pc lv (.ref (ad 23) :: st) := j_alen C hd 23 0 wl_23 rfl rfl h
theorem al_24 (C : CX κ ε own cc nL ret fr lo mc ms) {i : Int32} {F : Nat → Int32} (hd : decode cc pc = .ok (.baload, 1)) (hin : vp_in i 2048) (hF : g 24 = F) (h : JW κ k n (WD ε ad v f u g) (pc + 1) lv (.int (F i.toNatClampNeg) :: st)) : JW κ k n (WD ε ad v f u g) pc lv (.int i :: .ref (ad 24) :: st) := by
  subst hF
  exact j_bald C hd 24 wl_24 hin h
theorem wt_24 {F : Nat → Int32} : (WD ε ad v f u g).set 24 (ad 24, .inl (ε.2.1, 2048, .inl F)) = WD ε ad v f u (va_up g 24 F) := rfl
theorem as_24 (C : CX κ ε own cc nL ret fr lo mc ms) {i x : Int32} {F F2 : Nat → Int32} (hd : decode cc pc = .ok (.bastore, 1)) (hin : vp_in i 2048) (hF : g 24 = F2) (hF2 : upd F2 i.toNatClampNeg (vp_nar .byte x) = F) (h : JW κ k n (WD ε ad v f u (va_up g 24 F)) (pc + 1) lv st) : JW κ k n (WD ε ad v f u g) pc lv (.int x :: .int i :: .ref (ad 24) :: st) := by
  subst hF; subst hF2
  exact j_bast C hd 24 wl_24 hin wt_24 h
theorem aln_24 (C : CX κ ε own cc nL ret fr lo mc ms) {i : Int32} {q : Nat} {F : Nat → Int32} (hd : decode cc pc = .ok (.baload, 1)) (hq : q < 2048) (hi : i = nI q) (hF : g 24 = F) (h : JW κ k n (WD ε ad v f u g) (pc + 1) lv (.int (F q) :: st)) : JW κ k n (WD ε ad v f u g) pc lv (.int i :: .ref (ad 24) :: st) := by
  subst hF; subst hi
  refine al_24 C hd (vp_in_nI hq (by decide)) rfl ?_
  rw [nI_clamp (by omega)]
  exact h
theorem asn_24 (C : CX κ ε own cc nL ret fr lo mc ms) {i x : Int32} {q : Nat} {F F2 : Nat → Int32} (hd : decode cc pc = .ok (.bastore, 1)) (hq : q < 2048) (hi : i = nI q) (hF : g 24 = F2) (hF2 : upd F2 q (vp_nar .byte x) = F) (h : JW κ k n (WD ε ad v f u (va_up g 24 F)) (pc + 1) lv st) : JW κ k n (WD ε ad v f u g) pc lv (.int x :: .int i :: .ref (ad 24) :: st) := by
  subst hi
  exact as_24 C hd (vp_in_nI hq (by decide)) hF (by rw [nI_clamp (by omega)]; exact hF2) h
theorem an_24 (C : CX κ ε own cc nL ret fr lo mc ms) (hd : decode cc pc = .ok (.arraylength, 1)) (h : JW κ k n (WD ε ad v f u g) (pc + 1) lv (.int 2048 :: st)) : JW κ k n (WD ε ad v f u g) pc lv (.ref (ad 24) :: st) := j_alen C hd 24 0 wl_24 rfl rfl h
theorem al_25 (C : CX κ ε own cc nL ret fr lo mc ms) {i : Int32} {F : Nat → Int32} (hd : decode cc pc = .ok (.iaload, 1)) (hin : vp_in i 3) (hF : g 25 = F) (h : JW κ k n (WD ε ad v f u g) (pc + 1) lv (.int (F i.toNatClampNeg) :: st)) : JW κ k n (WD ε ad v f u g) pc lv (.int i :: .ref (ad 25) :: st) := by
  subst hF
  exact j_iald C hd 25 wl_25 hin h
theorem wt_25 {F : Nat → Int32} : (WD ε ad v f u g).set 25 (ad 25, .inl (ε.2.2.1, 3, .inl F)) = WD ε ad v f u (va_up g 25 F) := rfl
theorem as_25 (C : CX κ ε own cc nL ret fr lo mc ms) {i x : Int32} {F F2 : Nat → Int32} (hd : decode cc pc = .ok (.iastore, 1)) (hin : vp_in i 3) (hF : g 25 = F2) (hF2 : upd F2 i.toNatClampNeg x = F) (h : JW κ k n (WD ε ad v f u (va_up g 25 F)) (pc + 1) lv st) : JW κ k n (WD ε ad v f u g) pc lv (.int x :: .int i :: .ref (ad 25) :: st) := by
  subst hF; subst hF2
  exact j_iast C hd 25 wl_25 hin wt_25 h
theorem aln_25 (C : CX κ ε own cc nL ret fr lo mc ms) {i : Int32} {q : Nat} {F : Nat → Int32} (hd : decode cc pc = .ok (.iaload, 1)) (hq : q < 3) (hi : i = nI q) (hF : g 25 = F) (h : JW κ k n (WD ε ad v f u g) (pc + 1) lv (.int (F q) :: st)) : JW κ k n (WD ε ad v f u g) pc lv (.int i :: .ref (ad 25) :: st) := by
  subst hF; subst hi
  refine al_25 C hd (vp_in_nI hq (by decide)) rfl ?_
  rw [nI_clamp (by omega)]
  exact h
theorem asn_25 (C : CX κ ε own cc nL ret fr lo mc ms) {i x : Int32} {q : Nat} {F F2 : Nat → Int32} (hd : decode cc pc = .ok (.iastore, 1)) (hq : q < 3) (hi : i = nI q) (hF : g 25 = F2) (hF2 : upd F2 q x = F) (h : JW κ k n (WD ε ad v f u (va_up g 25 F)) (pc + 1) lv st) : JW κ k n (WD ε ad v f u g) pc lv (.int x :: .int i :: .ref (ad 25) :: st) := by
  subst hi
  exact as_25 C hd (vp_in_nI hq (by decide)) hF (by rw [nI_clamp (by omega)]; exact hF2) h
theorem an_25 (C : CX κ ε own cc nL ret fr lo mc ms) (hd : decode cc pc = .ok (.arraylength, 1)) (h : JW κ k n (WD ε ad v f u g) (pc + 1) lv (.int 3 :: st)) : JW κ k n (WD ε ad v f u g) pc lv (.ref (ad 25) :: st) := j_alen C hd 25 1 wl_25 rfl rfl h
theorem al_26 (C : CX κ ε own cc nL ret fr lo mc ms) {i : Int32} {F : Nat → Int32} (hd : decode cc pc = .ok (.iaload, 1)) (hin : vp_in i 3) (hF : g 26 = F) (h : JW κ k n (WD ε ad v f u g) (pc + 1) lv (.int (F i.toNatClampNeg) :: st)) : JW κ k n (WD ε ad v f u g) pc lv (.int i :: .ref (ad 26) :: st) := by
  subst hF
  exact j_iald C hd 26 wl_26 hin h
theorem wt_26 {F : Nat → Int32} : (WD ε ad v f u g).set 26 (ad 26, .inl (ε.2.2.1, 3, .inl F)) = WD ε ad v f u (va_up g 26 F) := rfl
theorem as_26 (C : CX κ ε own cc nL ret fr lo mc ms) {i x : Int32} {F F2 : Nat → Int32} (hd : decode cc pc = .ok (.iastore, 1)) (hin : vp_in i 3) (hF : g 26 = F2) (hF2 : upd F2 i.toNatClampNeg x = F) (h : JW κ k n (WD ε ad v f u (va_up g 26 F)) (pc + 1) lv st) : JW κ k n (WD ε ad v f u g) pc lv (.int x :: .int i :: .ref (ad 26) :: st) := by
  subst hF; subst hF2
  exact j_iast C hd 26 wl_26 hin wt_26 h
theorem aln_26 (C : CX κ ε own cc nL ret fr lo mc ms) {i : Int32} {q : Nat} {F : Nat → Int32} (hd : decode cc pc = .ok (.iaload, 1)) (hq : q < 3) (hi : i = nI q) (hF : g 26 = F) (h : JW κ k n (WD ε ad v f u g) (pc + 1) lv (.int (F q) :: st)) : JW κ k n (WD ε ad v f u g) pc lv (.int i :: .ref (ad 26) :: st) := by
  subst hF; subst hi
  refine al_26 C hd (vp_in_nI hq (by decide)) rfl ?_
  rw [nI_clamp (by omega)]
  exact h
theorem asn_26 (C : CX κ ε own cc nL ret fr lo mc ms) {i x : Int32} {q : Nat} {F F2 : Nat → Int32} (hd : decode cc pc = .ok (.iastore, 1)) (hq : q < 3) (hi : i = nI q) (hF : g 26 = F2) (hF2 : upd F2 q x = F) (h : JW κ k n (WD ε ad v f u (va_up g 26 F)) (pc + 1) lv st) : JW κ k n (WD ε ad v f u g) pc lv (.int x :: .int i :: .ref (ad 26) :: st) := by
  subst hi
  exact as_26 C hd (vp_in_nI hq (by decide)) hF (by rw [nI_clamp (by omega)]; exact hF2) h
theorem an_26 (C : CX κ ε own cc nL ret fr lo mc ms) (hd : decode cc pc = .ok (.arraylength, 1)) (h : JW κ k n (WD ε ad v f u g) (pc + 1) lv (.int 3 :: st)) : JW κ k n (WD ε ad v f u g) pc lv (.ref (ad 26) :: st) := j_alen C hd 26 1 wl_26 rfl rfl h
theorem al_27 (C : CX κ ε own cc nL ret fr lo mc ms) {i : Int32} {F : Nat → Int32} (hd : decode cc pc = .ok (.iaload, 1)) (hin : vp_in i 3) (hF : g 27 = F) (h : JW κ k n (WD ε ad v f u g) (pc + 1) lv (.int (F i.toNatClampNeg) :: st)) : JW κ k n (WD ε ad v f u g) pc lv (.int i :: .ref (ad 27) :: st) := by
  subst hF
  exact j_iald C hd 27 wl_27 hin h
theorem wt_27 {F : Nat → Int32} : (WD ε ad v f u g).set 27 (ad 27, .inl (ε.2.2.1, 3, .inl F)) = WD ε ad v f u (va_up g 27 F) := rfl
theorem as_27 (C : CX κ ε own cc nL ret fr lo mc ms) {i x : Int32} {F F2 : Nat → Int32} (hd : decode cc pc = .ok (.iastore, 1)) (hin : vp_in i 3) (hF : g 27 = F2) (hF2 : upd F2 i.toNatClampNeg x = F) (h : JW κ k n (WD ε ad v f u (va_up g 27 F)) (pc + 1) lv st) : JW κ k n (WD ε ad v f u g) pc lv (.int x :: .int i :: .ref (ad 27) :: st) := by
  subst hF; subst hF2
  exact j_iast C hd 27 wl_27 hin wt_27 h
theorem aln_27 (C : CX κ ε own cc nL ret fr lo mc ms) {i : Int32} {q : Nat} {F : Nat → Int32} (hd : decode cc pc = .ok (.iaload, 1)) (hq : q < 3) (hi : i = nI q) (hF : g 27 = F) (h : JW κ k n (WD ε ad v f u g) (pc + 1) lv (.int (F q) :: st)) : JW κ k n (WD ε ad v f u g) pc lv (.int i :: .ref (ad 27) :: st) := by
  subst hF; subst hi
  refine al_27 C hd (vp_in_nI hq (by decide)) rfl ?_
  rw [nI_clamp (by omega)]
  exact h
theorem asn_27 (C : CX κ ε own cc nL ret fr lo mc ms) {i x : Int32} {q : Nat} {F F2 : Nat → Int32} (hd : decode cc pc = .ok (.iastore, 1)) (hq : q < 3) (hi : i = nI q) (hF : g 27 = F2) (hF2 : upd F2 q x = F) (h : JW κ k n (WD ε ad v f u (va_up g 27 F)) (pc + 1) lv st) : JW κ k n (WD ε ad v f u g) pc lv (.int x :: .int i :: .ref (ad 27) :: st) := by
  subst hi
  exact as_27 C hd (vp_in_nI hq (by decide)) hF (by rw [nI_clamp (by omega)]; exact hF2) h
theorem an_27 (C : CX κ ε own cc nL ret fr lo mc ms) (hd : decode cc pc = .ok (.arraylength, 1)) (h : JW κ k n (WD ε ad v f u g) (pc + 1) lv (.int 3 :: st)) : JW κ k n (WD ε ad v f u g) pc lv (.ref (ad 27) :: st) := j_alen C hd 27 1 wl_27 rfl rfl h
theorem al_28 (C : CX κ ε own cc nL ret fr lo mc ms) {i : Int32} {F : Nat → Int32} (hd : decode cc pc = .ok (.iaload, 1)) (hin : vp_in i 3) (hF : g 28 = F) (h : JW κ k n (WD ε ad v f u g) (pc + 1) lv (.int (F i.toNatClampNeg) :: st)) : JW κ k n (WD ε ad v f u g) pc lv (.int i :: .ref (ad 28) :: st) := by
  subst hF
  exact j_iald C hd 28 wl_28 hin h
theorem wt_28 {F : Nat → Int32} : (WD ε ad v f u g).set 28 (ad 28, .inl (ε.2.2.1, 3, .inl F)) = WD ε ad v f u (va_up g 28 F) := rfl
theorem as_28 (C : CX κ ε own cc nL ret fr lo mc ms) {i x : Int32} {F F2 : Nat → Int32} (hd : decode cc pc = .ok (.iastore, 1)) (hin : vp_in i 3) (hF : g 28 = F2) (hF2 : upd F2 i.toNatClampNeg x = F) (h : JW κ k n (WD ε ad v f u (va_up g 28 F)) (pc + 1) lv st) : JW κ k n (WD ε ad v f u g) pc lv (.int x :: .int i :: .ref (ad 28) :: st) := by
  subst hF; subst hF2
  exact j_iast C hd 28 wl_28 hin wt_28 h
theorem aln_28 (C : CX κ ε own cc nL ret fr lo mc ms) {i : Int32} {q : Nat} {F : Nat → Int32} (hd : decode cc pc = .ok (.iaload, 1)) (hq : q < 3) (hi : i = nI q) (hF : g 28 = F) (h : JW κ k n (WD ε ad v f u g) (pc + 1) lv (.int (F q) :: st)) : JW κ k n (WD ε ad v f u g) pc lv (.int i :: .ref (ad 28) :: st) := by
  subst hF; subst hi
  refine al_28 C hd (vp_in_nI hq (by decide)) rfl ?_
  rw [nI_clamp (by omega)]
  exact h
theorem asn_28 (C : CX κ ε own cc nL ret fr lo mc ms) {i x : Int32} {q : Nat} {F F2 : Nat → Int32} (hd : decode cc pc = .ok (.iastore, 1)) (hq : q < 3) (hi : i = nI q) (hF : g 28 = F2) (hF2 : upd F2 q x = F) (h : JW κ k n (WD ε ad v f u (va_up g 28 F)) (pc + 1) lv st) : JW κ k n (WD ε ad v f u g) pc lv (.int x :: .int i :: .ref (ad 28) :: st) := by
  subst hi
  exact as_28 C hd (vp_in_nI hq (by decide)) hF (by rw [nI_clamp (by omega)]; exact hF2) h
theorem an_28 (C : CX κ ε own cc nL ret fr lo mc ms) (hd : decode cc pc = .ok (.arraylength, 1)) (h : JW κ k n (WD ε ad v f u g) (pc + 1) lv (.int 3 :: st)) : JW κ k n (WD ε ad v f u g) pc lv (.ref (ad 28) :: st) := j_alen C hd 28 1 wl_28 rfl rfl h
theorem al_29 (C : CX κ ε own cc nL ret fr lo mc ms) {i : Int32} {F : Nat → Int32} (hd : decode cc pc = .ok (.iaload, 1)) (hin : vp_in i 3) (hF : g 29 = F) (h : JW κ k n (WD ε ad v f u g) (pc + 1) lv (.int (F i.toNatClampNeg) :: st)) : JW κ k n (WD ε ad v f u g) pc lv (.int i :: .ref (ad 29) :: st) := by
  subst hF
  exact j_iald C hd 29 wl_29 hin h
theorem wt_29 {F : Nat → Int32} : (WD ε ad v f u g).set 29 (ad 29, .inl (ε.2.2.1, 3, .inl F)) = WD ε ad v f u (va_up g 29 F) := rfl
theorem as_29 (C : CX κ ε own cc nL ret fr lo mc ms) {i x : Int32} {F F2 : Nat → Int32} (hd : decode cc pc = .ok (.iastore, 1)) (hin : vp_in i 3) (hF : g 29 = F2) (hF2 : upd F2 i.toNatClampNeg x = F) (h : JW κ k n (WD ε ad v f u (va_up g 29 F)) (pc + 1) lv st) : JW κ k n (WD ε ad v f u g) pc lv (.int x :: .int i :: .ref (ad 29) :: st) := by
  subst hF; subst hF2
  exact j_iast C hd 29 wl_29 hin wt_29 h
theorem aln_29 (C : CX κ ε own cc nL ret fr lo mc ms) {i : Int32} {q : Nat} {F : Nat → Int32} (hd : decode cc pc = .ok (.iaload, 1)) (hq : q < 3) (hi : i = nI q) (hF : g 29 = F) (h : JW κ k n (WD ε ad v f u g) (pc + 1) lv (.int (F q) :: st)) : JW κ k n (WD ε ad v f u g) pc lv (.int i :: .ref (ad 29) :: st) := by
  subst hF; subst hi
  refine al_29 C hd (vp_in_nI hq (by decide)) rfl ?_
  rw [nI_clamp (by omega)]
  exact h
theorem asn_29 (C : CX κ ε own cc nL ret fr lo mc ms) {i x : Int32} {q : Nat} {F F2 : Nat → Int32} (hd : decode cc pc = .ok (.iastore, 1)) (hq : q < 3) (hi : i = nI q) (hF : g 29 = F2) (hF2 : upd F2 q x = F) (h : JW κ k n (WD ε ad v f u (va_up g 29 F)) (pc + 1) lv st) : JW κ k n (WD ε ad v f u g) pc lv (.int x :: .int i :: .ref (ad 29) :: st) := by
  subst hi
  exact as_29 C hd (vp_in_nI hq (by decide)) hF (by rw [nI_clamp (by omega)]; exact hF2) h
theorem an_29 (C : CX κ ε own cc nL ret fr lo mc ms) (hd : decode cc pc = .ok (.arraylength, 1)) (h : JW κ k n (WD ε ad v f u g) (pc + 1) lv (.int 3 :: st)) : JW κ k n (WD ε ad v f u g) pc lv (.ref (ad 29) :: st) := j_alen C hd 29 1 wl_29 rfl rfl h
theorem al_30 (C : CX κ ε own cc nL ret fr lo mc ms) {i : Int32} {F : Nat → Int32} (hd : decode cc pc = .ok (.iaload, 1)) (hin : vp_in i 3) (hF : g 30 = F) (h : JW κ k n (WD ε ad v f u g) (pc + 1) lv (.int (F i.toNatClampNeg) :: st)) : JW κ k n (WD ε ad v f u g) pc lv (.int i :: .ref (ad 30) :: st) := by
  subst hF
  exact j_iald C hd 30 wl_30 hin h
theorem wt_30 {F : Nat → Int32} : (WD ε ad v f u g).set 30 (ad 30, .inl (ε.2.2.1, 3, .inl F)) = WD ε ad v f u (va_up g 30 F) := rfl
theorem as_30 (C : CX κ ε own cc nL ret fr lo mc ms) {i x : Int32} {F F2 : Nat → Int32} (hd : decode cc pc = .ok (.iastore, 1)) (hin : vp_in i 3) (hF : g 30 = F2) (hF2 : upd F2 i.toNatClampNeg x = F) (h : JW κ k n (WD ε ad v f u (va_up g 30 F)) (pc + 1) lv st) : JW κ k n (WD ε ad v f u g) pc lv (.int x :: .int i :: .ref (ad 30) :: st) := by
  subst hF; subst hF2
  exact j_iast C hd 30 wl_30 hin wt_30 h
theorem aln_30 (C : CX κ ε own cc nL ret fr lo mc ms) {i : Int32} {q : Nat} {F : Nat → Int32} (hd : decode cc pc = .ok (.iaload, 1)) (hq : q < 3) (hi : i = nI q) (hF : g 30 = F) (h : JW κ k n (WD ε ad v f u g) (pc + 1) lv (.int (F q) :: st)) : JW κ k n (WD ε ad v f u g) pc lv (.int i :: .ref (ad 30) :: st) := by
  subst hF; subst hi
  refine al_30 C hd (vp_in_nI hq (by decide)) rfl ?_
  rw [nI_clamp (by omega)]
  exact h
theorem asn_30 (C : CX κ ε own cc nL ret fr lo mc ms) {i x : Int32} {q : Nat} {F F2 : Nat → Int32} (hd : decode cc pc = .ok (.iastore, 1)) (hq : q < 3) (hi : i = nI q) (hF : g 30 = F2) (hF2 : upd F2 q x = F) (h : JW κ k n (WD ε ad v f u (va_up g 30 F)) (pc + 1) lv st) : JW κ k n (WD ε ad v f u g) pc lv (.int x :: .int i :: .ref (ad 30) :: st) := by
  subst hi
  exact as_30 C hd (vp_in_nI hq (by decide)) hF (by rw [nI_clamp (by omega)]; exact hF2) h
theorem an_30 (C : CX κ ε own cc nL ret fr lo mc ms) (hd : decode cc pc = .ok (.arraylength, 1)) (h : JW κ k n (WD ε ad v f u g) (pc + 1) lv (.int 3 :: st)) : JW κ k n (WD ε ad v f u g) pc lv (.ref (ad 30) :: st) := j_alen C hd 30 1 wl_30 rfl rfl h
theorem al_31 (C : CX κ ε own cc nL ret fr lo mc ms) {i : Int32} {F : Nat → Int32} (hd : decode cc pc = .ok (.iaload, 1)) (hin : vp_in i 3) (hF : g 31 = F) (h : JW κ k n (WD ε ad v f u g) (pc + 1) lv (.int (F i.toNatClampNeg) :: st)) : JW κ k n (WD ε ad v f u g) pc lv (.int i :: .ref (ad 31) :: st) := by
  subst hF
  exact j_iald C hd 31 wl_31 hin h
theorem wt_31 {F : Nat → Int32} : (WD ε ad v f u g).set 31 (ad 31, .inl (ε.2.2.1, 3, .inl F)) = WD ε ad v f u (va_up g 31 F) := rfl
theorem as_31 (C : CX κ ε own cc nL ret fr lo mc ms) {i x : Int32} {F F2 : Nat → Int32} (hd : decode cc pc = .ok (.iastore, 1)) (hin : vp_in i 3) (hF : g 31 = F2) (hF2 : upd F2 i.toNatClampNeg x = F) (h : JW κ k n (WD ε ad v f u (va_up g 31 F)) (pc + 1) lv st) : JW κ k n (WD ε ad v f u g) pc lv (.int x :: .int i :: .ref (ad 31) :: st) := by
  subst hF; subst hF2
  exact j_iast C hd 31 wl_31 hin wt_31 h
theorem aln_31 (C : CX κ ε own cc nL ret fr lo mc ms) {i : Int32} {q : Nat} {F : Nat → Int32} (hd : decode cc pc = .ok (.iaload, 1)) (hq : q < 3) (hi : i = nI q) (hF : g 31 = F) (h : JW κ k n (WD ε ad v f u g) (pc + 1) lv (.int (F q) :: st)) : JW κ k n (WD ε ad v f u g) pc lv (.int i :: .ref (ad 31) :: st) := by
  subst hF; subst hi
  refine al_31 C hd (vp_in_nI hq (by decide)) rfl ?_
  rw [nI_clamp (by omega)]
  exact h
theorem asn_31 (C : CX κ ε own cc nL ret fr lo mc ms) {i x : Int32} {q : Nat} {F F2 : Nat → Int32} (hd : decode cc pc = .ok (.iastore, 1)) (hq : q < 3) (hi : i = nI q) (hF : g 31 = F2) (hF2 : upd F2 q x = F) (h : JW κ k n (WD ε ad v f u (va_up g 31 F)) (pc + 1) lv st) : JW κ k n (WD ε ad v f u g) pc lv (.int x :: .int i :: .ref (ad 31) :: st) := by
  subst hi
  exact as_31 C hd (vp_in_nI hq (by decide)) hF (by rw [nI_clamp (by omega)]; exact hF2) h
theorem an_31 (C : CX κ ε own cc nL ret fr lo mc ms) (hd : decode cc pc = .ok (.arraylength, 1)) (h : JW κ k n (WD ε ad v f u g) (pc + 1) lv (.int 3 :: st)) : JW κ k n (WD ε ad v f u g) pc lv (.ref (ad 31) :: st) := j_alen C hd 31 1 wl_31 rfl rfl h
theorem al_32 (C : CX κ ε own cc nL ret fr lo mc ms) {i : Int32} {F : Nat → Int32} (hd : decode cc pc = .ok (.iaload, 1)) (hin : vp_in i 20) (hF : g 32 = F) (h : JW κ k n (WD ε ad v f u g) (pc + 1) lv (.int (F i.toNatClampNeg) :: st)) : JW κ k n (WD ε ad v f u g) pc lv (.int i :: .ref (ad 32) :: st) := by
  subst hF
  exact j_iald C hd 32 wl_32 hin h
theorem wt_32 {F : Nat → Int32} : (WD ε ad v f u g).set 32 (ad 32, .inl (ε.2.2.1, 20, .inl F)) = WD ε ad v f u (va_up g 32 F) := rfl
theorem as_32 (C : CX κ ε own cc nL ret fr lo mc ms) {i x : Int32} {F F2 : Nat → Int32} (hd : decode cc pc = .ok (.iastore, 1)) (hin : vp_in i 20) (hF : g 32 = F2) (hF2 : upd F2 i.toNatClampNeg x = F) (h : JW κ k n (WD ε ad v f u (va_up g 32 F)) (pc + 1) lv st) : JW κ k n (WD ε ad v f u g) pc lv (.int x :: .int i :: .ref (ad 32) :: st) := by
  subst hF; subst hF2
  exact j_iast C hd 32 wl_32 hin wt_32 h
theorem aln_32 (C : CX κ ε own cc nL ret fr lo mc ms) {i : Int32} {q : Nat} {F : Nat → Int32} (hd : decode cc pc = .ok (.iaload, 1)) (hq : q < 20) (hi : i = nI q) (hF : g 32 = F) (h : JW κ k n (WD ε ad v f u g) (pc + 1) lv (.int (F q) :: st)) : JW κ k n (WD ε ad v f u g) pc lv (.int i :: .ref (ad 32) :: st) := by
  subst hF; subst hi
  refine al_32 C hd (vp_in_nI hq (by decide)) rfl ?_
  rw [nI_clamp (by omega)]
  exact h
theorem asn_32 (C : CX κ ε own cc nL ret fr lo mc ms) {i x : Int32} {q : Nat} {F F2 : Nat → Int32} (hd : decode cc pc = .ok (.iastore, 1)) (hq : q < 20) (hi : i = nI q) (hF : g 32 = F2) (hF2 : upd F2 q x = F) (h : JW κ k n (WD ε ad v f u (va_up g 32 F)) (pc + 1) lv st) : JW κ k n (WD ε ad v f u g) pc lv (.int x :: .int i :: .ref (ad 32) :: st) := by
  subst hi
  exact as_32 C hd (vp_in_nI hq (by decide)) hF (by rw [nI_clamp (by omega)]; exact hF2) h
theorem an_32 (C : CX κ ε own cc nL ret fr lo mc ms) (hd : decode cc pc = .ok (.arraylength, 1)) (h : JW κ k n (WD ε ad v f u g) (pc + 1) lv (.int 20 :: st)) : JW κ k n (WD ε ad v f u g) pc lv (.ref (ad 32) :: st) := j_alen C hd 32 1 wl_32 rfl rfl h
theorem al_33 (C : CX κ ε own cc nL ret fr lo mc ms) {i : Int32} {F : Nat → Int32} (hd : decode cc pc = .ok (.iaload, 1)) (hin : vp_in i 20) (hF : g 33 = F) (h : JW κ k n (WD ε ad v f u g) (pc + 1) lv (.int (F i.toNatClampNeg) :: st)) : JW κ k n (WD ε ad v f u g) pc lv (.int i :: .ref (ad 33) :: st) := by
  subst hF
  exact j_iald C hd 33 wl_33 hin h
theorem wt_33 {F : Nat → Int32} : (WD ε ad v f u g).set 33 (ad 33, .inl (ε.2.2.1, 20, .inl F)) = WD ε ad v f u (va_up g 33 F) := rfl
theorem as_33 (C : CX κ ε own cc nL ret fr lo mc ms) {i x : Int32} {F F2 : Nat → Int32} (hd : decode cc pc = .ok (.iastore, 1)) (hin : vp_in i 20) (hF : g 33 = F2) (hF2 : upd F2 i.toNatClampNeg x = F) (h : JW κ k n (WD ε ad v f u (va_up g 33 F)) (pc + 1) lv st) : JW κ k n (WD ε ad v f u g) pc lv (.int x :: .int i :: .ref (ad 33) :: st) := by
  subst hF; subst hF2
  exact j_iast C hd 33 wl_33 hin wt_33 h
theorem aln_33 (C : CX κ ε own cc nL ret fr lo mc ms) {i : Int32} {q : Nat} {F : Nat → Int32} (hd : decode cc pc = .ok (.iaload, 1)) (hq : q < 20) (hi : i = nI q) (hF : g 33 = F) (h : JW κ k n (WD ε ad v f u g) (pc + 1) lv (.int (F q) :: st)) : JW κ k n (WD ε ad v f u g) pc lv (.int i :: .ref (ad 33) :: st) := by
  subst hF; subst hi
  refine al_33 C hd (vp_in_nI hq (by decide)) rfl ?_
  rw [nI_clamp (by omega)]
  exact h
theorem asn_33 (C : CX κ ε own cc nL ret fr lo mc ms) {i x : Int32} {q : Nat} {F F2 : Nat → Int32} (hd : decode cc pc = .ok (.iastore, 1)) (hq : q < 20) (hi : i = nI q) (hF : g 33 = F2) (hF2 : upd F2 q x = F) (h : JW κ k n (WD ε ad v f u (va_up g 33 F)) (pc + 1) lv st) : JW κ k n (WD ε ad v f u g) pc lv (.int x :: .int i :: .ref (ad 33) :: st) := by
  subst hi
  exact as_33 C hd (vp_in_nI hq (by decide)) hF (by rw [nI_clamp (by omega)]; exact hF2) h
theorem an_33 (C : CX κ ε own cc nL ret fr lo mc ms) (hd : decode cc pc = .ok (.arraylength, 1)) (h : JW κ k n (WD ε ad v f u g) (pc + 1) lv (.int 20 :: st)) : JW κ k n (WD ε ad v f u g) pc lv (.ref (ad 33) :: st) := j_alen C hd 33 1 wl_33 rfl rfl h
theorem al_34 (C : CX κ ε own cc nL ret fr lo mc ms) {i : Int32} {F : Nat → Int32} (hd : decode cc pc = .ok (.iaload, 1)) (hin : vp_in i 20) (hF : g 34 = F) (h : JW κ k n (WD ε ad v f u g) (pc + 1) lv (.int (F i.toNatClampNeg) :: st)) : JW κ k n (WD ε ad v f u g) pc lv (.int i :: .ref (ad 34) :: st) := by
  subst hF
  exact j_iald C hd 34 wl_34 hin h
theorem wt_34 {F : Nat → Int32} : (WD ε ad v f u g).set 34 (ad 34, .inl (ε.2.2.1, 20, .inl F)) = WD ε ad v f u (va_up g 34 F) := rfl
theorem as_34 (C : CX κ ε own cc nL ret fr lo mc ms) {i x : Int32} {F F2 : Nat → Int32} (hd : decode cc pc = .ok (.iastore, 1)) (hin : vp_in i 20) (hF : g 34 = F2) (hF2 : upd F2 i.toNatClampNeg x = F) (h : JW κ k n (WD ε ad v f u (va_up g 34 F)) (pc + 1) lv st) : JW κ k n (WD ε ad v f u g) pc lv (.int x :: .int i :: .ref (ad 34) :: st) := by
  subst hF; subst hF2
  exact j_iast C hd 34 wl_34 hin wt_34 h
theorem aln_34 (C : CX κ ε own cc nL ret fr lo mc ms) {i : Int32} {q : Nat} {F : Nat → Int32} (hd : decode cc pc = .ok (.iaload, 1)) (hq : q < 20) (hi : i = nI q) (hF : g 34 = F) (h : JW κ k n (WD ε ad v f u g) (pc + 1) lv (.int (F q) :: st)) : JW κ k n (WD ε ad v f u g) pc lv (.int i :: .ref (ad 34) :: st) := by
  subst hF; subst hi
  refine al_34 C hd (vp_in_nI hq (by decide)) rfl ?_
  rw [nI_clamp (by omega)]
  exact h
theorem asn_34 (C : CX κ ε own cc nL ret fr lo mc ms) {i x : Int32} {q : Nat} {F F2 : Nat → Int32} (hd : decode cc pc = .ok (.iastore, 1)) (hq : q < 20) (hi : i = nI q) (hF : g 34 = F2) (hF2 : upd F2 q x = F) (h : JW κ k n (WD ε ad v f u (va_up g 34 F)) (pc + 1) lv st) : JW κ k n (WD ε ad v f u g) pc lv (.int x :: .int i :: .ref (ad 34) :: st) := by
  subst hi
  exact as_34 C hd (vp_in_nI hq (by decide)) hF (by rw [nI_clamp (by omega)]; exact hF2) h
theorem an_34 (C : CX κ ε own cc nL ret fr lo mc ms) (hd : decode cc pc = .ok (.arraylength, 1)) (h : JW κ k n (WD ε ad v f u g) (pc + 1) lv (.int 20 :: st)) : JW κ k n (WD ε ad v f u g) pc lv (.ref (ad 34) :: st) := j_alen C hd 34 1 wl_34 rfl rfl h
theorem al_35 (C : CX κ ε own cc nL ret fr lo mc ms) {i : Int32} {F : Nat → Int32} (hd : decode cc pc = .ok (.iaload, 1)) (hin : vp_in i 20) (hF : g 35 = F) (h : JW κ k n (WD ε ad v f u g) (pc + 1) lv (.int (F i.toNatClampNeg) :: st)) : JW κ k n (WD ε ad v f u g) pc lv (.int i :: .ref (ad 35) :: st) := by
  subst hF
  exact j_iald C hd 35 wl_35 hin h
theorem wt_35 {F : Nat → Int32} : (WD ε ad v f u g).set 35 (ad 35, .inl (ε.2.2.1, 20, .inl F)) = WD ε ad v f u (va_up g 35 F) := rfl
theorem as_35 (C : CX κ ε own cc nL ret fr lo mc ms) {i x : Int32} {F F2 : Nat → Int32} (hd : decode cc pc = .ok (.iastore, 1)) (hin : vp_in i 20) (hF : g 35 = F2) (hF2 : upd F2 i.toNatClampNeg x = F) (h : JW κ k n (WD ε ad v f u (va_up g 35 F)) (pc + 1) lv st) : JW κ k n (WD ε ad v f u g) pc lv (.int x :: .int i :: .ref (ad 35) :: st) := by
  subst hF; subst hF2
  exact j_iast C hd 35 wl_35 hin wt_35 h
theorem aln_35 (C : CX κ ε own cc nL ret fr lo mc ms) {i : Int32} {q : Nat} {F : Nat → Int32} (hd : decode cc pc = .ok (.iaload, 1)) (hq : q < 20) (hi : i = nI q) (hF : g 35 = F) (h : JW κ k n (WD ε ad v f u g) (pc + 1) lv (.int (F q) :: st)) : JW κ k n (WD ε ad v f u g) pc lv (.int i :: .ref (ad 35) :: st) := by
  subst hF; subst hi
  refine al_35 C hd (vp_in_nI hq (by decide)) rfl ?_
  rw [nI_clamp (by omega)]
  exact h
theorem asn_35 (C : CX κ ε own cc nL ret fr lo mc ms) {i x : Int32} {q : Nat} {F F2 : Nat → Int32} (hd : decode cc pc = .ok (.iastore, 1)) (hq : q < 20) (hi : i = nI q) (hF : g 35 = F2) (hF2 : upd F2 q x = F) (h : JW κ k n (WD ε ad v f u (va_up g 35 F)) (pc + 1) lv st) : JW κ k n (WD ε ad v f u g) pc lv (.int x :: .int i :: .ref (ad 35) :: st) := by
  subst hi
  exact as_35 C hd (vp_in_nI hq (by decide)) hF (by rw [nI_clamp (by omega)]; exact hF2) h
theorem an_35 (C : CX κ ε own cc nL ret fr lo mc ms) (hd : decode cc pc = .ok (.arraylength, 1)) (h : JW κ k n (WD ε ad v f u g) (pc + 1) lv (.int 20 :: st)) : JW κ k n (WD ε ad v f u g) pc lv (.ref (ad 35) :: st) := j_alen C hd 35 1 wl_35 rfl rfl h
theorem al_36 (C : CX κ ε own cc nL ret fr lo mc ms) {i : Int32} {F : Nat → Int32} (hd : decode cc pc = .ok (.baload, 1)) (hin : vp_in i 1280) (hF : g 36 = F) (h : JW κ k n (WD ε ad v f u g) (pc + 1) lv (.int (F i.toNatClampNeg) :: st)) : JW κ k n (WD ε ad v f u g) pc lv (.int i :: .ref (ad 36) :: st) := by
  subst hF
  exact j_bald C hd 36 wl_36 hin h
theorem wt_36 {F : Nat → Int32} : (WD ε ad v f u g).set 36 (ad 36, .inl (ε.2.1, 1280, .inl F)) = WD ε ad v f u (va_up g 36 F) := rfl
theorem as_36 (C : CX κ ε own cc nL ret fr lo mc ms) {i x : Int32} {F F2 : Nat → Int32} (hd : decode cc pc = .ok (.bastore, 1)) (hin : vp_in i 1280) (hF : g 36 = F2) (hF2 : upd F2 i.toNatClampNeg (vp_nar .byte x) = F) (h : JW κ k n (WD ε ad v f u (va_up g 36 F)) (pc + 1) lv st) : JW κ k n (WD ε ad v f u g) pc lv (.int x :: .int i :: .ref (ad 36) :: st) := by
  subst hF; subst hF2
  exact j_bast C hd 36 wl_36 hin wt_36 h
theorem aln_36 (C : CX κ ε own cc nL ret fr lo mc ms) {i : Int32} {q : Nat} {F : Nat → Int32} (hd : decode cc pc = .ok (.baload, 1)) (hq : q < 1280) (hi : i = nI q) (hF : g 36 = F) (h : JW κ k n (WD ε ad v f u g) (pc + 1) lv (.int (F q) :: st)) : JW κ k n (WD ε ad v f u g) pc lv (.int i :: .ref (ad 36) :: st) := by
  subst hF; subst hi
  refine al_36 C hd (vp_in_nI hq (by decide)) rfl ?_
  rw [nI_clamp (by omega)]
  exact h
theorem asn_36 (C : CX κ ε own cc nL ret fr lo mc ms) {i x : Int32} {q : Nat} {F F2 : Nat → Int32} (hd : decode cc pc = .ok (.bastore, 1)) (hq : q < 1280) (hi : i = nI q) (hF : g 36 = F2) (hF2 : upd F2 q (vp_nar .byte x) = F) (h : JW κ k n (WD ε ad v f u (va_up g 36 F)) (pc + 1) lv st) : JW κ k n (WD ε ad v f u g) pc lv (.int x :: .int i :: .ref (ad 36) :: st) := by
  subst hi
  exact as_36 C hd (vp_in_nI hq (by decide)) hF (by rw [nI_clamp (by omega)]; exact hF2) h
theorem an_36 (C : CX κ ε own cc nL ret fr lo mc ms) (hd : decode cc pc = .ok (.arraylength, 1)) (h : JW κ k n (WD ε ad v f u g) (pc + 1) lv (.int 1280 :: st)) : JW κ k n (WD ε ad v f u g) pc lv (.ref (ad 36) :: st) := j_alen C hd 36 0 wl_36 rfl rfl h
theorem al_37 (C : CX κ ε own cc nL ret fr lo mc ms) {i : Int32} {F : Nat → Int32} (hd : decode cc pc = .ok (.iaload, 1)) (hin : vp_in i 16) (hF : g 37 = F) (h : JW κ k n (WD ε ad v f u g) (pc + 1) lv (.int (F i.toNatClampNeg) :: st)) : JW κ k n (WD ε ad v f u g) pc lv (.int i :: .ref (ad 37) :: st) := by
  subst hF
  exact j_iald C hd 37 wl_37 hin h
theorem wt_37 {F : Nat → Int32} : (WD ε ad v f u g).set 37 (ad 37, .inl (ε.2.2.1, 16, .inl F)) = WD ε ad v f u (va_up g 37 F) := rfl
theorem as_37 (C : CX κ ε own cc nL ret fr lo mc ms) {i x : Int32} {F F2 : Nat → Int32} (hd : decode cc pc = .ok (.iastore, 1)) (hin : vp_in i 16) (hF : g 37 = F2) (hF2 : upd F2 i.toNatClampNeg x = F) (h : JW κ k n (WD ε ad v f u (va_up g 37 F)) (pc + 1) lv st) : JW κ k n (WD ε ad v f u g) pc lv (.int x :: .int i :: .ref (ad 37) :: st) := by
  subst hF; subst hF2
  exact j_iast C hd 37 wl_37 hin wt_37 h
theorem aln_37 (C : CX κ ε own cc nL ret fr lo mc ms) {i : Int32} {q : Nat} {F : Nat → Int32} (hd : decode cc pc = .ok (.iaload, 1)) (hq : q < 16) (hi : i = nI q) (hF : g 37 = F) (h : JW κ k n (WD ε ad v f u g) (pc + 1) lv (.int (F q) :: st)) : JW κ k n (WD ε ad v f u g) pc lv (.int i :: .ref (ad 37) :: st) := by
  subst hF; subst hi
  refine al_37 C hd (vp_in_nI hq (by decide)) rfl ?_
  rw [nI_clamp (by omega)]
  exact h
theorem asn_37 (C : CX κ ε own cc nL ret fr lo mc ms) {i x : Int32} {q : Nat} {F F2 : Nat → Int32} (hd : decode cc pc = .ok (.iastore, 1)) (hq : q < 16) (hi : i = nI q) (hF : g 37 = F2) (hF2 : upd F2 q x = F) (h : JW κ k n (WD ε ad v f u (va_up g 37 F)) (pc + 1) lv st) : JW κ k n (WD ε ad v f u g) pc lv (.int x :: .int i :: .ref (ad 37) :: st) := by
  subst hi
  exact as_37 C hd (vp_in_nI hq (by decide)) hF (by rw [nI_clamp (by omega)]; exact hF2) h
theorem an_37 (C : CX κ ε own cc nL ret fr lo mc ms) (hd : decode cc pc = .ok (.arraylength, 1)) (h : JW κ k n (WD ε ad v f u g) (pc + 1) lv (.int 16 :: st)) : JW κ k n (WD ε ad v f u g) pc lv (.ref (ad 37) :: st) := j_alen C hd 37 1 wl_37 rfl rfl h
theorem al_38 (C : CX κ ε own cc nL ret fr lo mc ms) {i : Int32} {F : Nat → Int32} (hd : decode cc pc = .ok (.baload, 1)) (hin : vp_in i 24) (hF : g 38 = F) (h : JW κ k n (WD ε ad v f u g) (pc + 1) lv (.int (F i.toNatClampNeg) :: st)) : JW κ k n (WD ε ad v f u g) pc lv (.int i :: .ref (ad 38) :: st) := by
  subst hF
  exact j_zald C hd 38 wl_38 hin h
theorem wt_38 {F : Nat → Int32} : (WD ε ad v f u g).set 38 (ad 38, .inl (ε.2.2.2.1, 24, .inl F)) = WD ε ad v f u (va_up g 38 F) := rfl
theorem as_38 (C : CX κ ε own cc nL ret fr lo mc ms) {i x : Int32} {F F2 : Nat → Int32} (hd : decode cc pc = .ok (.bastore, 1)) (hin : vp_in i 24) (hF : g 38 = F2) (hF2 : upd F2 i.toNatClampNeg (vp_nar .boolean x) = F) (h : JW κ k n (WD ε ad v f u (va_up g 38 F)) (pc + 1) lv st) : JW κ k n (WD ε ad v f u g) pc lv (.int x :: .int i :: .ref (ad 38) :: st) := by
  subst hF; subst hF2
  exact j_zast C hd 38 wl_38 hin wt_38 h
theorem aln_38 (C : CX κ ε own cc nL ret fr lo mc ms) {i : Int32} {q : Nat} {F : Nat → Int32} (hd : decode cc pc = .ok (.baload, 1)) (hq : q < 24) (hi : i = nI q) (hF : g 38 = F) (h : JW κ k n (WD ε ad v f u g) (pc + 1) lv (.int (F q) :: st)) : JW κ k n (WD ε ad v f u g) pc lv (.int i :: .ref (ad 38) :: st) := by
  subst hF; subst hi
  refine al_38 C hd (vp_in_nI hq (by decide)) rfl ?_
  rw [nI_clamp (by omega)]
  exact h
theorem asn_38 (C : CX κ ε own cc nL ret fr lo mc ms) {i x : Int32} {q : Nat} {F F2 : Nat → Int32} (hd : decode cc pc = .ok (.bastore, 1)) (hq : q < 24) (hi : i = nI q) (hF : g 38 = F2) (hF2 : upd F2 q (vp_nar .boolean x) = F) (h : JW κ k n (WD ε ad v f u (va_up g 38 F)) (pc + 1) lv st) : JW κ k n (WD ε ad v f u g) pc lv (.int x :: .int i :: .ref (ad 38) :: st) := by
  subst hi
  exact as_38 C hd (vp_in_nI hq (by decide)) hF (by rw [nI_clamp (by omega)]; exact hF2) h
theorem an_38 (C : CX κ ε own cc nL ret fr lo mc ms) (hd : decode cc pc = .ok (.arraylength, 1)) (h : JW κ k n (WD ε ad v f u g) (pc + 1) lv (.int 24 :: st)) : JW κ k n (WD ε ad v f u g) pc lv (.ref (ad 38) :: st) := j_alen C hd 38 2 wl_38 rfl rfl h
theorem al_39 (C : CX κ ε own cc nL ret fr lo mc ms) {i : Int32} {F : Nat → Int32} (hd : decode cc pc = .ok (.iaload, 1)) (hin : vp_in i 24) (hF : g 39 = F) (h : JW κ k n (WD ε ad v f u g) (pc + 1) lv (.int (F i.toNatClampNeg) :: st)) : JW κ k n (WD ε ad v f u g) pc lv (.int i :: .ref (ad 39) :: st) := by
  subst hF
  exact j_iald C hd 39 wl_39 hin h
theorem wt_39 {F : Nat → Int32} : (WD ε ad v f u g).set 39 (ad 39, .inl (ε.2.2.1, 24, .inl F)) = WD ε ad v f u (va_up g 39 F) := rfl
theorem as_39 (C : CX κ ε own cc nL ret fr lo mc ms) {i x : Int32} {F F2 : Nat → Int32} (hd : decode cc pc = .ok (.iastore, 1)) (hin : vp_in i 24) (hF : g 39 = F2) (hF2 : upd F2 i.toNatClampNeg x = F) (h : JW κ k n (WD ε ad v f u (va_up g 39 F)) (pc + 1) lv st) : JW κ k n (WD ε ad v f u g) pc lv (.int x :: .int i :: .ref (ad 39) :: st) := by
  subst hF; subst hF2
  exact j_iast C hd 39 wl_39 hin wt_39 h
theorem aln_39 (C : CX κ ε own cc nL ret fr lo mc ms) {i : Int32} {q : Nat} {F : Nat → Int32} (hd : decode cc pc = .ok (.iaload, 1)) (hq : q < 24) (hi : i = nI q) (hF : g 39 = F) (h : JW κ k n (WD ε ad v f u g) (pc + 1) lv (.int (F q) :: st)) : JW κ k n (WD ε ad v f u g) pc lv (.int i :: .ref (ad 39) :: st) := by
  subst hF; subst hi
  refine al_39 C hd (vp_in_nI hq (by decide)) rfl ?_
  rw [nI_clamp (by omega)]
  exact h
theorem asn_39 (C : CX κ ε own cc nL ret fr lo mc ms) {i x : Int32} {q : Nat} {F F2 : Nat → Int32} (hd : decode cc pc = .ok (.iastore, 1)) (hq : q < 24) (hi : i = nI q) (hF : g 39 = F2) (hF2 : upd F2 q x = F) (h : JW κ k n (WD ε ad v f u (va_up g 39 F)) (pc + 1) lv st) : JW κ k n (WD ε ad v f u g) pc lv (.int x :: .int i :: .ref (ad 39) :: st) := by
  subst hi
  exact as_39 C hd (vp_in_nI hq (by decide)) hF (by rw [nI_clamp (by omega)]; exact hF2) h
theorem an_39 (C : CX κ ε own cc nL ret fr lo mc ms) (hd : decode cc pc = .ok (.arraylength, 1)) (h : JW κ k n (WD ε ad v f u g) (pc + 1) lv (.int 24 :: st)) : JW κ k n (WD ε ad v f u g) pc lv (.ref (ad 39) :: st) := j_alen C hd 39 1 wl_39 rfl rfl h
theorem al_40 (C : CX κ ε own cc nL ret fr lo mc ms) {i : Int32} {F : Nat → Int32} (hd : decode cc pc = .ok (.iaload, 1)) (hin : vp_in i 3) (hF : g 40 = F) (h : JW κ k n (WD ε ad v f u g) (pc + 1) lv (.int (F i.toNatClampNeg) :: st)) : JW κ k n (WD ε ad v f u g) pc lv (.int i :: .ref (ad 40) :: st) := by
  subst hF
  exact j_iald C hd 40 wl_40 hin h
theorem wt_40 {F : Nat → Int32} : (WD ε ad v f u g).set 40 (ad 40, .inl (ε.2.2.1, 3, .inl F)) = WD ε ad v f u (va_up g 40 F) := rfl
theorem as_40 (C : CX κ ε own cc nL ret fr lo mc ms) {i x : Int32} {F F2 : Nat → Int32} (hd : decode cc pc = .ok (.iastore, 1)) (hin : vp_in i 3) (hF : g 40 = F2) (hF2 : upd F2 i.toNatClampNeg x = F) (h : JW κ k n (WD ε ad v f u (va_up g 40 F)) (pc + 1) lv st) : JW κ k n (WD ε ad v f u g) pc lv (.int x :: .int i :: .ref (ad 40) :: st) := by
  subst hF; subst hF2
  exact j_iast C hd 40 wl_40 hin wt_40 h
theorem aln_40 (C : CX κ ε own cc nL ret fr lo mc ms) {i : Int32} {q : Nat} {F : Nat → Int32} (hd : decode cc pc = .ok (.iaload, 1)) (hq : q < 3) (hi : i = nI q) (hF : g 40 = F) (h : JW κ k n (WD ε ad v f u g) (pc + 1) lv (.int (F q) :: st)) : JW κ k n (WD ε ad v f u g) pc lv (.int i :: .ref (ad 40) :: st) := by
  subst hF; subst hi
  refine al_40 C hd (vp_in_nI hq (by decide)) rfl ?_
  rw [nI_clamp (by omega)]
  exact h
theorem asn_40 (C : CX κ ε own cc nL ret fr lo mc ms) {i x : Int32} {q : Nat} {F F2 : Nat → Int32} (hd : decode cc pc = .ok (.iastore, 1)) (hq : q < 3) (hi : i = nI q) (hF : g 40 = F2) (hF2 : upd F2 q x = F) (h : JW κ k n (WD ε ad v f u (va_up g 40 F)) (pc + 1) lv st) : JW κ k n (WD ε ad v f u g) pc lv (.int x :: .int i :: .ref (ad 40) :: st) := by
  subst hi
  exact as_40 C hd (vp_in_nI hq (by decide)) hF (by rw [nI_clamp (by omega)]; exact hF2) h
theorem an_40 (C : CX κ ε own cc nL ret fr lo mc ms) (hd : decode cc pc = .ok (.arraylength, 1)) (h : JW κ k n (WD ε ad v f u g) (pc + 1) lv (.int 3 :: st)) : JW κ k n (WD ε ad v f u g) pc lv (.ref (ad 40) :: st) := j_alen C hd 40 1 wl_40 rfl rfl h
theorem al_41 (C : CX κ ε own cc nL ret fr lo mc ms) {i : Int32} {F : Nat → Int32} (hd : decode cc pc = .ok (.iaload, 1)) (hin : vp_in i 3) (hF : g 41 = F) (h : JW κ k n (WD ε ad v f u g) (pc + 1) lv (.int (F i.toNatClampNeg) :: st)) : JW κ k n (WD ε ad v f u g) pc lv (.int i :: .ref (ad 41) :: st) := by
  subst hF
  exact j_iald C hd 41 wl_41 hin h
theorem wt_41 {F : Nat → Int32} : (WD ε ad v f u g).set 41 (ad 41, .inl (ε.2.2.1, 3, .inl F)) = WD ε ad v f u (va_up g 41 F) := rfl
theorem as_41 (C : CX κ ε own cc nL ret fr lo mc ms) {i x : Int32} {F F2 : Nat → Int32} (hd : decode cc pc = .ok (.iastore, 1)) (hin : vp_in i 3) (hF : g 41 = F2) (hF2 : upd F2 i.toNatClampNeg x = F) (h : JW κ k n (WD ε ad v f u (va_up g 41 F)) (pc + 1) lv st) : JW κ k n (WD ε ad v f u g) pc lv (.int x :: .int i :: .ref (ad 41) :: st) := by
  subst hF; subst hF2
  exact j_iast C hd 41 wl_41 hin wt_41 h
theorem aln_41 (C : CX κ ε own cc nL ret fr lo mc ms) {i : Int32} {q : Nat} {F : Nat → Int32} (hd : decode cc pc = .ok (.iaload, 1)) (hq : q < 3) (hi : i = nI q) (hF : g 41 = F) (h : JW κ k n (WD ε ad v f u g) (pc + 1) lv (.int (F q) :: st)) : JW κ k n (WD ε ad v f u g) pc lv (.int i :: .ref (ad 41) :: st) := by
  subst hF; subst hi
  refine al_41 C hd (vp_in_nI hq (by decide)) rfl ?_
  rw [nI_clamp (by omega)]
  exact h
theorem asn_41 (C : CX κ ε own cc nL ret fr lo mc ms) {i x : Int32} {q : Nat} {F F2 : Nat → Int32} (hd : decode cc pc = .ok (.iastore, 1)) (hq : q < 3) (hi : i = nI q) (hF : g 41 = F2) (hF2 : upd F2 q x = F) (h : JW κ k n (WD ε ad v f u (va_up g 41 F)) (pc + 1) lv st) : JW κ k n (WD ε ad v f u g) pc lv (.int x :: .int i :: .ref (ad 41) :: st) := by
  subst hi
  exact as_41 C hd (vp_in_nI hq (by decide)) hF (by rw [nI_clamp (by omega)]; exact hF2) h
theorem an_41 (C : CX κ ε own cc nL ret fr lo mc ms) (hd : decode cc pc = .ok (.arraylength, 1)) (h : JW κ k n (WD ε ad v f u g) (pc + 1) lv (.int 3 :: st)) : JW κ k n (WD ε ad v f u g) pc lv (.ref (ad 41) :: st) := j_alen C hd 41 1 wl_41 rfl rfl h
theorem al_42 (C : CX κ ε own cc nL ret fr lo mc ms) {i : Int32} {F : Nat → Int32} (hd : decode cc pc = .ok (.iaload, 1)) (hin : vp_in i 3) (hF : g 42 = F) (h : JW κ k n (WD ε ad v f u g) (pc + 1) lv (.int (F i.toNatClampNeg) :: st)) : JW κ k n (WD ε ad v f u g) pc lv (.int i :: .ref (ad 42) :: st) := by
  subst hF
  exact j_iald C hd 42 wl_42 hin h
theorem wt_42 {F : Nat → Int32} : (WD ε ad v f u g).set 42 (ad 42, .inl (ε.2.2.1, 3, .inl F)) = WD ε ad v f u (va_up g 42 F) := rfl
theorem as_42 (C : CX κ ε own cc nL ret fr lo mc ms) {i x : Int32} {F F2 : Nat → Int32} (hd : decode cc pc = .ok (.iastore, 1)) (hin : vp_in i 3) (hF : g 42 = F2) (hF2 : upd F2 i.toNatClampNeg x = F) (h : JW κ k n (WD ε ad v f u (va_up g 42 F)) (pc + 1) lv st) : JW κ k n (WD ε ad v f u g) pc lv (.int x :: .int i :: .ref (ad 42) :: st) := by
  subst hF; subst hF2
  exact j_iast C hd 42 wl_42 hin wt_42 h
theorem aln_42 (C : CX κ ε own cc nL ret fr lo mc ms) {i : Int32} {q : Nat} {F : Nat → Int32} (hd : decode cc pc = .ok (.iaload, 1)) (hq : q < 3) (hi : i = nI q) (hF : g 42 = F) (h : JW κ k n (WD ε ad v f u g) (pc + 1) lv (.int (F q) :: st)) : JW κ k n (WD ε ad v f u g) pc lv (.int i :: .ref (ad 42) :: st) := by
  subst hF; subst hi
  refine al_42 C hd (vp_in_nI hq (by decide)) rfl ?_
  rw [nI_clamp (by omega)]
  exact h
theorem asn_42 (C : CX κ ε own cc nL ret fr lo mc ms) {i x : Int32} {q : Nat} {F F2 : Nat → Int32} (hd : decode cc pc = .ok (.iastore, 1)) (hq : q < 3) (hi : i = nI q) (hF : g 42 = F2) (hF2 : upd F2 q x = F) (h : JW κ k n (WD ε ad v f u (va_up g 42 F)) (pc + 1) lv st) : JW κ k n (WD ε ad v f u g) pc lv (.int x :: .int i :: .ref (ad 42) :: st) := by
  subst hi
  exact as_42 C hd (vp_in_nI hq (by decide)) hF (by rw [nI_clamp (by omega)]; exact hF2) h
theorem an_42 (C : CX κ ε own cc nL ret fr lo mc ms) (hd : decode cc pc = .ok (.arraylength, 1)) (h : JW κ k n (WD ε ad v f u g) (pc + 1) lv (.int 3 :: st)) : JW κ k n (WD ε ad v f u g) pc lv (.ref (ad 42) :: st) := j_alen C hd 42 1 wl_42 rfl rfl h
theorem c_V (C : CX κ ε own cc nL ret fr lo mc ms) {y : MethodName} {cc1 : ByteArray} {nL1 : Nat} {ret1 : Option FieldType} {fr1 lo1 ix na : Nat} {As rest st1 : List Value} {r : Option Value} {ω ω1 : va_W} {Cn : String} {T : u_T} {N ci b : Nat} {fs : List Value} (hM : CT ε y cc1 nL1 ret1 fr1 lo1 0 0 (.ref b :: As) ω (DT r ω1)) (hv : MV y cc1 nL1 ret1 Cn na) (hw : Cond.methodLink own ix y ∈ TB) (hd : decode cc pc = .ok (.invokevirtual ix, 3)) (q : Nat) (he : ω[q]? = some (b, .inr (ci, fs))) (hc : vwCl[ci]? = some (Cn, T, N)) (hn : As.length = na) (hst : st = As.reverse ++ .ref b :: rest) (hroom : (fr1 + 1 ≤ fr ∧ 8 + (nL1 + 11) + lo1 ≤ lo) ∧ k ≤ mc ∧ n ≤ ms) (hcat : (rest.map fun v => v.category).sum ≤ 8) (hs1 : r.toList ++ rest = st1) (h : JW κ k n ω1 (pc + 3) lv st1) : JW κ k n ω pc lv st := j_callV C hM hv hw hd q he hc hn hst ⟨hroom.1.1, hroom.1.2, hroom.2.1, hroom.2.2⟩ hcat (fun r9 ω9 hp => by obtain ⟨rfl, rfl⟩ := hp; rw [hs1]; exact h)
theorem c_Vs (C : CX κ ε own cc nL ret fr lo mc ms) {y : MethodName} {cc1 : ByteArray} {nL1 : Nat} {ret1 : Option FieldType} {fr1 lo1 ix na : Nat} {As rest st1 : List Value} {r : Option Value} {ω ω1 : va_W} (hM : CT ε y cc1 nL1 ret1 fr1 lo1 0 0 (.ref ε.2.2.2.2.1 :: As) ω (DT r ω1)) (hv : MV y cc1 nL1 ret1 "java/lang/String" na) (hw : Cond.methodLink own ix y ∈ TB) (hd : decode cc pc = .ok (.invokevirtual ix, 3)) (hn : As.length = na) (hst : st = As.reverse ++ .ref ε.2.2.2.2.1 :: rest) (hroom : (fr1 + 1 ≤ fr ∧ 8 + (nL1 + 11) + lo1 ≤ lo) ∧ k ≤ mc ∧ n ≤ ms) (hcat : (rest.map fun v => v.category).sum ≤ 8) (hs1 : r.toList ++ rest = st1) (h : JW κ k n ω1 (pc + 3) lv st1) : JW κ k n ω pc lv st := j_callVs C hM hv hw hd hn hst ⟨hroom.1.1, hroom.1.2, hroom.2.1, hroom.2.2⟩ hcat (fun r9 ω9 hp => by obtain ⟨rfl, rfl⟩ := hp; rw [hs1]; exact h)
theorem c_S (C : CX κ ε own cc nL ret fr lo mc ms) {y : MethodName} {cc1 : ByteArray} {nL1 : Nat} {ret1 : Option FieldType} {fr1 lo1 ix na : Nat} {As rest st1 : List Value} {r : Option Value} {ω ω1 : va_W} (hM : CT ε y cc1 nL1 ret1 fr1 lo1 0 0 As ω (DT r ω1)) (hv : MS y cc1 nL1 ret1 na) (hw : Cond.methodLink own ix y ∈ TB) (hd : decode cc pc = .ok (.invokestatic ix, 3)) (hn : As.length = na) (hst : st = As.reverse ++ rest) (hroom : (fr1 + 1 ≤ fr ∧ 8 + (nL1 + 11) + lo1 ≤ lo) ∧ k ≤ mc ∧ n ≤ ms) (hcat : (rest.map fun v => v.category).sum ≤ 8) (hs1 : r.toList ++ rest = st1) (h : JW κ k n ω1 (pc + 3) lv st1) : JW κ k n ω pc lv st := j_callS C hM hv hw hd hn hst ⟨hroom.1.1, hroom.1.2, hroom.2.1, hroom.2.2⟩ hcat (fun r9 ω9 hp => by obtain ⟨rfl, rfl⟩ := hp; rw [hs1]; exact h)
theorem c_SN (C : CX κ ε own cc nL ret fr lo mc ms) {y : MethodName} {cc1 : ByteArray} {nL1 : Nat} {ret1 : Option FieldType} {fr1 lo1 ix na : Nat} {As rest st1 : List Value} {r : Option Value} {ω ω1 : va_W} {host : String} (hM : CT ε y cc1 nL1 ret1 fr1 lo1 0 0 As ω (DT r ω1)) (hv : MS y cc1 nL1 ret1 na) (hw : Cond.methodLinkNest own ix y host ∈ nestW) (hd : decode cc pc = .ok (.invokestatic ix, 3)) (hn : As.length = na) (hst : st = As.reverse ++ rest) (hroom : (fr1 + 1 ≤ fr ∧ 8 + (nL1 + 11) + lo1 ≤ lo) ∧ k ≤ mc ∧ n ≤ ms) (hcat : (rest.map fun v => v.category).sum ≤ 8) (hs1 : r.toList ++ rest = st1) (h : JW κ k n ω1 (pc + 3) lv st1) : JW κ k n ω pc lv st := j_callSN C hM hv hw hd hn hst ⟨hroom.1.1, hroom.1.2, hroom.2.1, hroom.2.2⟩ hcat (fun r9 ω9 hp => by obtain ⟨rfl, rfl⟩ := hp; rw [hs1]; exact h)
end WORLD
