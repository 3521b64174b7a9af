/-! a layer over the kit: one judgement JW with the state in sight, one contract CT over a whole world; every method's words are TB -/
abbrev ET : Type := va_G × ClassId × ClassId × ClassId × Nat × Nat
abbrev KT : Type := Program × Launch × Env × Room × State × MethodId × Array Value × List Frame × Method × Code × (Nat → Prop) × (State → Prop) × ET × Nat
def tyl (ε : ET) : List (ClassId × FieldType) := [(ε.2.1, .byte), (ε.2.2.1, .int), (ε.2.2.2.1, .boolean)]
def nestW : List Cond := [.methodLinkNest RX0 78 yX8_liesInMemory "RingDevices", .methodLinkNest RX1 122 yX8_oneMore "RingDevices", .methodLinkNest RX7 25 yX8_isFrame "RingDevices", .methodLinkNest RX6 55 yX8_oneMore "RingDevices", .methodLinkNest RX1 104 yX8_patternByte "RingDevices", .methodLinkNest RX3 70 yX8_descriptorsOf "RingDevices", .methodLinkNest RX3 88 yX8_patternByte "RingDevices", .methodLinkNest RX3 99 yX8_availableOf "RingDevices", .methodLinkNest RX3 106 yX8_oneMore "RingDevices", .methodLinkNest RX3 109 yX8_usedOf "RingDevices"]
theorem nest_tb : ∀ w ∈ nestW, w ∈ lw_tbl := by
  intro w h
  simp only [nestW, List.mem_cons, List.not_mem_nil, or_false] at h
  rcases h with rfl | rfl | rfl | rfl | rfl | rfl | rfl | rfl | rfl | rfl
  · exact ln_X0_78
  · exact ln_X1_122
  · exact ln_X7_25
  · exact ln_X6_55
  · exact ln_X1_104
  · exact ln_X3_70
  · exact ln_X3_88
  · exact ln_X3_99
  · exact ln_X3_106
  · exact ln_X3_109
theorem nest_warm {s U : State} (hW : s.WarmedH U.vm) : ∀ w ∈ nestW, va_Nw w s → va_Nw w U := by
  intro w h hz
  simp only [nestW, List.mem_cons, List.not_mem_nil, or_false] at h
  rcases h with rfl | rfl | rfl | rfl | rfl | rfl | rfl | rfl | rfl | rfl <;> exact va_Nw.warmM hW hz
theorem nest_same {u U : State} (h : u.vm = U.vm) : ∀ w ∈ nestW, va_Nw w u → va_Nw w U := by
  intro w hw hz
  simp only [nestW, List.mem_cons, List.not_mem_nil, or_false] at hw
  rcases hw with rfl | rfl | rfl | rfl | rfl | rfl | rfl | rfl | rfl | rfl <;> exact va_Nw.same rfl h hz
theorem nest_of {s : State} {a : Array Value} (hts : ∀ w ∈ lw_tbl, w.before a s = true) : ∀ w ∈ nestW, va_Nw w s := by
  intro w hw
  have h := hts w (nest_tb w hw)
  simp only [nestW, List.mem_cons, List.not_mem_nil, or_false] at hw
  rcases hw with rfl | rfl | rfl | rfl | rfl | rfl | rfl | rfl | rfl | rfl <;> exact va_Nw.of rfl h
/-- the String "rings" and String's own switch, where nothing of A is; the String lies at ε's fifth, its bytes at its sixth -/
def SG (ε : ET) (A : Nat → Prop) (U : State) : Prop := vk_S 1 [5] [[114, 105, 110, 103, 115]] (fun _ => ε.2.2.2.2.1) (fun _ => ε.2.2.2.2.2) A U U.heap ∧ vk_R RX2 85 "rings" ε.2.2.2.2.1 U ∧ va_Z "java/lang/String" "COMPACT_STRINGS" "Z" (.int 1) A U U.heap ∧ va_Zq "jdk/internal/util/Preconditions" "SIOOBE_FORMATTER" "Ljava/util/function/BiFunction;" A U U.heap
def BG (ε : ET) (A : Nat → Prop) (U : State) : Prop := va_K ε.1 vwCl (tyl ε) U ∧ (∀ w ∈ nestW, va_Nw w U) ∧ SG ε A U
theorem BG.blind {ε : ET} {A : Nat → Prop} {U : State} {g : JFrame} {mk : MethodId} {a : Array Value} (h : BG ε A U) : BG ε A (U.calling g mk a) := by
  obtain ⟨h1, h2, h3, h4, h5, h6⟩ := h
  have hv : (U.calling g mk a).vm = U.vm := rfl
  refine ⟨va_K.moved (u := U) (U := U.calling g mk a) (Vm.Alike.refl U.vm) h1, fun w hw => nest_same hv.symm w hw (h2 w hw), ?_, vk_R.same hv h4, ?_, ?_⟩
  · exact vk_S.moved (u := U) (U := U.calling g mk a) (Vm.Alike.refl U.vm) h3
  · exact va_Z.moved (u := U) (U := U.calling g mk a) (Vm.Alike.refl U.vm) h5
  · exact va_Zq.moved (u := U) (U := U.calling g mk a) (Vm.Alike.refl U.vm) h6
theorem BG.call {ε : ET} {A A1 : Nat → Prop} {s U : State} {H : Heap} {locs : List Loc} (h : BG ε A s) (hS : va_S A s.heap H locs) (hU : U.heap = H) (hW : s.WarmedH U.vm) (hA : ∀ q, A1 q → A q) : BG ε A1 U := by
  obtain ⟨h1, h2, h3, h4, h5, h6⟩ := h
  refine ⟨va_K.moved hW.alike h1, fun w hw => nest_warm hW w hw (h2 w hw), ?_, vk_R.warm hW h4, ?_, ?_⟩
  · have := (vk_S.moved hW.alike h3).kept (H1 := H) (fun a h1 h2 => hS.2.1 a h1 h2)
    rw [hU]
    exact this.narrow hA
  · have := (va_Z.moved hW.alike h5).kept (H1 := H) (fun a h1 h2 => hS.2.1 a h1 h2)
    rw [hU]
    exact this.narrow hA
  · have := (va_Zq.moved hW.alike h6).kept (H1 := H) (fun a h1 h2 => hS.2.1 a h1 h2)
    rw [hU]
    exact this.narrow hA
def JW (κ : KT) (k n : Nat) (ω : va_W) (pc : Nat) (lv : List (Nat × Value)) (st : List Value) : Prop := match κ with
  | (p, l, e, R, s, m, args, below, meth, c, A, Q, ε, nL) => ∀ (H : Heap) (locs : List Loc) (ls : Array Slot), va_P ε.1 vwCl ω H → va_D A ω → va_S A s.heap H locs → lv_has ls nL lv → W p l e R s m args below meth c H locs k n Q (F0 m pc ls st)
/-- what holds of the machine in a method: own class, code, locals, room, answer's type -/
def CX (κ : KT) (ε : ET) (own : String) (cc : ByteArray) (nL : Nat) (ret : Option FieldType) (fr lo mc ms : Nat) : Prop := match κ with
  | (p, l, e, R, s, m, args, below, meth, c, A, Q, ε0, nL0) => (p.tables.exec = Jvm.exec ∧ c.code = cc ∧ c.maxLocals = nL ∧ s.vm.findClass own = some m.cls ∧ ∀ w ∈ TB, w.before args s = true) ∧ meth.sig.returnType = ret ∧ meth.locks = false ∧ (∀ q : Nat, s.heap.size ≤ q → A q) ∧ BG ε A s ∧ R = { frames := fr, cells := mc, slots := ms, locals := lo } ∧ ε0 = ε ∧ nL0 = nL
/-- where the method's end leads -/
def CQ (ε : ET) (A : Nat → Prop) (P : Option Value → va_W → Prop) : Array Value → State → Outcome → State → Prop := fun _ st oc t => (∃ (r : Option Value) (ω : va_W), oc = .returned r ∧ P r ω ∧ va_P ε.1 vwCl ω t.heap ∧ va_D A ω) ∧ va_F A st t
def RQ (κ : KT) (ε : ET) (P : Option Value → va_W → Prop) (mc ms : Nat) : Prop := match κ with
  | (p, l, e, R, s, m, args, below, meth, c, A, Q, ε0, nL) => Q = MQ below (CQ ε A P) args s mc ms A
/-- a constructor -/
def IN (κ : KT) : Prop := match κ with
  | (p, l, e, R, s, m, args, below, meth, c, A, Q, ε0, nL0) => meth.name = "<init>"
/-- a contract: called with av in the world ω the method returns some r, in a world ω', of which P -/
def CT (ε : ET) (y : MethodName) (cc : ByteArray) (nL : Nat) (ret : Option FieldType) (fr lo mc ms : Nat) (av : List Value) (ω : va_W) (P : Option Value → va_W → Prop) : Prop := ∀ (l : Launch) (sz : Nat), Met l y (.code y cc nL ret :: TB) { frames := fr, cells := mc, slots := ms, locals := lo } (va_Pc av (fun U => U.heap.size = sz ∧ va_P ε.1 vwCl ω U.heap ∧ va_D (fun _ => True) ω ∧ BG ε (va_A ω sz) U)) (CQ ε (va_A ω sz) P) mc ms (va_A ω sz)
theorem CT.of {ε : ET} {y : MethodName} {own : String} {cc : ByteArray} {nL : Nat} {ret : Option FieldType} {fr lo mc ms : Nat} {av : List Value} {ω : va_W} {P : Option Value → va_W → Prop} (hy : plainName y.cls = true) (ho : y.cls = own) (hl : (lg_sl av).length ≤ nL)
    (body : ∀ κ : KT, CX κ ε own cc nL ret fr lo mc ms → RQ κ ε P mc ms → JW κ 0 0 ω 0 (lv_args 0 av) []) : CT ε y cc nL ret fr lo mc ms av ω P := by
  intro l sz
  refine Met.ofW (cc := cc) (maxL := nL) (ret := ret) hy rfl ?_
  intro p e s m args below meth c s₁ B hml hv
  obtain ⟨rfl, hsz, hP, hD0, hG⟩ := hv
  have hts := atoms_spec (ws := .code y cc nL ret :: TB) B.pre
  have hown : s.vm.findClass own = some m.cls := ho ▸ findClass_of_methodNamed B.named
  subst hsz
  have hD := hD0.self (sz := s.heap.size)
  have hA : ∀ q : Nat, s.heap.size ≤ q → va_A ω s.heap.size q := fun q h => Or.inr h
  have hl1 := lv_entry av (n := nL) hl
  rw [lg_entry_eq]
  exact body (p, l, e, _, s, m, _, below, meth, c, va_A ω s.heap.size, _, ε, nL) ⟨⟨B.exec, B.bytes, hml, hown, fun w h => hts w (List.mem_cons_of_mem _ h)⟩, B.returns, B.notSynchronized, hA, hG, rfl, rfl, rfl⟩ rfl s.heap [] _ hP hD va_S.rf hl1
/-- a contract says less -/
theorem CT.weaken {ε : ET} {y : MethodName} {cc : ByteArray} {nL : Nat} {ret : Option FieldType} {fr lo mc ms : Nat} {av : List Value} {ω : va_W} {P P' : Option Value → va_W → Prop} (h : CT ε y cc nL ret fr lo mc ms av ω P) (hp : ∀ r ω', P r ω' → P' r ω') : CT ε y cc nL ret fr lo mc ms av ω P' := by
  intro l sz
  have h1 := h l sz
  unfold Met at h1 ⊢
  intro p e ha hc hk s m args below hf happ hP hk2
  obtain ⟨k, o, h3, h4, h5, ⟨⟨r, ω', h6, h7, h8⟩, h9⟩, h10⟩ := h1 p e ha hc hk s m args below hf happ hP hk2
  exact ⟨k, o, h3, h4, h5, ⟨⟨r, ω', h6, hp _ _ h7, h8⟩, h9⟩, h10⟩
section ROWS
variable {κ : KT} {ε : ET} {own : String} {cc : ByteArray} {nL : Nat} {ret : Option FieldType} {fr lo mc ms : Nat} {k n : Nat} {ω : va_W} {pc : Nat} {lv lv' : List (Nat × Value)} {st : List Value}
theorem j_iconst (C : CX κ ε own cc nL ret fr lo mc ms) {z : Int} {x : Int32} (hd : decode cc pc = .ok (.iconst z, 1)) (hv : Int32.ofInt z = x) (h : JW κ k n ω (pc + 1) lv (.int x :: st)) : JW κ k n ω pc lv (st) := by
  obtain ⟨p, l, e, R, s, m, args, below, meth, c, A, Q, ε0, nL0⟩ := κ
  obtain ⟨⟨hx, hb, hml, hown, hts⟩, hr, hlk, hA, hG, hR, rfl, rfl⟩ := C
  intro H locs ls hP hD hS hl
  exact lv_iconst hx hb hd hv (h H locs ls hP hD hS hl)
theorem j_bipush (C : CX κ ε own cc nL ret fr lo mc ms) {z : Int} {x : Int32} (hd : decode cc pc = .ok (.bipush z, 2)) (hv : (Int8.ofInt z).toInt32 = x) (h : JW κ k n ω (pc + 2) lv (.int x :: st)) : JW κ k n ω pc lv (st) := by
  obtain ⟨p, l, e, R, s, m, args, below, meth, c, A, Q, ε0, nL0⟩ := κ
  obtain ⟨⟨hx, hb, hml, hown, hts⟩, hr, hlk, hA, hG, hR, rfl, rfl⟩ := C
  intro H locs ls hP hD hS hl
  exact lv_bipush hx hb hd hv (h H locs ls hP hD hS hl)
theorem j_sipush (C : CX κ ε own cc nL ret fr lo mc ms) {z : Int} {x : Int32} (hd : decode cc pc = .ok (.sipush z, 3)) (hv : (Int16.ofInt z).toInt32 = x) (h : JW κ k n ω (pc + 3) lv (.int x :: st)) : JW κ k n ω pc lv (st) := by
  obtain ⟨p, l, e, R, s, m, args, below, meth, c, A, Q, ε0, nL0⟩ := κ
  obtain ⟨⟨hx, hb, hml, hown, hts⟩, hr, hlk, hA, hG, hR, rfl, rfl⟩ := C
  intro H locs ls hP hD hS hl
  exact lv_sipush hx hb hd hv (h H locs ls hP hD hS hl)
theorem j_lconst (C : CX κ ε own cc nL ret fr lo mc ms) {z : Fin 2} {x : Int64} (hd : decode cc pc = .ok (.lconst z, 1)) (hv : Int64.ofNat (z : Nat) = x) (h : JW κ k n ω (pc + 1) lv (.long x :: st)) : JW κ k n ω pc lv (st) := by
  obtain ⟨p, l, e, R, s, m, args, below, meth, c, A, Q, ε0, nL0⟩ := κ
  obtain ⟨⟨hx, hb, hml, hown, hts⟩, hr, hlk, hA, hG, hR, rfl, rfl⟩ := C
  intro H locs ls hP hD hS hl
  exact lv_lconst hx hb hd hv (h H locs ls hP hD hS hl)
theorem j_iload_n (C : CX κ ε own cc nL ret fr lo mc ms) {z : Fin 4} {i : Nat} {x : Int32} (hd : decode cc pc = .ok (.iload_n z, 1)) (hi : (z : Nat) = i) (q : Nat) (hq : lv[q]? = some (i, .int x)) (h : JW κ k n ω (pc + 1) lv (.int x :: st)) : JW κ k n ω pc lv (st) := by
  obtain ⟨p, l, e, R, s, m, args, below, meth, c, A, Q, ε0, nL0⟩ := κ
  obtain ⟨⟨hx, hb, hml, hown, hts⟩, hr, hlk, hA, hG, hR, rfl, rfl⟩ := C
  intro H locs ls hP hD hS hl
  exact lv_iload_n hx hb hd hi (lv_at hl q hq) (h H locs ls hP hD hS hl)
theorem j_iload (C : CX κ ε own cc nL ret fr lo mc ms) {i : Nat} {x : Int32} (hd : decode cc pc = .ok (.iload i, 2)) (q : Nat) (hq : lv[q]? = some (i, .int x)) (h : JW κ k n ω (pc + 2) lv (.int x :: st)) : JW κ k n ω pc lv (st) := by
  obtain ⟨p, l, e, R, s, m, args, below, meth, c, A, Q, ε0, nL0⟩ := κ
  obtain ⟨⟨hx, hb, hml, hown, hts⟩, hr, hlk, hA, hG, hR, rfl, rfl⟩ := C
  intro H locs ls hP hD hS hl
  exact lv_iload hx hb hd (lv_at hl q hq) (h H locs ls hP hD hS hl)
theorem j_istore_n (C : CX κ ε own cc nL ret fr lo mc ms) {z : Fin 4} {i : Nat} {x : Int32} (hd : decode cc pc = .ok (.istore_n z, 1)) (hi : (z : Nat) = i) (hn : i < nL) (he : (i, Value.int x) :: lv.filter (fun q => !(q.1 == i) && !(q.1 + 1 == i && q.2.category == 2)) = lv') (h : JW κ k n ω (pc + 1) lv' (st)) : JW κ k n ω pc lv (.int x :: st) := by
  obtain ⟨p, l, e, R, s, m, args, below, meth, c, A, Q, ε0, nL0⟩ := κ
  obtain ⟨⟨hx, hb, hml, hown, hts⟩, hr, hlk, hA, hG, hR, rfl, rfl⟩ := C
  intro H locs ls hP hD hS hl
  exact lv_istore_n hx hb hd hi hl hn he (fun ls hl => h H locs ls hP hD hS hl)
theorem j_istore (C : CX κ ε own cc nL ret fr lo mc ms) {i : Nat} {x : Int32} (hd : decode cc pc = .ok (.istore i, 2)) (hn : i < nL) (he : (i, Value.int x) :: lv.filter (fun q => !(q.1 == i) && !(q.1 + 1 == i && q.2.category == 2)) = lv') (h : JW κ k n ω (pc + 2) lv' (st)) : JW κ k n ω pc lv (.int x :: st) := by
  obtain ⟨p, l, e, R, s, m, args, below, meth, c, A, Q, ε0, nL0⟩ := κ
  obtain ⟨⟨hx, hb, hml, hown, hts⟩, hr, hlk, hA, hG, hR, rfl, rfl⟩ := C
  intro H locs ls hP hD hS hl
  exact lv_istore hx hb hd hl hn he (fun ls hl => h H locs ls hP hD hS hl)
theorem j_lload_n (C : CX κ ε own cc nL ret fr lo mc ms) {z : Fin 4} {i : Nat} {x : Int64} (hd : decode cc pc = .ok (.lload_n z, 1)) (hi : (z : Nat) = i) (q : Nat) (hq : lv[q]? = some (i, .long x)) (h : JW κ k n ω (pc + 1) lv (.long x :: st)) : JW κ k n ω pc lv (st) := by
  obtain ⟨p, l, e, R, s, m, args, below, meth, c, A, Q, ε0, nL0⟩ := κ
  obtain ⟨⟨hx, hb, hml, hown, hts⟩, hr, hlk, hA, hG, hR, rfl, rfl⟩ := C
  intro H locs ls hP hD hS hl
  exact lv_lload_n hx hb hd hi (lv_at hl q hq) (h H locs ls hP hD hS hl)
theorem j_lload (C : CX κ ε own cc nL ret fr lo mc ms) {i : Nat} {x : Int64} (hd : decode cc pc = .ok (.lload i, 2)) (q : Nat) (hq : lv[q]? = some (i, .long x)) (h : JW κ k n ω (pc + 2) lv (.long x :: st)) : JW κ k n ω pc lv (st) := by
  obtain ⟨p, l, e, R, s, m, args, below, meth, c, A, Q, ε0, nL0⟩ := κ
  obtain ⟨⟨hx, hb, hml, hown, hts⟩, hr, hlk, hA, hG, hR, rfl, rfl⟩ := C
  intro H locs ls hP hD hS hl
  exact lv_lload hx hb hd (lv_at hl q hq) (h H locs ls hP hD hS hl)
theorem j_lstore_n (C : CX κ ε own cc nL ret fr lo mc ms) {z : Fin 4} {i : Nat} {x : Int64} (hd : decode cc pc = .ok (.lstore_n z, 1)) (hi : (z : Nat) = i) (hn : i + 1 < nL) (he : (i, Value.long x) :: lv.filter (fun q => !(q.1 == i) && (!(q.1 == i + 1) && !(q.1 + 1 == i && q.2.category == 2))) = lv') (h : JW κ k n ω (pc + 1) lv' (st)) : JW κ k n ω pc lv (.long x :: st) := by
  obtain ⟨p, l, e, R, s, m, args, below, meth, c, A, Q, ε0, nL0⟩ := κ
  obtain ⟨⟨hx, hb, hml, hown, hts⟩, hr, hlk, hA, hG, hR, rfl, rfl⟩ := C
  intro H locs ls hP hD hS hl
  exact lv_lstore_n hx hb hd hi hl hn he (fun ls hl => h H locs ls hP hD hS hl)
theorem j_lstore (C : CX κ ε own cc nL ret fr lo mc ms) {i : Nat} {x : Int64} (hd : decode cc pc = .ok (.lstore i, 2)) (hn : i + 1 < nL) (he : (i, Value.long x) :: lv.filter (fun q => !(q.1 == i) && (!(q.1 == i + 1) && !(q.1 + 1 == i && q.2.category == 2))) = lv') (h : JW κ k n ω (pc + 2) lv' (st)) : JW κ k n ω pc lv (.long x :: st) := by
  obtain ⟨p, l, e, R, s, m, args, below, meth, c, A, Q, ε0, nL0⟩ := κ
  obtain ⟨⟨hx, hb, hml, hown, hts⟩, hr, hlk, hA, hG, hR, rfl, rfl⟩ := C
  intro H locs ls hP hD hS hl
  exact lv_lstore hx hb hd hl hn he (fun ls hl => h H locs ls hP hD hS hl)
theorem j_aload_n (C : CX κ ε own cc nL ret fr lo mc ms) {z : Fin 4} {i : Nat} {x : Nat} (hd : decode cc pc = .ok (.aload_n z, 1)) (hi : (z : Nat) = i) (q : Nat) (hq : lv[q]? = some (i, .ref x)) (h : JW κ k n ω (pc + 1) lv (.ref x :: st)) : JW κ k n ω pc lv (st) := by
  obtain ⟨p, l, e, R, s, m, args, below, meth, c, A, Q, ε0, nL0⟩ := κ
  obtain ⟨⟨hx, hb, hml, hown, hts⟩, hr, hlk, hA, hG, hR, rfl, rfl⟩ := C
  intro H locs ls hP hD hS hl
  exact lv_aload_n hx hb hd hi (lv_at hl q hq) (h H locs ls hP hD hS hl)
theorem j_aload (C : CX κ ε own cc nL ret fr lo mc ms) {i : Nat} {x : Nat} (hd : decode cc pc = .ok (.aload i, 2)) (q : Nat) (hq : lv[q]? = some (i, .ref x)) (h : JW κ k n ω (pc + 2) lv (.ref x :: st)) : JW κ k n ω pc lv (st) := by
  obtain ⟨p, l, e, R, s, m, args, below, meth, c, A, Q, ε0, nL0⟩ := κ
  obtain ⟨⟨hx, hb, hml, hown, hts⟩, hr, hlk, hA, hG, hR, rfl, rfl⟩ := C
  intro H locs ls hP hD hS hl
  exact lv_aload hx hb hd (lv_at hl q hq) (h H locs ls hP hD hS hl)
theorem j_astore_n (C : CX κ ε own cc nL ret fr lo mc ms) {z : Fin 4} {i : Nat} {x : Nat} (hd : decode cc pc = .ok (.astore_n z, 1)) (hi : (z : Nat) = i) (hn : i < nL) (he : (i, Value.ref x) :: lv.filter (fun q => !(q.1 == i) && !(q.1 + 1 == i && q.2.category == 2)) = lv') (h : JW κ k n ω (pc + 1) lv' (st)) : JW κ k n ω pc lv (.ref x :: st) := by
  obtain ⟨p, l, e, R, s, m, args, below, meth, c, A, Q, ε0, nL0⟩ := κ
  obtain ⟨⟨hx, hb, hml, hown, hts⟩, hr, hlk, hA, hG, hR, rfl, rfl⟩ := C
  intro H locs ls hP hD hS hl
  exact lv_astore_n hx hb hd hi hl hn he (fun ls hl => h H locs ls hP hD hS hl)
theorem j_astore (C : CX κ ε own cc nL ret fr lo mc ms) {i : Nat} {x : Nat} (hd : decode cc pc = .ok (.astore i, 2)) (hn : i < nL) (he : (i, Value.ref x) :: lv.filter (fun q => !(q.1 == i) && !(q.1 + 1 == i && q.2.category == 2)) = lv') (h : JW κ k n ω (pc + 2) lv' (st)) : JW κ k n ω pc lv (.ref x :: st) := by
  obtain ⟨p, l, e, R, s, m, args, below, meth, c, A, Q, ε0, nL0⟩ := κ
  obtain ⟨⟨hx, hb, hml, hown, hts⟩, hr, hlk, hA, hG, hR, rfl, rfl⟩ := C
  intro H locs ls hP hD hS hl
  exact lv_astore hx hb hd hl hn he (fun ls hl => h H locs ls hP hD hS hl)
theorem j_iinc (C : CX κ ε own cc nL ret fr lo mc ms) {i : Nat} {z : Int} {x y : Int32} (hd : decode cc pc = .ok (.iinc i z, 3)) (q : Nat) (hq : lv[q]? = some (i, .int x)) (hv : x + Int32.ofInt z = y) (hn : i < nL) (he : (i, Value.int y) :: lv.filter (fun q => !(q.1 == i) && !(q.1 + 1 == i && q.2.category == 2)) = lv') (h : JW κ k n ω (pc + 3) lv' (st)) : JW κ k n ω pc lv (st) := by
  obtain ⟨p, l, e, R, s, m, args, below, meth, c, A, Q, ε0, nL0⟩ := κ
  obtain ⟨⟨hx, hb, hml, hown, hts⟩, hr, hlk, hA, hG, hR, rfl, rfl⟩ := C
  intro H locs ls hP hD hS hl
  exact lv_iinc hx hb hd hl hq hv hn he (fun ls hl => h H locs ls hP hD hS hl)
theorem j_iadd (C : CX κ ε own cc nL ret fr lo mc ms) {x y : Int32} (hd : decode cc pc = .ok (.iadd, 1)) (h : JW κ k n ω (pc + 1) lv (.int (x + y) :: st)) : JW κ k n ω pc lv (.int y :: .int x :: st) := by
  obtain ⟨p, l, e, R, s, m, args, below, meth, c, A, Q, ε0, nL0⟩ := κ
  obtain ⟨⟨hx, hb, hml, hown, hts⟩, hr, hlk, hA, hG, hR, rfl, rfl⟩ := C
  intro H locs ls hP hD hS hl
  exact lv_iadd hx hb hd (h H locs ls hP hD hS hl)
theorem j_isub (C : CX κ ε own cc nL ret fr lo mc ms) {x y : Int32} (hd : decode cc pc = .ok (.isub, 1)) (h : JW κ k n ω (pc + 1) lv (.int (x - y) :: st)) : JW κ k n ω pc lv (.int y :: .int x :: st) := by
  obtain ⟨p, l, e, R, s, m, args, below, meth, c, A, Q, ε0, nL0⟩ := κ
  obtain ⟨⟨hx, hb, hml, hown, hts⟩, hr, hlk, hA, hG, hR, rfl, rfl⟩ := C
  intro H locs ls hP hD hS hl
  exact lv_isub hx hb hd (h H locs ls hP hD hS hl)
theorem j_imul (C : CX κ ε own cc nL ret fr lo mc ms) {x y : Int32} (hd : decode cc pc = .ok (.imul, 1)) (h : JW κ k n ω (pc + 1) lv (.int (x * y) :: st)) : JW κ k n ω pc lv (.int y :: .int x :: st) := by
  obtain ⟨p, l, e, R, s, m, args, below, meth, c, A, Q, ε0, nL0⟩ := κ
  obtain ⟨⟨hx, hb, hml, hown, hts⟩, hr, hlk, hA, hG, hR, rfl, rfl⟩ := C
  intro H locs ls hP hD hS hl
  exact lv_imul hx hb hd (h H locs ls hP hD hS hl)
theorem j_iand (C : CX κ ε own cc nL ret fr lo mc ms) {x y : Int32} (hd : decode cc pc = .ok (.iand, 1)) (h : JW κ k n ω (pc + 1) lv (.int (x &&& y) :: st)) : JW κ k n ω pc lv (.int y :: .int x :: st) := by
  obtain ⟨p, l, e, R, s, m, args, below, meth, c, A, Q, ε0, nL0⟩ := κ
  obtain ⟨⟨hx, hb, hml, hown, hts⟩, hr, hlk, hA, hG, hR, rfl, rfl⟩ := C
  intro H locs ls hP hD hS hl
  exact lv_iand hx hb hd (h H locs ls hP hD hS hl)
theorem j_ior (C : CX κ ε own cc nL ret fr lo mc ms) {x y : Int32} (hd : decode cc pc = .ok (.ior, 1)) (h : JW κ k n ω (pc + 1) lv (.int (x ||| y) :: st)) : JW κ k n ω pc lv (.int y :: .int x :: st) := by
  obtain ⟨p, l, e, R, s, m, args, below, meth, c, A, Q, ε0, nL0⟩ := κ
  obtain ⟨⟨hx, hb, hml, hown, hts⟩, hr, hlk, hA, hG, hR, rfl, rfl⟩ := C
  intro H locs ls hP hD hS hl
  exact lv_ior hx hb hd (h H locs ls hP hD hS hl)
theorem j_ixor (C : CX κ ε own cc nL ret fr lo mc ms) {x y : Int32} (hd : decode cc pc = .ok (.ixor, 1)) (h : JW κ k n ω (pc + 1) lv (.int (x ^^^ y) :: st)) : JW κ k n ω pc lv (.int y :: .int x :: st) := by
  obtain ⟨p, l, e, R, s, m, args, below, meth, c, A, Q, ε0, nL0⟩ := κ
  obtain ⟨⟨hx, hb, hml, hown, hts⟩, hr, hlk, hA, hG, hR, rfl, rfl⟩ := C
  intro H locs ls hP hD hS hl
  exact lv_ixor hx hb hd (h H locs ls hP hD hS hl)
theorem j_ladd (C : CX κ ε own cc nL ret fr lo mc ms) {x y : Int64} (hd : decode cc pc = .ok (.ladd, 1)) (h : JW κ k n ω (pc + 1) lv (.long (x + y) :: st)) : JW κ k n ω pc lv (.long y :: .long x :: st) := by
  obtain ⟨p, l, e, R, s, m, args, below, meth, c, A, Q, ε0, nL0⟩ := κ
  obtain ⟨⟨hx, hb, hml, hown, hts⟩, hr, hlk, hA, hG, hR, rfl, rfl⟩ := C
  intro H locs ls hP hD hS hl
  exact lv_ladd hx hb hd (h H locs ls hP hD hS hl)
theorem j_lsub (C : CX κ ε own cc nL ret fr lo mc ms) {x y : Int64} (hd : decode cc pc = .ok (.lsub, 1)) (h : JW κ k n ω (pc + 1) lv (.long (x - y) :: st)) : JW κ k n ω pc lv (.long y :: .long x :: st) := by
  obtain ⟨p, l, e, R, s, m, args, below, meth, c, A, Q, ε0, nL0⟩ := κ
  obtain ⟨⟨hx, hb, hml, hown, hts⟩, hr, hlk, hA, hG, hR, rfl, rfl⟩ := C
  intro H locs ls hP hD hS hl
  exact lv_lsub hx hb hd (h H locs ls hP hD hS hl)
theorem j_land (C : CX κ ε own cc nL ret fr lo mc ms) {x y : Int64} (hd : decode cc pc = .ok (.land, 1)) (h : JW κ k n ω (pc + 1) lv (.long (x &&& y) :: st)) : JW κ k n ω pc lv (.long y :: .long x :: st) := by
  obtain ⟨p, l, e, R, s, m, args, below, meth, c, A, Q, ε0, nL0⟩ := κ
  obtain ⟨⟨hx, hb, hml, hown, hts⟩, hr, hlk, hA, hG, hR, rfl, rfl⟩ := C
  intro H locs ls hP hD hS hl
  exact lv_land hx hb hd (h H locs ls hP hD hS hl)
theorem j_lor (C : CX κ ε own cc nL ret fr lo mc ms) {x y : Int64} (hd : decode cc pc = .ok (.lor, 1)) (h : JW κ k n ω (pc + 1) lv (.long (x ||| y) :: st)) : JW κ k n ω pc lv (.long y :: .long x :: st) := by
  obtain ⟨p, l, e, R, s, m, args, below, meth, c, A, Q, ε0, nL0⟩ := κ
  obtain ⟨⟨hx, hb, hml, hown, hts⟩, hr, hlk, hA, hG, hR, rfl, rfl⟩ := C
  intro H locs ls hP hD hS hl
  exact lv_lor hx hb hd (h H locs ls hP hD hS hl)
theorem j_idiv (C : CX κ ε own cc nL ret fr lo mc ms) {x y : Int32} (hd : decode cc pc = .ok (.idiv, 1)) (hne : ¬ y = 0) (h : JW κ k n ω (pc + 1) lv (.int (x / y) :: st)) : JW κ k n ω pc lv (.int y :: .int x :: st) := by
  obtain ⟨p, l, e, R, s, m, args, below, meth, c, A, Q, ε0, nL0⟩ := κ
  obtain ⟨⟨hx, hb, hml, hown, hts⟩, hr, hlk, hA, hG, hR, rfl, rfl⟩ := C
  intro H locs ls hP hD hS hl
  exact lv_idiv hx hb hd hne (h H locs ls hP hD hS hl)
theorem j_irem (C : CX κ ε own cc nL ret fr lo mc ms) {x y : Int32} (hd : decode cc pc = .ok (.irem, 1)) (hne : ¬ y = 0) (h : JW κ k n ω (pc + 1) lv (.int (x - x / y * y) :: st)) : JW κ k n ω pc lv (.int y :: .int x :: st) := by
  obtain ⟨p, l, e, R, s, m, args, below, meth, c, A, Q, ε0, nL0⟩ := κ
  obtain ⟨⟨hx, hb, hml, hown, hts⟩, hr, hlk, hA, hG, hR, rfl, rfl⟩ := C
  intro H locs ls hP hD hS hl
  exact lv_irem hx hb hd hne (h H locs ls hP hD hS hl)
theorem j_ldiv (C : CX κ ε own cc nL ret fr lo mc ms) {x y : Int64} (hd : decode cc pc = .ok (.ldiv, 1)) (hne : ¬ y = 0) (h : JW κ k n ω (pc + 1) lv (.long (x / y) :: st)) : JW κ k n ω pc lv (.long y :: .long x :: st) := by
  obtain ⟨p, l, e, R, s, m, args, below, meth, c, A, Q, ε0, nL0⟩ := κ
  obtain ⟨⟨hx, hb, hml, hown, hts⟩, hr, hlk, hA, hG, hR, rfl, rfl⟩ := C
  intro H locs ls hP hD hS hl
  exact lv_ldiv hx hb hd hne (h H locs ls hP hD hS hl)
theorem j_lrem (C : CX κ ε own cc nL ret fr lo mc ms) {x y : Int64} (hd : decode cc pc = .ok (.lrem, 1)) (hne : ¬ y = 0) (h : JW κ k n ω (pc + 1) lv (.long (x - x / y * y) :: st)) : JW κ k n ω pc lv (.long y :: .long x :: st) := by
  obtain ⟨p, l, e, R, s, m, args, below, meth, c, A, Q, ε0, nL0⟩ := κ
  obtain ⟨⟨hx, hb, hml, hown, hts⟩, hr, hlk, hA, hG, hR, rfl, rfl⟩ := C
  intro H locs ls hP hD hS hl
  exact lv_lrem hx hb hd hne (h H locs ls hP hD hS hl)
theorem j_ishl (C : CX κ ε own cc nL ret fr lo mc ms) {x y : Int32} (hd : decode cc pc = .ok (.ishl, 1)) (h : JW κ k n ω (pc + 1) lv (.int (x <<< (y &&& 31)) :: st)) : JW κ k n ω pc lv (.int y :: .int x :: st) := by
  obtain ⟨p, l, e, R, s, m, args, below, meth, c, A, Q, ε0, nL0⟩ := κ
  obtain ⟨⟨hx, hb, hml, hown, hts⟩, hr, hlk, hA, hG, hR, rfl, rfl⟩ := C
  intro H locs ls hP hD hS hl
  exact lv_ishl hx hb hd (h H locs ls hP hD hS hl)
theorem j_ishr (C : CX κ ε own cc nL ret fr lo mc ms) {x y : Int32} (hd : decode cc pc = .ok (.ishr, 1)) (h : JW κ k n ω (pc + 1) lv (.int (x >>> (y &&& 31)) :: st)) : JW κ k n ω pc lv (.int y :: .int x :: st) := by
  obtain ⟨p, l, e, R, s, m, args, below, meth, c, A, Q, ε0, nL0⟩ := κ
  obtain ⟨⟨hx, hb, hml, hown, hts⟩, hr, hlk, hA, hG, hR, rfl, rfl⟩ := C
  intro H locs ls hP hD hS hl
  exact lv_ishr hx hb hd (h H locs ls hP hD hS hl)
theorem j_iushr (C : CX κ ε own cc nL ret fr lo mc ms) {x y : Int32} (hd : decode cc pc = .ok (.iushr, 1)) (h : JW κ k n ω (pc + 1) lv (.int ((x.toUInt32 >>> (y.toUInt32 &&& Int32.toUInt32 31)).toInt32) :: st)) : JW κ k n ω pc lv (.int y :: .int x :: st) := by
  obtain ⟨p, l, e, R, s, m, args, below, meth, c, A, Q, ε0, nL0⟩ := κ
  obtain ⟨⟨hx, hb, hml, hown, hts⟩, hr, hlk, hA, hG, hR, rfl, rfl⟩ := C
  intro H locs ls hP hD hS hl
  exact lv_iushr hx hb hd rfl (h H locs ls hP hD hS hl)
theorem j_lushr (C : CX κ ε own cc nL ret fr lo mc ms) {x : Int64} {y : Int32} (hd : decode cc pc = .ok (.lushr, 1)) (h : JW κ k n ω (pc + 1) lv (.long ((x.toUInt64 >>> (y.toInt64.toUInt64 &&& Int64.toUInt64 63)).toInt64) :: st)) : JW κ k n ω pc lv (.int y :: .long x :: st) := by
  obtain ⟨p, l, e, R, s, m, args, below, meth, c, A, Q, ε0, nL0⟩ := κ
  obtain ⟨⟨hx, hb, hml, hown, hts⟩, hr, hlk, hA, hG, hR, rfl, rfl⟩ := C
  intro H locs ls hP hD hS hl
  exact lv_lushr hx hb hd rfl (h H locs ls hP hD hS hl)
theorem j_lshl (C : CX κ ε own cc nL ret fr lo mc ms) {x : Int64} {y : Int32} (hd : decode cc pc = .ok (.lshl, 1)) (h : JW κ k n ω (pc + 1) lv (.long (x <<< (y.toInt64 &&& 63)) :: st)) : JW κ k n ω pc lv (.int y :: .long x :: st) := by
  obtain ⟨p, l, e, R, s, m, args, below, meth, c, A, Q, ε0, nL0⟩ := κ
  obtain ⟨⟨hx, hb, hml, hown, hts⟩, hr, hlk, hA, hG, hR, rfl, rfl⟩ := C
  intro H locs ls hP hD hS hl
  exact lv_lshl hx hb hd rfl (h H locs ls hP hD hS hl)
theorem j_lshr (C : CX κ ε own cc nL ret fr lo mc ms) {x : Int64} {y : Int32} (hd : decode cc pc = .ok (.lshr, 1)) (h : JW κ k n ω (pc + 1) lv (.long (x >>> (y.toInt64 &&& 63)) :: st)) : JW κ k n ω pc lv (.int y :: .long x :: st) := by
  obtain ⟨p, l, e, R, s, m, args, below, meth, c, A, Q, ε0, nL0⟩ := κ
  obtain ⟨⟨hx, hb, hml, hown, hts⟩, hr, hlk, hA, hG, hR, rfl, rfl⟩ := C
  intro H locs ls hP hD hS hl
  exact lv_lshr hx hb hd rfl (h H locs ls hP hD hS hl)
theorem j_i2l (C : CX κ ε own cc nL ret fr lo mc ms) {x : Int32} (hd : decode cc pc = .ok (.i2l, 1)) (h : JW κ k n ω (pc + 1) lv (.long x.toInt64 :: st)) : JW κ k n ω pc lv (.int x :: st) := by
  obtain ⟨p, l, e, R, s, m, args, below, meth, c, A, Q, ε0, nL0⟩ := κ
  obtain ⟨⟨hx, hb, hml, hown, hts⟩, hr, hlk, hA, hG, hR, rfl, rfl⟩ := C
  intro H locs ls hP hD hS hl
  exact lv_i2l hx hb hd rfl (h H locs ls hP hD hS hl)
theorem j_l2i (C : CX κ ε own cc nL ret fr lo mc ms) {x : Int64} (hd : decode cc pc = .ok (.l2i, 1)) (h : JW κ k n ω (pc + 1) lv (.int x.toInt32 :: st)) : JW κ k n ω pc lv (.long x :: st) := by
  obtain ⟨p, l, e, R, s, m, args, below, meth, c, A, Q, ε0, nL0⟩ := κ
  obtain ⟨⟨hx, hb, hml, hown, hts⟩, hr, hlk, hA, hG, hR, rfl, rfl⟩ := C
  intro H locs ls hP hD hS hl
  exact lv_l2i hx hb hd rfl (h H locs ls hP hD hS hl)
theorem j_i2b (C : CX κ ε own cc nL ret fr lo mc ms) {x : Int32} (hd : decode cc pc = .ok (.i2b, 1)) (h : JW κ k n ω (pc + 1) lv (.int x.toInt8.toInt32 :: st)) : JW κ k n ω pc lv (.int x :: st) := by
  obtain ⟨p, l, e, R, s, m, args, below, meth, c, A, Q, ε0, nL0⟩ := κ
  obtain ⟨⟨hx, hb, hml, hown, hts⟩, hr, hlk, hA, hG, hR, rfl, rfl⟩ := C
  intro H locs ls hP hD hS hl
  exact lv_i2b hx hb hd rfl (h H locs ls hP hD hS hl)
theorem j_i2c (C : CX κ ε own cc nL ret fr lo mc ms) {x : Int32} (hd : decode cc pc = .ok (.i2c, 1)) (h : JW κ k n ω (pc + 1) lv (.int (x.toUInt32 % 65536).toInt32 :: st)) : JW κ k n ω pc lv (.int x :: st) := by
  obtain ⟨p, l, e, R, s, m, args, below, meth, c, A, Q, ε0, nL0⟩ := κ
  obtain ⟨⟨hx, hb, hml, hown, hts⟩, hr, hlk, hA, hG, hR, rfl, rfl⟩ := C
  intro H locs ls hP hD hS hl
  exact lv_i2c hx hb hd rfl (h H locs ls hP hD hS hl)
theorem j_lcmp (C : CX κ ε own cc nL ret fr lo mc ms) {x y : Int64} (hd : decode cc pc = .ok (.lcmp, 1)) (h : JW κ k n ω (pc + 1) lv (.int (lg_cmp x y) :: st)) : JW κ k n ω pc lv (.long y :: .long x :: st) := by
  obtain ⟨p, l, e, R, s, m, args, below, meth, c, A, Q, ε0, nL0⟩ := κ
  obtain ⟨⟨hx, hb, hml, hown, hts⟩, hr, hlk, hA, hG, hR, rfl, rfl⟩ := C
  intro H locs ls hP hD hS hl
  exact W.lcmp hx hb hd (h H locs ls hP hD hS hl)
theorem j_dup (C : CX κ ε own cc nL ret fr lo mc ms) {va : Value} (hd : decode cc pc = .ok (.dup, 1)) (hc : va.category = 1) (h : JW κ k n ω (pc + 1) lv (va :: va :: st)) : JW κ k n ω pc lv (va :: st) := by
  obtain ⟨p, l, e, R, s, m, args, below, meth, c, A, Q, ε0, nL0⟩ := κ
  obtain ⟨⟨hx, hb, hml, hown, hts⟩, hr, hlk, hA, hG, hR, rfl, rfl⟩ := C
  intro H locs ls hP hD hS hl
  exact lv_dup hx hb hd hc (h H locs ls hP hD hS hl)
theorem j_pop (C : CX κ ε own cc nL ret fr lo mc ms) {va : Value} (hd : decode cc pc = .ok (.pop, 1)) (hc : va.category = 1) (h : JW κ k n ω (pc + 1) lv (st)) : JW κ k n ω pc lv (va :: st) := by
  obtain ⟨p, l, e, R, s, m, args, below, meth, c, A, Q, ε0, nL0⟩ := κ
  obtain ⟨⟨hx, hb, hml, hown, hts⟩, hr, hlk, hA, hG, hR, rfl, rfl⟩ := C
  intro H locs ls hP hD hS hl
  exact lv_pop hx hb hd hc (h H locs ls hP hD hS hl)
theorem j_dup2 (C : CX κ ε own cc nL ret fr lo mc ms) {va vb : Value} (hd : decode cc pc = .ok (.dup2, 1)) (hc : va.category = 1) (hc2 : vb.category = 1) (h : JW κ k n ω (pc + 1) lv (va :: vb :: va :: vb :: st)) : JW κ k n ω pc lv (va :: vb :: st) := by
  obtain ⟨p, l, e, R, s, m, args, below, meth, c, A, Q, ε0, nL0⟩ := κ
  obtain ⟨⟨hx, hb, hml, hown, hts⟩, hr, hlk, hA, hG, hR, rfl, rfl⟩ := C
  intro H locs ls hP hD hS hl
  exact lv_dup2_11 hx hb hd hc hc2 (h H locs ls hP hD hS hl)
theorem j_goto (C : CX κ ε own cc nL ret fr lo mc ms) {off : Int} {tgt : Nat} (hd : decode cc pc = .ok (.goto off, 3)) (ht : (pc : Int) + off = (tgt : Int)) (h : JW κ k n ω (tgt) lv (st)) : JW κ k n ω pc lv (st) := by
  obtain ⟨p, l, e, R, s, m, args, below, meth, c, A, Q, ε0, nL0⟩ := κ
  obtain ⟨⟨hx, hb, hml, hown, hts⟩, hr, hlk, hA, hG, hR, rfl, rfl⟩ := C
  intro H locs ls hP hD hS hl
  exact lv_goto hx hb hd ht (h H locs ls hP hD hS hl)
theorem j_ldc (C : CX κ ε own cc nL ret fr lo mc ms) {ix : Nat} {v : Int32} (hd : decode cc pc = .ok (.ldc ix, 2)) (hw : Cond.constant own ix v ∈ TB) (h : JW κ k n ω (pc + 2) lv (.int v :: st)) : JW κ k n ω pc lv (st) := by
  obtain ⟨p, l, e, R, s, m, args, below, meth, c, A, Q, ε0, nL0⟩ := κ
  obtain ⟨⟨hx, hb, hml, hown, hts⟩, hr, hlk, hA, hG, hR, rfl, rfl⟩ := C
  intro H locs ls hP hD hS hl
  exact lv_ldc hx hb hown (hts _ hw) hd (h H locs ls hP hD hS hl)
theorem j_ldc2 (C : CX κ ε own cc nL ret fr lo mc ms) {ix : Nat} {v : Int64} (hd : decode cc pc = .ok (.ldc2_w ix, 3)) (hw : Cond.constantLong own ix v ∈ TB) (h : JW κ k n ω (pc + 3) lv (.long v :: st)) : JW κ k n ω pc lv (st) := by
  obtain ⟨p, l, e, R, s, m, args, below, meth, c, A, Q, ε0, nL0⟩ := κ
  obtain ⟨⟨hx, hb, hml, hown, hts⟩, hr, hlk, hA, hG, hR, rfl, rfl⟩ := C
  intro H locs ls hP hD hS hl
  exact lv_ldc2 hx hb hown (hts _ hw) hd (h H locs ls hP hD hS hl)
theorem j_if_eq (C : CX κ ε own cc nL ret fr lo mc ms) {x : Int32} {off : Int} {tgt : Nat} (hd : decode cc pc = .ok (.ifCond .eq off, 3)) (ht : (pc : Int) + off = (tgt : Int)) (h1 : (x = 0) → JW κ k n ω tgt lv st) (h2 : (¬ x = 0) → JW κ k n ω (pc + 3) lv st) : JW κ k n ω pc lv (.int x :: st) := by
  obtain ⟨p, l, e, R, s, m, args, below, meth, c, A, Q, ε0, nL0⟩ := κ
  obtain ⟨⟨hx, hb, hml, hown, hts⟩, hr, hlk, hA, hG, hR, rfl, rfl⟩ := C
  intro H locs ls hP hD hS hl
  exact lv_if_eq hx hb hd ht (fun q => h1 q H locs ls hP hD hS hl) (fun q => h2 q H locs ls hP hD hS hl)
theorem j_icmp_eq (C : CX κ ε own cc nL ret fr lo mc ms) {x y : Int32} {off : Int} {tgt : Nat} (hd : decode cc pc = .ok (.if_icmp .eq off, 3)) (ht : (pc : Int) + off = (tgt : Int)) (h1 : (x = y) → JW κ k n ω tgt lv st) (h2 : (¬ x = y) → JW κ k n ω (pc + 3) lv st) : JW κ k n ω pc lv (.int y :: .int x :: st) := by
  obtain ⟨p, l, e, R, s, m, args, below, meth, c, A, Q, ε0, nL0⟩ := κ
  obtain ⟨⟨hx, hb, hml, hown, hts⟩, hr, hlk, hA, hG, hR, rfl, rfl⟩ := C
  intro H locs ls hP hD hS hl
  exact lv_icmp_eq hx hb hd ht (fun q => h1 q H locs ls hP hD hS hl) (fun q => h2 q H locs ls hP hD hS hl)
theorem j_if_ne (C : CX κ ε own cc nL ret fr lo mc ms) {x : Int32} {off : Int} {tgt : Nat} (hd : decode cc pc = .ok (.ifCond .ne off, 3)) (ht : (pc : Int) + off = (tgt : Int)) (h1 : (¬ x = 0) → JW κ k n ω tgt lv st) (h2 : (x = 0) → JW κ k n ω (pc + 3) lv st) : JW κ k n ω pc lv (.int x :: st) := by
  obtain ⟨p, l, e, R, s, m, args, below, meth, c, A, Q, ε0, nL0⟩ := κ
  obtain ⟨⟨hx, hb, hml, hown, hts⟩, hr, hlk, hA, hG, hR, rfl, rfl⟩ := C
  intro H locs ls hP hD hS hl
  exact lv_if_ne hx hb hd ht (fun q => h1 q H locs ls hP hD hS hl) (fun q => h2 q H locs ls hP hD hS hl)
theorem j_icmp_ne (C : CX κ ε own cc nL ret fr lo mc ms) {x y : Int32} {off : Int} {tgt : Nat} (hd : decode cc pc = .ok (.if_icmp .ne off, 3)) (ht : (pc : Int) + off = (tgt : Int)) (h1 : (¬ x = y) → JW κ k n ω tgt lv st) (h2 : (x = y) → JW κ k n ω (pc + 3) lv st) : JW κ k n ω pc lv (.int y :: .int x :: st) := by
  obtain ⟨p, l, e, R, s, m, args, below, meth, c, A, Q, ε0, nL0⟩ := κ
  obtain ⟨⟨hx, hb, hml, hown, hts⟩, hr, hlk, hA, hG, hR, rfl, rfl⟩ := C
  intro H locs ls hP hD hS hl
  exact lv_icmp_ne hx hb hd ht (fun q => h1 q H locs ls hP hD hS hl) (fun q => h2 q H locs ls hP hD hS hl)
theorem j_if_lt (C : CX κ ε own cc nL ret fr lo mc ms) {x : Int32} {off : Int} {tgt : Nat} (hd : decode cc pc = .ok (.ifCond .lt off, 3)) (ht : (pc : Int) + off = (tgt : Int)) (h1 : (x < 0) → JW κ k n ω tgt lv st) (h2 : (¬ x < 0) → JW κ k n ω (pc + 3) lv st) : JW κ k n ω pc lv (.int x :: st) := by
  obtain ⟨p, l, e, R, s, m, args, below, meth, c, A, Q, ε0, nL0⟩ := κ
  obtain ⟨⟨hx, hb, hml, hown, hts⟩, hr, hlk, hA, hG, hR, rfl, rfl⟩ := C
  intro H locs ls hP hD hS hl
  exact lv_if_lt hx hb hd ht (fun q => h1 q H locs ls hP hD hS hl) (fun q => h2 q H locs ls hP hD hS hl)
theorem j_icmp_lt (C : CX κ ε own cc nL ret fr lo mc ms) {x y : Int32} {off : Int} {tgt : Nat} (hd : decode cc pc = .ok (.if_icmp .lt off, 3)) (ht : (pc : Int) + off = (tgt : Int)) (h1 : (x < y) → JW κ k n ω tgt lv st) (h2 : (¬ x < y) → JW κ k n ω (pc + 3) lv st) : JW κ k n ω pc lv (.int y :: .int x :: st) := by
  obtain ⟨p, l, e, R, s, m, args, below, meth, c, A, Q, ε0, nL0⟩ := κ
  obtain ⟨⟨hx, hb, hml, hown, hts⟩, hr, hlk, hA, hG, hR, rfl, rfl⟩ := C
  intro H locs ls hP hD hS hl
  exact lv_icmp_lt hx hb hd ht (fun q => h1 q H locs ls hP hD hS hl) (fun q => h2 q H locs ls hP hD hS hl)
theorem j_if_ge (C : CX κ ε own cc nL ret fr lo mc ms) {x : Int32} {off : Int} {tgt : Nat} (hd : decode cc pc = .ok (.ifCond .ge off, 3)) (ht : (pc : Int) + off = (tgt : Int)) (h1 : (0 ≤ x) → JW κ k n ω tgt lv st) (h2 : (¬ 0 ≤ x) → JW κ k n ω (pc + 3) lv st) : JW κ k n ω pc lv (.int x :: st) := by
  obtain ⟨p, l, e, R, s, m, args, below, meth, c, A, Q, ε0, nL0⟩ := κ
  obtain ⟨⟨hx, hb, hml, hown, hts⟩, hr, hlk, hA, hG, hR, rfl, rfl⟩ := C
  intro H locs ls hP hD hS hl
  exact lv_if_ge hx hb hd ht (fun q => h1 q H locs ls hP hD hS hl) (fun q => h2 q H locs ls hP hD hS hl)
theorem j_icmp_ge (C : CX κ ε own cc nL ret fr lo mc ms) {x y : Int32} {off : Int} {tgt : Nat} (hd : decode cc pc = .ok (.if_icmp .ge off, 3)) (ht : (pc : Int) + off = (tgt : Int)) (h1 : (y ≤ x) → JW κ k n ω tgt lv st) (h2 : (¬ y ≤ x) → JW κ k n ω (pc + 3) lv st) : JW κ k n ω pc lv (.int y :: .int x :: st) := by
  obtain ⟨p, l, e, R, s, m, args, below, meth, c, A, Q, ε0, nL0⟩ := κ
  obtain ⟨⟨hx, hb, hml, hown, hts⟩, hr, hlk, hA, hG, hR, rfl, rfl⟩ := C
  intro H locs ls hP hD hS hl
  exact lv_icmp_ge hx hb hd ht (fun q => h1 q H locs ls hP hD hS hl) (fun q => h2 q H locs ls hP hD hS hl)
theorem j_if_gt (C : CX κ ε own cc nL ret fr lo mc ms) {x : Int32} {off : Int} {tgt : Nat} (hd : decode cc pc = .ok (.ifCond .gt off, 3)) (ht : (pc : Int) + off = (tgt : Int)) (h1 : (0 < x) → JW κ k n ω tgt lv st) (h2 : (¬ 0 < x) → JW κ k n ω (pc + 3) lv st) : JW κ k n ω pc lv (.int x :: st) := by
  obtain ⟨p, l, e, R, s, m, args, below, meth, c, A, Q, ε0, nL0⟩ := κ
  obtain ⟨⟨hx, hb, hml, hown, hts⟩, hr, hlk, hA, hG, hR, rfl, rfl⟩ := C
  intro H locs ls hP hD hS hl
  exact lv_if_gt hx hb hd ht (fun q => h1 q H locs ls hP hD hS hl) (fun q => h2 q H locs ls hP hD hS hl)
theorem j_icmp_gt (C : CX κ ε own cc nL ret fr lo mc ms) {x y : Int32} {off : Int} {tgt : Nat} (hd : decode cc pc = .ok (.if_icmp .gt off, 3)) (ht : (pc : Int) + off = (tgt : Int)) (h1 : (y < x) → JW κ k n ω tgt lv st) (h2 : (¬ y < x) → JW κ k n ω (pc + 3) lv st) : JW κ k n ω pc lv (.int y :: .int x :: st) := by
  obtain ⟨p, l, e, R, s, m, args, below, meth, c, A, Q, ε0, nL0⟩ := κ
  obtain ⟨⟨hx, hb, hml, hown, hts⟩, hr, hlk, hA, hG, hR, rfl, rfl⟩ := C
  intro H locs ls hP hD hS hl
  exact lv_icmp_gt hx hb hd ht (fun q => h1 q H locs ls hP hD hS hl) (fun q => h2 q H locs ls hP hD hS hl)
theorem j_if_le (C : CX κ ε own cc nL ret fr lo mc ms) {x : Int32} {off : Int} {tgt : Nat} (hd : decode cc pc = .ok (.ifCond .le off, 3)) (ht : (pc : Int) + off = (tgt : Int)) (h1 : (x ≤ 0) → JW κ k n ω tgt lv st) (h2 : (¬ x ≤ 0) → JW κ k n ω (pc + 3) lv st) : JW κ k n ω pc lv (.int x :: st) := by
  obtain ⟨p, l, e, R, s, m, args, below, meth, c, A, Q, ε0, nL0⟩ := κ
  obtain ⟨⟨hx, hb, hml, hown, hts⟩, hr, hlk, hA, hG, hR, rfl, rfl⟩ := C
  intro H locs ls hP hD hS hl
  exact lv_if_le hx hb hd ht (fun q => h1 q H locs ls hP hD hS hl) (fun q => h2 q H locs ls hP hD hS hl)
theorem j_icmp_le (C : CX κ ε own cc nL ret fr lo mc ms) {x y : Int32} {off : Int} {tgt : Nat} (hd : decode cc pc = .ok (.if_icmp .le off, 3)) (ht : (pc : Int) + off = (tgt : Int)) (h1 : (x ≤ y) → JW κ k n ω tgt lv st) (h2 : (¬ x ≤ y) → JW κ k n ω (pc + 3) lv st) : JW κ k n ω pc lv (.int y :: .int x :: st) := by
  obtain ⟨p, l, e, R, s, m, args, below, meth, c, A, Q, ε0, nL0⟩ := κ
  obtain ⟨⟨hx, hb, hml, hown, hts⟩, hr, hlk, hA, hG, hR, rfl, rfl⟩ := C
  intro H locs ls hP hD hS hl
  exact lv_icmp_le hx hb hd ht (fun q => h1 q H locs ls hP hD hS hl) (fun q => h2 q H locs ls hP hD hS hl)
theorem j_get (C : CX κ ε own cc nL ret fr lo mc ms) {ref Cn : String} {T : u_T} {N ci ix a : Nat} {fs : List Value} {v : Value} (hd : decode cc pc = .ok (.getfield ix, 3)) (q : Nat) (he : ω[q]? = some (a, .inr (ci, fs))) (hin : ∀ w ∈ u_ws Cn T N, w ∈ TB) (hc : vwCl[ci]? = some (Cn, T, N)) (f : Nat) (hf : f < N) (hw : Cond.fieldLink own ix ref (T f).2.1 (T f).2.2.1 ∈ TB) (hs : (T f).1 = ref) (hv : fs[f]? = some v) (h : JW κ k n ω (pc + 3) lv (v :: st)) : JW κ k n ω pc lv (.ref a :: st) := by
  obtain ⟨p, l, e, R, s, m, args, below, meth, c, A, Q, ε0, nL0⟩ := κ
  obtain ⟨⟨hx, hb, hml, hown, hts⟩, hr, hlk, hA, hG, hR, rfl, rfl⟩ := C
  intro H locs ls hP hD hS hl
  exact va_get hx hb hts hin hown hG.1 hP q he hc f hf (hts _ hw) (by rw [hs]; exact fun _ h9 => h9) hv hd (h H locs ls hP hD hS hl)
theorem j_put (C : CX κ ε own cc nL ret fr lo mc ms) {ref Cn : String} {T : u_T} {N ci ix a : Nat} {fs : List Value} {v : Value} {ω' : va_W} (hd : decode cc pc = .ok (.putfield ix, 3)) (q : Nat) (he : ω[q]? = some (a, .inr (ci, fs))) (hin : ∀ w ∈ u_ws Cn T N, w ∈ TB) (ty : Nat → FieldType) (hty : ∀ k, k < N → parseFieldDescriptor (T k).2.2.1 = some (ty k)) (hnm : ∀ a, a < N → ∀ b, b < N → a ≠ b → (T a).2.1 ≠ (T b).2.1) (hc : vwCl[ci]? = some (Cn, T, N)) (f : Nat) (hf : f < N) (hw : Cond.fieldLink own ix ref (T f).2.1 (T f).2.2.1 ∈ TB) (hs : (T f).1 = ref) (hfin : (T f).2.2.2 = false) (hn : narrow (ty f) v = v) (hfit : fits (ty f) v = true) (hl9 : f < fs.length) (hset : ω.set q (a, .inr (ci, fs.set f v)) = ω') (h : JW κ k n ω' (pc + 3) lv st) : JW κ k n ω pc lv (v :: .ref a :: st) := by
  obtain ⟨p, l, e, R, s, m, args, below, meth, c, A, Q, ε0, nL0⟩ := κ
  obtain ⟨⟨hx, hb, hml, hown, hts⟩, hr, hlk, hA, hG, hR, rfl, rfl⟩ := C
  intro H locs ls hP hD hS hl
  refine va_put hx hb hts hin ty hty hnm hown hG.1 hP hD hS q he hc f hf (hts _ hw) (by rw [hs]; exact fun _ h9 => h9) hfin (hty f hf) hn hfit hl9 hd (fun H locs hP hD hS => ?_)
  rw [hset] at hP hD
  exact h H locs ls hP hD hS hl
theorem j_putF (C : CX κ ε own cc nL ret fr lo mc ms) (hin2 : IN κ) {ref Cn : String} {T : u_T} {N ci ix a : Nat} {fs : List Value} {v : Value} {ω' : va_W} (hd : decode cc pc = .ok (.putfield ix, 3)) (q : Nat) (he : ω[q]? = some (a, .inr (ci, fs))) (hin : ∀ w ∈ u_ws Cn T N, w ∈ TB) (ty : Nat → FieldType) (hty : ∀ k, k < N → parseFieldDescriptor (T k).2.2.1 = some (ty k)) (hnm : ∀ a, a < N → ∀ b, b < N → a ≠ b → (T a).2.1 ≠ (T b).2.1) (hc : vwCl[ci]? = some (Cn, T, N)) (f : Nat) (hf : f < N) (hw : Cond.fieldLink own ix ref (T f).2.1 (T f).2.2.1 ∈ TB) (hs : (T f).1 = ref) (hfin : (T f).2.2.2 = true) (hdc : (T f).1 = own) (hn : narrow (ty f) v = v) (hfit : fits (ty f) v = true) (hl9 : f < fs.length) (hset : ω.set q (a, .inr (ci, fs.set f v)) = ω') (h : JW κ k n ω' (pc + 3) lv st) : JW κ k n ω pc lv (v :: .ref a :: st) := by
  obtain ⟨p, l, e, R, s, m, args, below, meth, c, A, Q, ε0, nL0⟩ := κ
  obtain ⟨⟨hx, hb, hml, hown, hts⟩, hr, hlk, hA, hG, hR, rfl, rfl⟩ := C
  intro H locs ls hP hD hS hl
  refine va_putF hx hb hts hin ty hty hnm hown hG.1 hP hD hS q he hc f hf (hts _ hw) (by rw [hs]; exact fun _ h9 => h9) hfin hin2 hdc (hty f hf) hn hfit hl9 hd (fun H locs hP hD hS => ?_)
  rw [hset] at hP hD
  exact h H locs ls hP hD hS hl
theorem j_iald (C : CX κ ε own cc nL ret fr lo mc ms) {a N : Nat} {f : Nat → Int32} {i : Int32} (hd : decode cc pc = .ok (.iaload, 1)) (q : Nat) (he : ω[q]? = some (a, .inl (ε.2.2.1, N, .inl f))) (hin : vp_in i N) (h : JW κ k n ω (pc + 1) lv (.int (f i.toNatClampNeg) :: st)) : JW κ k n ω pc lv (.int i :: .ref a :: st) := by
  obtain ⟨p, l, e, R, s, m, args, below, meth, c, A, Q, ε0, nL0⟩ := κ
  obtain ⟨⟨hx, hb, hml, hown, hts⟩, hr, hlk, hA, hG, hR, rfl, rfl⟩ := C
  intro H locs ls hP hD hS hl
  exact va_iald hx hb hG.1 hP q 1 he rfl hin hd (h H locs ls hP hD hS hl)
theorem j_bald (C : CX κ ε own cc nL ret fr lo mc ms) {a N : Nat} {f : Nat → Int32} {i : Int32} (hd : decode cc pc = .ok (.baload, 1)) (q : Nat) (he : ω[q]? = some (a, .inl (ε.2.1, N, .inl f))) (hin : vp_in i N) (h : JW κ k n ω (pc + 1) lv (.int (f i.toNatClampNeg) :: st)) : JW κ k n ω pc lv (.int i :: .ref a :: st) := by
  obtain ⟨p, l, e, R, s, m, args, below, meth, c, A, Q, ε0, nL0⟩ := κ
  obtain ⟨⟨hx, hb, hml, hown, hts⟩, hr, hlk, hA, hG, hR, rfl, rfl⟩ := C
  intro H locs ls hP hD hS hl
  exact va_bald hx hb hG.1 hP q 0 he rfl hin hd (h H locs ls hP hD hS hl)
theorem j_zald (C : CX κ ε own cc nL ret fr lo mc ms) {a N : Nat} {f : Nat → Int32} {i : Int32} (hd : decode cc pc = .ok (.baload, 1)) (q : Nat) (he : ω[q]? = some (a, .inl (ε.2.2.2.1, N, .inl f))) (hin : vp_in i N) (h : JW κ k n ω (pc + 1) lv (.int (f i.toNatClampNeg) :: st)) : JW κ k n ω pc lv (.int i :: .ref a :: st) := by
  obtain ⟨p, l, e, R, s, m, args, below, meth, c, A, Q, ε0, nL0⟩ := κ
  obtain ⟨⟨hx, hb, hml, hown, hts⟩, hr, hlk, hA, hG, hR, rfl, rfl⟩ := C
  intro H locs ls hP hD hS hl
  exact va_zald hx hb hG.1 hP q 2 he rfl hin hd (h H locs ls hP hD hS hl)
theorem j_iast (C : CX κ ε own cc nL ret fr lo mc ms) {a N : Nat} {f : Nat → Int32} {i x : Int32} {ω' : va_W} (hd : decode cc pc = .ok (.iastore, 1)) (q : Nat) (he : ω[q]? = some (a, .inl (ε.2.2.1, N, .inl f))) (hin : vp_in i N) (hset : ω.set q (a, .inl (ε.2.2.1, N, .inl (upd f i.toNatClampNeg x))) = ω') (h : JW κ k n ω' (pc + 1) lv st) : JW κ k n ω pc lv (.int x :: .int i :: .ref a :: st) := by
  obtain ⟨p, l, e, R, s, m, args, below, meth, c, A, Q, ε0, nL0⟩ := κ
  obtain ⟨⟨hx, hb, hml, hown, hts⟩, hr, hlk, hA, hG, hR, rfl, rfl⟩ := C
  intro H locs ls hP hD hS hl
  refine va_iast hx hb hG.1 hP hD hS q 1 he rfl hin hd (fun H locs hP hD hS => ?_)
  rw [hset] at hP hD
  exact h H locs ls hP hD hS hl
theorem j_bast (C : CX κ ε own cc nL ret fr lo mc ms) {a N : Nat} {f : Nat → Int32} {i x : Int32} {ω' : va_W} (hd : decode cc pc = .ok (.bastore, 1)) (q : Nat) (he : ω[q]? = some (a, .inl (ε.2.1, N, .inl f))) (hin : vp_in i N) (hset : ω.set q (a, .inl (ε.2.1, N, .inl (upd f i.toNatClampNeg (vp_nar .byte x)))) = ω') (h : JW κ k n ω' (pc + 1) lv st) : JW κ k n ω pc lv (.int x :: .int i :: .ref a :: st) := by
  obtain ⟨p, l, e, R, s, m, args, below, meth, c, A, Q, ε0, nL0⟩ := κ
  obtain ⟨⟨hx, hb, hml, hown, hts⟩, hr, hlk, hA, hG, hR, rfl, rfl⟩ := C
  intro H locs ls hP hD hS hl
  refine va_bast hx hb hG.1 hP hD hS q 0 he rfl hin hd (fun H locs hP hD hS => ?_)
  rw [hset] at hP hD
  exact h H locs ls hP hD hS hl
theorem j_zast (C : CX κ ε own cc nL ret fr lo mc ms) {a N : Nat} {f : Nat → Int32} {i x : Int32} {ω' : va_W} (hd : decode cc pc = .ok (.bastore, 1)) (q : Nat) (he : ω[q]? = some (a, .inl (ε.2.2.2.1, N, .inl f))) (hin : vp_in i N) (hset : ω.set q (a, .inl (ε.2.2.2.1, N, .inl (upd f i.toNatClampNeg (vp_nar .boolean x)))) = ω') (h : JW κ k n ω' (pc + 1) lv st) : JW κ k n ω pc lv (.int x :: .int i :: .ref a :: st) := by
  obtain ⟨p, l, e, R, s, m, args, below, meth, c, A, Q, ε0, nL0⟩ := κ
  obtain ⟨⟨hx, hb, hml, hown, hts⟩, hr, hlk, hA, hG, hR, rfl, rfl⟩ := C
  intro H locs ls hP hD hS hl
  refine va_zast hx hb hG.1 hP hD hS q 2 he rfl hin hd (fun H locs hP hD hS => ?_)
  rw [hset] at hP hD
  exact h H locs ls hP hD hS hl
theorem j_alen (C : CX κ ε own cc nL ret fr lo mc ms) {a : Nat} {x : vp_A} {cA : ClassId} {ty : FieldType} {v : Int32} (hd : decode cc pc = .ok (.arraylength, 1)) (q t0 : Nat) (he : ω[q]? = some (a, .inl (cA, x))) (ht : (tyl ε)[t0]? = some (cA, ty)) (hv : Int32.ofNat x.1 = v) (h : JW κ k n ω (pc + 1) lv (.int v :: st)) : JW κ k n ω pc lv (.ref a :: st) := by
  obtain ⟨p, l, e, R, s, m, args, below, meth, c, A, Q, ε0, nL0⟩ := κ
  obtain ⟨⟨hx, hb, hml, hown, hts⟩, hr, hlk, hA, hG, hR, rfl, rfl⟩ := C
  intro H locs ls hP hD hS hl
  exact va_alen hx hb hG.1 hP q t0 he ht hv hd (h H locs ls hP hD hS hl)
theorem j_iret (C : CX κ ε own cc nL ret fr lo mc ms) {x : Int32} {P : Option Value → va_W → Prop} (hQ : RQ κ ε P k n) (hr9 : ret = some .int) (hd : decode cc pc = .ok (.ireturn, 1)) (h : P (some (.int x)) ω) : JW κ k n ω pc lv [.int x] := by
  obtain ⟨p, l, e, R, s, m, args, below, meth, c, A, Q, ε0, nL0⟩ := κ
  obtain ⟨⟨hx, hb, hml, hown, hts⟩, hr, hlk, hA, hG, hR, rfl, rfl⟩ := C
  have hQ : Q = _ := hQ
  subst hQ
  intro H locs ls hP hD hS hl
  exact W.iret hx hb (hr.trans hr9) (fun t ht hW => ⟨⟨_, ω, rfl, h, by rw [ht]; exact hP, hD⟩, hS.F ht⟩) hS.2.2 hd hlk
theorem j_lret (C : CX κ ε own cc nL ret fr lo mc ms) {x : Int64} {P : Option Value → va_W → Prop} (hQ : RQ κ ε P k n) (hr9 : ret = some .long) (hd : decode cc pc = .ok (.lreturn, 1)) (h : P (some (.long x)) ω) : JW κ k n ω pc lv [.long x] := by
  obtain ⟨p, l, e, R, s, m, args, below, meth, c, A, Q, ε0, nL0⟩ := κ
  obtain ⟨⟨hx, hb, hml, hown, hts⟩, hr, hlk, hA, hG, hR, rfl, rfl⟩ := C
  have hQ : Q = _ := hQ
  subst hQ
  intro H locs ls hP hD hS hl
  exact W.lret hx hb (hr.trans hr9) (fun t ht hW => ⟨⟨_, ω, rfl, h, by rw [ht]; exact hP, hD⟩, hS.F ht⟩) hS.2.2 hd hlk
theorem j_vret (C : CX κ ε own cc nL ret fr lo mc ms)  {P : Option Value → va_W → Prop} (hQ : RQ κ ε P k n) (hr9 : ret = none) (hd : decode cc pc = .ok (.return_, 1)) (h : P (none) ω) : JW κ k n ω pc lv [] := by
  obtain ⟨p, l, e, R, s, m, args, below, meth, c, A, Q, ε0, nL0⟩ := κ
  obtain ⟨⟨hx, hb, hml, hown, hts⟩, hr, hlk, hA, hG, hR, rfl, rfl⟩ := C
  have hQ : Q = _ := hQ
  subst hQ
  intro H locs ls hP hD hS hl
  exact W.vret hx hb (hr.trans hr9) (fun t ht hW => ⟨⟨_, ω, rfl, h, by rw [ht]; exact hP, hD⟩, hS.F ht⟩) hS.2.2 hd hlk
theorem j_zret (C : CX κ ε own cc nL ret fr lo mc ms) {x : Int32} {P : Option Value → va_W → Prop} (hQ : RQ κ ε P k n) {ty : FieldType} (hr9 : ret = some ty) (hn9 : narrow ty (.int x) = .int x) (hd : decode cc pc = .ok (.ireturn, 1)) (h : P (some (.int x)) ω) : JW κ k n ω pc lv [.int x] := by
  obtain ⟨p, l, e, R, s, m, args, below, meth, c, A, Q, ε0, nL0⟩ := κ
  obtain ⟨⟨hx, hb, hml, hown, hts⟩, hr, hlk, hA, hG, hR, rfl, rfl⟩ := C
  have hQ : Q = _ := hQ
  subst hQ
  intro H locs ls hP hD hS hl
  exact W.zret hx hb (hr.trans hr9) hn9 (fun t ht hW => ⟨⟨_, ω, rfl, h, by rw [ht]; exact hP, hD⟩, hS.F ht⟩) hS.2.2 hd hlk
theorem j_aret (C : CX κ ε own cc nL ret fr lo mc ms) {a : Nat} {P : Option Value → va_W → Prop} (hQ : RQ κ ε P k n) {C9 : String} (hr9 : ret = some (.object C9)) (hd : decode cc pc = .ok (.areturn, 1)) (h : P (some (.ref a)) ω) : JW κ k n ω pc lv [.ref a] := by
  obtain ⟨p, l, e, R, s, m, args, below, meth, c, A, Q, ε0, nL0⟩ := κ
  obtain ⟨⟨hx, hb, hml, hown, hts⟩, hr, hlk, hA, hG, hR, rfl, rfl⟩ := C
  have hQ : Q = _ := hQ
  subst hQ
  intro H locs ls hP hD hS hl
  exact W.aret hx hb (hr.trans hr9) (Or.inl ⟨_, rfl⟩) (Or.inr ⟨_, rfl⟩) (fun t ht hW => ⟨⟨_, ω, rfl, h, by rw [ht]; exact hP, hD⟩, hS.F ht⟩) hS.2.2 hd hlk
theorem j_widen {k2 n2 : Nat} (h1 : k ≤ k2) (h2 : n ≤ n2) (h : JW κ k2 n2 ω pc lv st) : JW κ k n ω pc lv st := by
  obtain ⟨p, l, e, R, s, m, args, below, meth, c, A, Q, ε0, nL0⟩ := κ
  intro H locs ls hP hD hS hl
  exact W.widen h1 h2 (h H locs ls hP hD hS hl)
theorem j_lv (ks : List Nat) (he : lv_pick lv ks = lv') (h : JW κ k n ω pc lv' st) : JW κ k n ω pc lv st := by
  obtain ⟨p, l, e, R, s, m, args, below, meth, c, A, Q, ε0, nL0⟩ := κ
  intro H locs ls hP hD hS hl
  exact h H locs ls hP hD hS (lv_sub hl ks he)
theorem j_to {ω' : va_W} {lv2 : List (Nat × Value)} {st' : List Value} (h1 : ω = ω') (h2 : lv = lv2) (h3 : st = st') (h : JW κ k n ω' pc lv2 st') : JW κ k n ω pc lv st := by
  subst h1; subst h2; subst h3; exact h
/-- what the tables say of a method that is called: its code, that it may be called so -/
def MV (y : MethodName) (cc : ByteArray) (nL : Nat) (ret : Option FieldType) (Cn : String) (na : Nat) : Prop := Cond.code y cc nL ret ∈ TB ∧ Cond.instanceMethod y ∈ TB ∧ Cond.selects Cn y y ∈ TB ∧ Cond.initialized Cn ∈ TB ∧ y.cls = Cn ∧ y.cls ≠ "java/lang/invoke/MethodHandle" ∧ y.cls ≠ "java/lang/invoke/VarHandle" ∧ (parseMethodDescriptor y.desc).map (fun d => d.parameters.length) = some na
def MS (y : MethodName) (cc : ByteArray) (nL : Nat) (ret : Option FieldType) (na : Nat) : Prop := Cond.code y cc nL ret ∈ TB ∧ Cond.static y ∈ TB ∧ Cond.initialized y.cls ∈ TB ∧ y.cls ≠ "java/lang/invoke/MethodHandle" ∧ y.cls ≠ "java/lang/invoke/VarHandle" ∧ (parseMethodDescriptor y.desc).map (fun d => d.parameters.length) = some na
def MI (y : MethodName) (cc : ByteArray) (nL : Nat) (na : Nat) : Prop := Cond.code y cc nL none ∈ TB ∧ Cond.instanceMethod y ∈ TB ∧ Cond.initialized y.cls ∈ TB ∧ y.name = "<init>" ∧ y.cls ≠ "java/lang/invoke/MethodHandle" ∧ y.cls ≠ "java/lang/invoke/VarHandle" ∧ (parseMethodDescriptor y.desc).map (fun d => d.parameters.length) = some na
theorem good_cons {y : MethodName} {cc : ByteArray} {nL : Nat} {ret : Option FieldType} (h : Cond.code y cc nL ret ∈ TB) : GoodIn TB (.code y cc nL ret :: TB) := fun w hw => (List.mem_cons.mp hw).elim (fun q => by subst q; exact TB_gd _ h) (TB_gd w)
/-- behind a call, whatever it gave back -/
theorem j_back {κ : KT} {ε : ET} {own : String} {cc : ByteArray} {nL : Nat} {ret : Option FieldType} {fr lo mc ms : Nat} {k n : Nat} {ω : va_W} {pc : Nat} {lv : List (Nat × Value)} {st rest : List Value} {P : Option Value → va_W → Prop} {mc1 ms1 : Nat} (C : CX κ ε own cc nL ret fr lo mc ms)
    (hr : match κ with | (p, l, e, R, s, m, args, below, meth, c, A, Q, ε0, nL0) => ∀ (H : Heap) (locs : List Loc) (ls : Array Slot), va_P ε.1 vwCl ω H → va_D A ω → va_S A s.heap H locs → lv_has ls nL lv → ∃ av : Array Value, va_Run p l e R s m args below meth c H locs k n mc1 ms1 (F0 m pc ls st) rest (CQ ε (va_A ω H.size) P av) (va_A ω H.size))
    (h : ∀ (r : Option Value) (ω' : va_W), P r ω' → JW κ (k + mc1) (n + ms1) ω' (pc + 3) lv (r.toList ++ rest)) : JW κ k n ω pc lv st := by
  obtain ⟨p, l, e, R, s, m, args, below, meth, c, A, Q, ε0, nL0⟩ := κ
  obtain ⟨⟨hx, hb, hml, hown, hts⟩, hr, hlk, hA, hG, hR, rfl, rfl⟩ := C
  intro H locs ls hP hD hS hl
  obtain ⟨av, hr⟩ := hr H locs ls hP hD hS hl
  intro T hT X
  obtain ⟨v, st₀, t, T', L, h0, X', hL, e1, e2, ⟨⟨r, ω', hv, hp, hP1, hD1⟩, hz, hk⟩, hst⟩ := hr T hT X
  cases hv
  rw [h0] at hz hk
  have hF : ∀ q, va_A ω H.size q → A q := fun q hq => by
    rcases hq with ⟨i, e9, hi⟩ | hq
    · exact hD.2 i _ hi
    · exact hA q (Nat.le_trans hS.1 hq)
  have hS1 : va_S A s.heap T'.heap (locs ++ L) := ⟨Nat.le_trans hS.1 (by rw [e1]; exact hz), fun q h1 h2 => by rw [e1, hk q (Nat.lt_of_lt_of_le h1 hS.1) (fun z => h2 (hF q z))]; exact hS.2.1 q h1 h2, fun q hq => by
      rcases List.mem_append.mp hq with h | h
      · exact hS.2.2 q h
      · exact hF _ (hL q h)⟩
  obtain ⟨t2, a1, b1⟩ := h _ ω' hp T'.heap (locs ++ L) ls (by rw [e1]; exact hP1) (hD1.weaken (fun _ q _ h => hF q.1 h)) hS1 hl T' rfl X'
  exact ⟨t2, hst t2 a1, b1⟩
theorem j_callV (C : CX κ ε own cc nL ret fr lo mc ms) {y : MethodName} {cc1 : ByteArray} {nL1 : Nat} {ret1 : Option FieldType} {fr1 lo1 mc1 ms1 ix na : Nat} {P : Option Value → va_W → Prop} {As rest : List Value} {Cn : String} {T : u_T} {N ci b : Nat} {fs : List Value} (hM : CT ε y cc1 nL1 ret1 fr1 lo1 mc1 ms1 (.ref b :: As) ω P) (hv : MV y cc1 nL1 ret1 Cn na) (hw : Cond.methodLink own ix y ∈ TB) (hd : decode cc pc = .ok (.invokevirtual ix, 3)) (q : Nat) (he : ω[q]? = some (b, .inr (ci, fs))) (hc : vwCl[ci]? = some (Cn, T, N)) (hn : As.length = na) (hst : st = As.reverse ++ .ref b :: rest) (hroom : fr1 + 1 ≤ fr ∧ 8 + (nL1 + 11) + lo1 ≤ lo ∧ k + mc1 ≤ mc ∧ n + ms1 ≤ ms) (hcat : (rest.map fun v => v.category).sum ≤ 8) (h : ∀ (r : Option Value) (ω' : va_W), P r ω' → JW κ (k + mc1) (n + ms1) ω' (pc + 3) lv (r.toList ++ rest)) : JW κ k n ω pc lv st := by
  refine j_back (P := P) (rest := rest) (mc1 := mc1) (ms1 := ms1) C ?_ h
  obtain ⟨p, l, e, R, s, m, args, below, meth, c, A, Q, ε0, nL0⟩ := κ
  obtain ⟨⟨hx, hb, hml, hown, hts⟩, hr, hlk, hA, hG, hR, rfl, rfl⟩ := C
  intro H locs ls hP hD hS hl
  have hR2 : fr1 + 1 ≤ R.frames ∧ 8 + (nL1 + 11) + lo1 ≤ R.locals := by rw [hR]; exact ⟨hroom.1, hroom.2.1⟩
  obtain ⟨h1, h2, h3, h4, h5⟩ := hv
  have hgd : GoodIn TB (wsV own ix Cn y (.code y cc1 nL1 ret1 :: TB)) := by
    intro w hw9
    unfold wsV at hw9
    rcases List.mem_append.mp hw9 with hw9 | hw9
    · simp only [List.mem_cons, List.not_mem_nil, or_false] at hw9
      rcases hw9 with rfl | rfl | rfl | rfl
      · exact TB_gd _ hw
      · exact TB_gd _ h2
      · exact TB_gd _ h3
      · exact TB_gd _ h4
    · exact good_cons h1 w hw9
  refine ⟨_, va_runV (As := As) (rest := rest) ⟨hx, hb, hml, hown, hts⟩ (hM l H.size) (cwV na hts hgd rfl rfl rfl h5 hR2) ⟨fun a U g mk q => ⟨q.1, q.2.1, q.2.2.1, q.2.2.2.1, q.2.2.2.2.blind⟩, va_recv hG.1 hP hc he, fun U hU hW => ⟨rfl, by rw [hU], by rw [hU]; exact hP, hD.weaken (fun _ _ _ _ => trivial), hG.call hS hU hW (fun q hq => by
      rcases hq with ⟨i, e9, hi⟩ | hq
      · exact hD.2 i _ hi
      · exact hA q (Nat.le_trans hS.1 hq))⟩⟩ rfl hn hl.1 hst (lv_room hcat) hd ⟨by rw [hR]; exact hroom.2.2.1, by rw [hR]; exact hroom.2.2.2⟩⟩
theorem j_callS (C : CX κ ε own cc nL ret fr lo mc ms) {y : MethodName} {cc1 : ByteArray} {nL1 : Nat} {ret1 : Option FieldType} {fr1 lo1 mc1 ms1 ix na : Nat} {P : Option Value → va_W → Prop} {As rest : List Value}  (hM : CT ε y cc1 nL1 ret1 fr1 lo1 mc1 ms1 (As) ω P) (hv : MS y cc1 nL1 ret1 na) (hw : Cond.methodLink own ix y ∈ TB) (hd : decode cc pc = .ok (.invokestatic ix, 3)) (hn : As.length = na) (hst : st = As.reverse ++ rest) (hroom : fr1 + 1 ≤ fr ∧ 8 + (nL1 + 11) + lo1 ≤ lo ∧ k + mc1 ≤ mc ∧ n + ms1 ≤ ms) (hcat : (rest.map fun v => v.category).sum ≤ 8) (h : ∀ (r : Option Value) (ω' : va_W), P r ω' → JW κ (k + mc1) (n + ms1) ω' (pc + 3) lv (r.toList ++ rest)) : JW κ k n ω pc lv st := by
  refine j_back (P := P) (rest := rest) (mc1 := mc1) (ms1 := ms1) C ?_ h
  obtain ⟨p, l, e, R, s, m, args, below, meth, c, A, Q, ε0, nL0⟩ := κ
  obtain ⟨⟨hx, hb, hml, hown, hts⟩, hr, hlk, hA, hG, hR, rfl, rfl⟩ := C
  intro H locs ls hP hD hS hl
  have hR2 : fr1 + 1 ≤ R.frames ∧ 8 + (nL1 + 11) + lo1 ≤ R.locals := by rw [hR]; exact ⟨hroom.1, hroom.2.1⟩
  obtain ⟨h1, h2, h3, h4⟩ := hv
  refine ⟨_, va_runS (As := As) (rest := rest) ⟨hx, hb, hml, hown, hts⟩ (hM l H.size) (⟨callB_of na hts (good_cons h1) rfl rfl rfl (hts _ h3) (hts _ hw) h4 hR2, hts _ h2⟩) ⟨fun a U g mk q => ⟨q.1, q.2.1, q.2.2.1, q.2.2.2.1, q.2.2.2.2.blind⟩, fun U hU hW => ⟨rfl, by rw [hU], by rw [hU]; exact hP, hD.weaken (fun _ _ _ _ => trivial), hG.call hS hU hW (fun q hq => by
      rcases hq with ⟨i, e9, hi⟩ | hq
      · exact hD.2 i _ hi
      · exact hA q (Nat.le_trans hS.1 hq))⟩⟩ rfl hn hl.1 hst (lv_room hcat) hd ⟨by rw [hR]; exact hroom.2.2.1, by rw [hR]; exact hroom.2.2.2⟩⟩
theorem j_callSN (C : CX κ ε own cc nL ret fr lo mc ms) {y : MethodName} {cc1 : ByteArray} {nL1 : Nat} {ret1 : Option FieldType} {fr1 lo1 mc1 ms1 ix na : Nat} {P : Option Value → va_W → Prop} {As rest : List Value} {host : String} (hM : CT ε y cc1 nL1 ret1 fr1 lo1 mc1 ms1 (As) ω P) (hv : MS y cc1 nL1 ret1 na) (hw : Cond.methodLinkNest own ix y host ∈ nestW) (hd : decode cc pc = .ok (.invokestatic ix, 3)) (hn : As.length = na) (hst : st = As.reverse ++ rest) (hroom : fr1 + 1 ≤ fr ∧ 8 + (nL1 + 11) + lo1 ≤ lo ∧ k + mc1 ≤ mc ∧ n + ms1 ≤ ms) (hcat : (rest.map fun v => v.category).sum ≤ 8) (h : ∀ (r : Option Value) (ω' : va_W), P r ω' → JW κ (k + mc1) (n + ms1) ω' (pc + 3) lv (r.toList ++ rest)) : JW κ k n ω pc lv st := by
  refine j_back (P := P) (rest := rest) (mc1 := mc1) (ms1 := ms1) C ?_ h
  obtain ⟨p, l, e, R, s, m, args, below, meth, c, A, Q, ε0, nL0⟩ := κ
  obtain ⟨⟨hx, hb, hml, hown, hts⟩, hr, hlk, hA, hG, hR, rfl, rfl⟩ := C
  intro H locs ls hP hD hS hl
  have hR2 : fr1 + 1 ≤ R.frames ∧ 8 + (nL1 + 11) + lo1 ≤ R.locals := by rw [hR]; exact ⟨hroom.1, hroom.2.1⟩
  obtain ⟨h1, h2, h3, h4⟩ := hv
  refine ⟨_, va_runSN (As := As) (rest := rest) ⟨hx, hb, hml, hown, hts⟩ (hM l H.size) (⟨va_cnB na hts (good_cons h1) rfl rfl rfl (hG.2.1 _ hw) (hts _ h3) h4 hR2, hts _ h2, trivial⟩) ⟨fun a U g mk q => ⟨q.1, q.2.1, q.2.2.1, q.2.2.2.1, q.2.2.2.2.blind⟩, fun U hU hW => ⟨rfl, by rw [hU], by rw [hU]; exact hP, hD.weaken (fun _ _ _ _ => trivial), hG.call hS hU hW (fun q hq => by
      rcases hq with ⟨i, e9, hi⟩ | hq
      · exact hD.2 i _ hi
      · exact hA q (Nat.le_trans hS.1 hq))⟩⟩ rfl hn hl.1 hst (lv_room hcat) hd ⟨by rw [hR]; exact hroom.2.2.1, by rw [hR]; exact hroom.2.2.2⟩⟩
theorem j_callI (C : CX κ ε own cc nL ret fr lo mc ms) {y : MethodName} {cc1 : ByteArray} {nL1 : Nat} {ret1 : Option FieldType} {fr1 lo1 mc1 ms1 ix na : Nat} {P : Option Value → va_W → Prop} {As rest : List Value} {b : Nat} (hM : CT ε y cc1 nL1 ret1 fr1 lo1 mc1 ms1 (.ref b :: As) ω P) (hv : MI y cc1 nL1 na) (hrt : ret1 = none) (hw : Cond.methodLink own ix y ∈ TB) (hd : decode cc pc = .ok (.invokespecial ix, 3)) (hn : As.length = na) (hst : st = As.reverse ++ .ref b :: rest) (hroom : fr1 + 1 ≤ fr ∧ 8 + (nL1 + 11) + lo1 ≤ lo ∧ k + mc1 ≤ mc ∧ n + ms1 ≤ ms) (hcat : (rest.map fun v => v.category).sum ≤ 8) (h : ∀ (r : Option Value) (ω' : va_W), P r ω' → JW κ (k + mc1) (n + ms1) ω' (pc + 3) lv (r.toList ++ rest)) : JW κ k n ω pc lv st := by
  refine j_back (P := P) (rest := rest) (mc1 := mc1) (ms1 := ms1) C ?_ h
  obtain ⟨p, l, e, R, s, m, args, below, meth, c, A, Q, ε0, nL0⟩ := κ
  obtain ⟨⟨hx, hb, hml, hown, hts⟩, hr, hlk, hA, hG, hR, rfl, rfl⟩ := C
  intro H locs ls hP hD hS hl
  have hR2 : fr1 + 1 ≤ R.frames ∧ 8 + (nL1 + 11) + lo1 ≤ R.locals := by rw [hR]; exact ⟨hroom.1, hroom.2.1⟩
  subst hrt
  obtain ⟨h1, h2, h3, h4, h5⟩ := hv
  refine ⟨_, va_runI (As := As) (rest := rest) ⟨hx, hb, hml, hown, hts⟩ (hM l H.size) (cwI na hts (good_cons h1) rfl rfl rfl (hts _ h3) (hts _ hw) (hts _ h2) h4 h5 hR2) ⟨fun a U g mk q => ⟨q.1, q.2.1, q.2.2.1, q.2.2.2.1, q.2.2.2.2.blind⟩, fun U hU hW => ⟨rfl, by rw [hU], by rw [hU]; exact hP, hD.weaken (fun _ _ _ _ => trivial), hG.call hS hU hW (fun q hq => by
      rcases hq with ⟨i, e9, hi⟩ | hq
      · exact hD.2 i _ hi
      · exact hA q (Nat.le_trans hS.1 hq))⟩⟩ rfl hn hl.1 hst (lv_room hcat) hd ⟨by rw [hR]; exact hroom.2.2.1, by rw [hR]; exact hroom.2.2.2⟩⟩
theorem j_objInit (C : CX κ ε own cc nL ret fr lo mc ms) {ix a : Nat} (hw : Cond.methodLink own ix objectInit ∈ TB) (hd : decode cc pc = .ok (.invokespecial ix, 3)) (hroom : 1 ≤ fr ∧ (st.map fun v => v.category).sum + 12 ≤ lo) (h : JW κ k n ω (pc + 3) lv st) : JW κ k n ω pc lv (.ref a :: st) := by
  obtain ⟨p, l, e, R, s, m, args, below, meth, c, A, Q, ε0, nL0⟩ := κ
  obtain ⟨⟨hx, hb, hml, hown, hts⟩, hr, hlk, hA, hG, hR, rfl, rfl⟩ := C
  intro H locs ls hP hD hS hl
  refine W.objInit (rest := st) hx hb hown (hts _ hw) (hts _ wi_objectInit) (hts _ wc_objectInit) rfl (by rw [hml]; exact hl.1) rfl hd (by rw [hR]; exact hroom.1) (by rw [hR]; have := hroom.2; show 2 * 0 + _ + 12 ≤ lo; omega) ?_
  exact W.eq (g2 := F0 m (pc + 3) ls st) rfl (h H locs ls hP hD hS hl)
theorem j_new (C : CX κ ε own cc nL ret fr lo mc ms) {Cn : String} {T : u_T} {N ci ix : Nat} {fs : List Value} (hd : decode cc pc = .ok (.new ix, 3)) (hin : ∀ w ∈ u_ws Cn T N, w ∈ TB) (ty : Nat → FieldType) (hty : ∀ k, k < N → parseFieldDescriptor (T k).2.2.1 = some (ty k)) (hw : Cond.classLink own ix Cn ∈ TB) (hi : Cond.instantiable Cn N ∈ TB) (hz : Cond.initialized Cn ∈ TB) (hc : vwCl[ci]? = some (Cn, T, N)) (hfs : ∀ j, j < N → defaultValue (ty j) = vp_V fs j) (hroom : k + 1 ≤ mc ∧ n + N ≤ ms) (h : ∀ q : Nat, JW κ (k + 1) (n + N) (ω ++ [(q, .inr (ci, fs))]) (pc + 3) lv (.ref q :: st)) : JW κ k n ω pc lv st := by
  obtain ⟨p, l, e, R, s, m, args, below, meth, c, A, Q, ε0, nL0⟩ := κ
  obtain ⟨⟨hx, hb, hml, hown, hts⟩, hr, hlk, hA, hG, hR, rfl, rfl⟩ := C
  intro H locs ls hP hD hS hl
  exact va_new hx hb hts hin ty hty hown (hts _ hw) (hts _ hi) (hts _ hz) hG.1 hP hD hS hA hc hfs (by rw [hR]; exact hroom.1) (by rw [hR]; exact hroom.2) hd (fun q H hP hD hS => h q H locs ls hP hD hS hl)
theorem arr_unique {U : State} {cA cA' : ClassId} {ty : FieldType} (h : va_RA U cA ty) (h' : va_RA U cA' ty) : cA = cA' := by
  cases ty <;> simp only [va_RA] at h h' <;> first | exact Option.some.inj (h.symm.trans h') | (obtain ⟨_, _, _, _, _, h4⟩ := h; obtain ⟨_, _, _, _, _, h5⟩ := h'; exact Option.some.inj (h4.symm.trans h5))
theorem j_newI (C : CX κ ε own cc nL ret fr lo mc ms) {N : Nat} {x : Int32} (hd : decode cc pc = .ok (.newarray .int, 2)) (hn0 : ¬ x < 0) (hN : x.toNatClampNeg = N) (hN9 : N ≤ 65536) (hroom : k + 1 ≤ mc ∧ n + N ≤ ms) (h : ∀ q : Nat, JW κ (k + 1) (n + N) (ω ++ [(q, .inl (ε.2.2.1, N, .inl (fun _ => 0)))]) (pc + 2) lv (.ref q :: st)) : JW κ k n ω pc lv (.int x :: st) := by
  obtain ⟨p, l, e, R, s, m, args, below, meth, c, A, Q, ε0, nL0⟩ := κ
  obtain ⟨⟨hx, hb, hml, hown, hts⟩, hr, hlk, hA, hG, hR, rfl, rfl⟩ := C
  intro H locs ls hP hD hS hl
  refine va_newa (a0 := (N, .inl (fun _ => 0))) hx hb (atype := .int) (hts _ wa_int) rfl hG.1 hP hD hS hA (fun cA => by rw [vp_cell_i]; rfl) hn0 hN (by show N * 4 ≤ 536870912; omega) (by rw [hR]; exact hroom.1) (by rw [hR]; exact hroom.2) hd (fun q cA H hK hP hD hS => ?_)
  have h1 := (hK.2 3 _ rfl).2
  have h2 := (hG.1.2 1 _ rfl).2
  have h3 := arr_unique h1 h2
  subst h3
  exact h q H locs ls hP hD hS hl
theorem j_newB (C : CX κ ε own cc nL ret fr lo mc ms) {N : Nat} {x : Int32} (hd : decode cc pc = .ok (.newarray .byte, 2)) (hn0 : ¬ x < 0) (hN : x.toNatClampNeg = N) (hN9 : N ≤ 65536) (hroom : k + 1 ≤ mc ∧ n + N ≤ ms) (h : ∀ q : Nat, JW κ (k + 1) (n + N) (ω ++ [(q, .inl (ε.2.1, N, .inl (fun _ => 0)))]) (pc + 2) lv (.ref q :: st)) : JW κ k n ω pc lv (.int x :: st) := by
  obtain ⟨p, l, e, R, s, m, args, below, meth, c, A, Q, ε0, nL0⟩ := κ
  obtain ⟨⟨hx, hb, hml, hown, hts⟩, hr, hlk, hA, hG, hR, rfl, rfl⟩ := C
  intro H locs ls hP hD hS hl
  refine va_newa (a0 := (N, .inl (fun _ => 0))) hx hb (atype := .byte) (hts _ wa_byte) rfl hG.1 hP hD hS hA (fun cA => by rw [vp_cell_i]; rfl) hn0 hN (by show N * 1 ≤ 536870912; omega) (by rw [hR]; exact hroom.1) (by rw [hR]; exact hroom.2) hd (fun q cA H hK hP hD hS => ?_)
  have h1 := (hK.2 3 _ rfl).2
  have h2 := (hG.1.2 0 _ rfl).2
  have h3 := arr_unique h1 h2
  subst h3
  exact h q H locs ls hP hD hS hl
theorem j_newZ (C : CX κ ε own cc nL ret fr lo mc ms) {N : Nat} {x : Int32} (hd : decode cc pc = .ok (.newarray .boolean, 2)) (hn0 : ¬ x < 0) (hN : x.toNatClampNeg = N) (hN9 : N ≤ 65536) (hroom : k + 1 ≤ mc ∧ n + N ≤ ms) (h : ∀ q : Nat, JW κ (k + 1) (n + N) (ω ++ [(q, .inl (ε.2.2.2.1, N, .inl (fun _ => 0)))]) (pc + 2) lv (.ref q :: st)) : JW κ k n ω pc lv (.int x :: st) := by
  obtain ⟨p, l, e, R, s, m, args, below, meth, c, A, Q, ε0, nL0⟩ := κ
  obtain ⟨⟨hx, hb, hml, hown, hts⟩, hr, hlk, hA, hG, hR, rfl, rfl⟩ := C
  intro H locs ls hP hD hS hl
  refine va_newa (a0 := (N, .inl (fun _ => 0))) hx hb (atype := .boolean) (hts _ wa_boolean) rfl hG.1 hP hD hS hA (fun cA => by rw [vp_cell_i]; rfl) hn0 hN (by show N * 1 ≤ 536870912; omega) (by rw [hR]; exact hroom.1) (by rw [hR]; exact hroom.2) hd (fun q cA H hK hP hD hS => ?_)
  have h1 := (hK.2 3 _ rfl).2
  have h2 := (hG.1.2 2 _ rfl).2
  have h3 := arr_unique h1 h2
  subst h3
  exact h q H locs ls hP hD hS hl
theorem j_ldcw (C : CX κ ε own cc nL ret fr lo mc ms) {ix : Nat} {v : Int32} (hd : decode cc pc = .ok (.ldc_w ix, 3)) (hw : Cond.constant own ix v ∈ TB) (h : JW κ k n ω (pc + 3) lv (.int v :: st)) : JW κ k n ω pc lv (st) := by
  obtain ⟨p, l, e, R, s, m, args, below, meth, c, A, Q, ε0, nL0⟩ := κ
  obtain ⟨⟨hx, hb, hml, hown, hts⟩, hr, hlk, hA, hG, hR, rfl, rfl⟩ := C
  intro H locs ls hP hD hS hl
  exact lv_ldcw hx hb hown (hts _ hw) hd (h H locs ls hP hD hS hl)
theorem j_tswIn (C : CX κ ε own cc nL ret fr lo mc ms) {x kv : Int32} {df a9 b9 off : Int} {offs : Array Int} {len tgt : Nat} (hd : decode cc pc = .ok (.tableswitch df a9 b9 offs, len)) (hx9 : x = kv) (h1 : ¬ kv.toInt < a9) (h2 : ¬ b9 < kv.toInt) (ho : offs[(kv.toInt - a9).toNat]? = some off) (ht : (pc : Int) + off = (tgt : Int)) (h : JW κ k n ω tgt lv st) : JW κ k n ω pc lv (.int x :: st) := by
  subst hx9
  obtain ⟨p, l, e, R, s, m, args, below, meth, c, A, Q, ε0, nL0⟩ := κ
  obtain ⟨⟨hx, hb, hml, hown, hts⟩, hr, hlk, hA, hG, hR, rfl, rfl⟩ := C
  intro H locs ls hP hD hS hl
  exact lv_tableIn hx hb hd h1 h2 ho ht (h H locs ls hP hD hS hl)
theorem j_tswOut (C : CX κ ε own cc nL ret fr lo mc ms) {x : Int32} {df a9 b9 : Int} {offs : Array Int} {len tgt : Nat} (hd : decode cc pc = .ok (.tableswitch df a9 b9 offs, len)) (h1 : x.toInt < a9 ∨ b9 < x.toInt) (ht : (pc : Int) + df = (tgt : Int)) (h : JW κ k n ω tgt lv st) : JW κ k n ω pc lv (.int x :: st) := by
  obtain ⟨p, l, e, R, s, m, args, below, meth, c, A, Q, ε0, nL0⟩ := κ
  obtain ⟨⟨hx, hb, hml, hown, hts⟩, hr, hlk, hA, hG, hR, rfl, rfl⟩ := C
  intro H locs ls hP hD hS hl
  exact lv_tableOut hx hb hd h1 ht (h H locs ls hP hD hS hl)
theorem j_lsw (C : CX κ ε own cc nL ret fr lo mc ms) {x : Int32} {df off : Int} {ps : Array (Int × Int)} {len tgt : Nat} (hd : decode cc pc = .ok (.lookupswitch df ps, len)) (hp : (ps.toList.zip (ps.toList.drop 1)).all (fun (a, next) => a.1 < next.1) = true) (ho : Op.lookupswitch.offset ps.toList df x.toInt = off) (ht : (pc : Int) + off = (tgt : Int)) (h : JW κ k n ω tgt lv st) : JW κ k n ω pc lv (.int x :: st) := by
  obtain ⟨p, l, e, R, s, m, args, below, meth, c, A, Q, ε0, nL0⟩ := κ
  obtain ⟨⟨hx, hb, hml, hown, hts⟩, hr, hlk, hA, hG, hR, rfl, rfl⟩ := C
  intro H locs ls hP hD hS hl
  exact lv_lookup hx hb hd hp ho ht (h H locs ls hP hD hS hl)
theorem tsw_out {x : Int32} {hi : Nat} (hhi : hi < 2 ^ 31) (h : ∀ j : Nat, j ≤ hi → ¬ x = nI j) : x.toInt < 0 ∨ (hi : Int) < x.toInt := by
  rcases Int.lt_or_le x.toInt 0 with q | q
  · exact Or.inl q
  · right
    rcases Int.lt_or_le (hi : Int) x.toInt with r | r
    · exact r
    · exact absurd (Int32.toInt_inj.mp (by rw [nI_toInt (by omega)]; omega)) (h x.toInt.toNat (by omega))
theorem wc_min : Cond.code Lib.Math.min.name Lib.Math.min.code 2 (some .int) ∈ TB := tb_3 13 rfl rfl
theorem j_min (C : CX κ ε own cc nL ret fr lo mc ms) {ix : Nat} {x y : Int32} (hd : decode cc pc = .ok (.invokestatic ix, 3)) (hw : Cond.methodLink own ix yJ9_min_7cf53 ∈ TB) (hroom : 1 ≤ fr ∧ (st.map fun v => v.category).sum + 13 ≤ lo ∧ k ≤ mc ∧ n ≤ ms) (h : JW κ k n ω (pc + 3) lv (.int (if y < x then y else x) :: st)) : JW κ k n ω pc lv (.int y :: .int x :: st) := by
  obtain ⟨p, l, e, R, s, m, args, below, meth, c, A, Q, ε0, nL0⟩ := κ
  obtain ⟨⟨hx, hb, hml, hown, hts⟩, hr, hlk, hA, hG, hR, rfl, rfl⟩ := C
  intro H locs ls hP hD hS hl
  exact va_mmin hx hb (by rw [hml]; exact hl.1.symm) hown (hts _ hw) (hts _ wt_J9_min_7cf53) (hts _ wz_J9) (hts _ wc_min) (by rw [hR]; exact hroom.1) (by rw [hR]; exact hroom.2.1) (by rw [hR]; exact hroom.2.2.1) (by rw [hR]; exact hroom.2.2.2) hd (h H locs ls hP hD hS hl)
theorem j_ldcS (C : CX κ ε own cc nL ret fr lo mc ms) {ix : Nat} (ho9 : own = RX2) (hi9 : ix = 85) (hd : decode cc pc = .ok (.ldc ix, 2)) (h : JW κ k n ω (pc + 2) lv (.ref ε.2.2.2.2.1 :: st)) : JW κ k n ω pc lv st := by
  subst ho9; subst hi9
  obtain ⟨p, l, e, R, s, m, args, below, meth, c, A, Q, ε0, nL0⟩ := κ
  obtain ⟨⟨hx, hb, hml, hown, hts⟩, hr, hlk, hA, hG, hR, rfl, rfl⟩ := C
  intro H locs ls hP hD hS hl
  exact va_ldcS hx hb hown hG.2.2.2.1 hd (h H locs ls hP hD hS hl)
theorem j_gval (C : CX κ ε own cc nL ret fr lo mc ms) {ix : Nat} (hd : decode cc pc = .ok (.getfield ix, 3)) (hw : Cond.fieldLink own ix "java/lang/String" "value" "[B" ∈ TB) (h : JW κ k n ω (pc + 3) lv (.ref ε.2.2.2.2.2 :: st)) : JW κ k n ω pc lv (.ref ε.2.2.2.2.1 :: st) := by
  obtain ⟨p, l, e, R, s, m, args, below, meth, c, A, Q, ε0, nL0⟩ := κ
  obtain ⟨⟨hx, hb, hml, hown, hts⟩, hr, hlk, hA, hG, hR, rfl, rfl⟩ := C
  intro H locs ls hP hD hS hl
  exact vk_getf hx hb (hG.2.2.1.1 0 (by decide)).2.2.1 hS hown (hts _ hw) (fun _ h9 => h9) hd (h H locs ls hP hD hS hl)
theorem j_gcod (C : CX κ ε own cc nL ret fr lo mc ms) {ix : Nat} (hd : decode cc pc = .ok (.getfield ix, 3)) (hw : Cond.fieldLink own ix "java/lang/String" "coder" "B" ∈ TB) (h : JW κ k n ω (pc + 3) lv (.int 0 :: st)) : JW κ k n ω pc lv (.ref ε.2.2.2.2.1 :: st) := by
  obtain ⟨p, l, e, R, s, m, args, below, meth, c, A, Q, ε0, nL0⟩ := κ
  obtain ⟨⟨hx, hb, hml, hown, hts⟩, hr, hlk, hA, hG, hR, rfl, rfl⟩ := C
  intro H locs ls hP hD hS hl
  exact vk_getf hx hb (hG.2.2.1.1 0 (by decide)).2.1 hS hown (hts _ hw) (fun _ h9 => h9) hd (h H locs ls hP hD hS hl)
theorem j_gcs (C : CX κ ε own cc nL ret fr lo mc ms) {ix : Nat} (hd : decode cc pc = .ok (.getstatic ix, 3)) (hw : Cond.fieldLink own ix "java/lang/String" "COMPACT_STRINGS" "Z" ∈ TB) (h : JW κ k n ω (pc + 3) lv (.int 1 :: st)) : JW κ k n ω pc lv st := by
  obtain ⟨p, l, e, R, s, m, args, below, meth, c, A, Q, ε0, nL0⟩ := κ
  obtain ⟨⟨hx, hb, hml, hown, hts⟩, hr, hlk, hA, hG, hR, rfl, rfl⟩ := C
  intro H locs ls hP hD hS hl
  exact va_gets hx hb hG.2.2.2.2.1 hS hown (hts _ hw) (fun _ h9 => h9) hd (h H locs ls hP hD hS hl)
theorem j_gfm (C : CX κ ε own cc nL ret fr lo mc ms) {ix : Nat} (hd : decode cc pc = .ok (.getstatic ix, 3)) (hw : Cond.fieldLink own ix "jdk/internal/util/Preconditions" "SIOOBE_FORMATTER" "Ljava/util/function/BiFunction;" ∈ TB) (h1 : JW κ k n ω (pc + 3) lv (.null :: st)) (h2 : ∀ t : Nat, JW κ k n ω (pc + 3) lv (.ref t :: st)) : JW κ k n ω pc lv st := by
  obtain ⟨p, l, e, R, s, m, args, below, meth, c, A, Q, ε0, nL0⟩ := κ
  obtain ⟨⟨hx, hb, hml, hown, hts⟩, hr, hlk, hA, hG, hR, rfl, rfl⟩ := C
  intro H locs ls hP hD hS hl
  rcases hG.2.2.2.2.2 with hz | ⟨t, hz⟩
  · exact va_gets hx hb hz hS hown (hts _ hw) (fun _ h9 => h9) hd (h1 H locs ls hP hD hS hl)
  · exact va_gets hx hb hz hS hown (hts _ hw) (fun _ h9 => h9) hd (h2 t H locs ls hP hD hS hl)
theorem j_slen (C : CX κ ε own cc nL ret fr lo mc ms) (hd : decode cc pc = .ok (.arraylength, 1)) (h : JW κ k n ω (pc + 1) lv (.int 5 :: st)) : JW κ k n ω pc lv (.ref ε.2.2.2.2.2 :: st) := by
  obtain ⟨p, l, e, R, s, m, args, below, meth, c, A, Q, ε0, nL0⟩ := κ
  obtain ⟨⟨hx, hb, hml, hown, hts⟩, hr, hlk, hA, hG, hR, rfl, rfl⟩ := C
  intro H locs ls hP hD hS hl
  exact va_tlen hx hb (hG.2.2.1.1 0 (by decide)).2.2.2 hS (by decide) hd (h H locs ls hP hD hS hl)
theorem j_sbt (C : CX κ ε own cc nL ret fr lo mc ms) {i : Int32} (hd : decode cc pc = .ok (.baload, 1)) (hin : vp_in i 5) (h : JW κ k n ω (pc + 1) lv (.int (([114, 105, 110, 103, 115] : List Int32).getD i.toNatClampNeg 0) :: st)) : JW κ k n ω pc lv (.int i :: .ref ε.2.2.2.2.2 :: st) := by
  obtain ⟨p, l, e, R, s, m, args, below, meth, c, A, Q, ε0, nL0⟩ := κ
  obtain ⟨⟨hx, hb, hml, hown, hts⟩, hr, hlk, hA, hG, hR, rfl, rfl⟩ := C
  intro H locs ls hP hD hS hl
  exact va_tb hx hb (hG.2.2.1.1 0 (by decide)).2.2.2 hS hin rfl hd (h H locs ls hP hD hS hl)
theorem j_callVs (C : CX κ ε own cc nL ret fr lo mc ms) {y : MethodName} {cc1 : ByteArray} {nL1 : Nat} {ret1 : Option FieldType} {fr1 lo1 mc1 ms1 ix na : Nat} {P : Option Value → va_W → Prop} {As rest : List Value}  (hM : CT ε y cc1 nL1 ret1 fr1 lo1 mc1 ms1 (.ref ε.2.2.2.2.1 :: As) ω P) (hv : MV y cc1 nL1 ret1 "java/lang/String" na) (hw : Cond.methodLink own ix y ∈ TB) (hd : decode cc pc = .ok (.invokevirtual ix, 3)) (hn : As.length = na) (hst : st = As.reverse ++ .ref ε.2.2.2.2.1 :: rest) (hroom : fr1 + 1 ≤ fr ∧ 8 + (nL1 + 11) + lo1 ≤ lo ∧ k + mc1 ≤ mc ∧ n + ms1 ≤ ms) (hcat : (rest.map fun v => v.category).sum ≤ 8) (h : ∀ (r : Option Value) (ω' : va_W), P r ω' → JW κ (k + mc1) (n + ms1) ω' (pc + 3) lv (r.toList ++ rest)) : JW κ k n ω pc lv st := by
  refine j_back (P := P) (rest := rest) (mc1 := mc1) (ms1 := ms1) C ?_ h
  obtain ⟨p, l, e, R, s, m, args, below, meth, c, A, Q, ε0, nL0⟩ := κ
  obtain ⟨⟨hx, hb, hml, hown, hts⟩, hr, hlk, hA, hG, hR, rfl, rfl⟩ := C
  intro H locs ls hP hD hS hl
  have hR2 : fr1 + 1 ≤ R.frames ∧ 8 + (nL1 + 11) + lo1 ≤ R.locals := by rw [hR]; exact ⟨hroom.1, hroom.2.1⟩
  obtain ⟨h1, h2, h3, h4, h5⟩ := hv
  have hgd : GoodIn TB (wsV own ix "java/lang/String" y (.code y cc1 nL1 ret1 :: TB)) := by
    intro w hw9
    unfold wsV at hw9
    rcases List.mem_append.mp hw9 with hw9 | hw9
    · simp only [List.mem_cons, List.not_mem_nil, or_false] at hw9
      rcases hw9 with rfl | rfl | rfl | rfl
      · exact TB_gd _ hw
      · exact TB_gd _ h2
      · exact TB_gd _ h3
      · exact TB_gd _ h4
    · exact good_cons h1 w hw9
  refine ⟨_, va_runV (As := As) (rest := rest) ⟨hx, hb, hml, hown, hts⟩ (hM l H.size) (cwV na hts hgd rfl rfl rfl h5 hR2) ⟨fun a U g mk q => ⟨q.1, q.2.1, q.2.2.1, q.2.2.2.1, q.2.2.2.2.blind⟩, vk_recv hG.2.2.1 (i := 0) (by decide) hS, fun U hU hW => ⟨rfl, by rw [hU], by rw [hU]; exact hP, hD.weaken (fun _ _ _ _ => trivial), hG.call hS hU hW (fun q hq => by
      rcases hq with ⟨i, e9, hi⟩ | hq
      · exact hD.2 i _ hi
      · exact hA q (Nat.le_trans hS.1 hq))⟩⟩ rfl hn hl.1 hst (lv_room hcat) hd ⟨by rw [hR]; exact hroom.2.2.1, by rw [hR]; exact hroom.2.2.2⟩⟩
theorem j_iaddN (C : CX κ ε own cc nL ret fr lo mc ms) {x y : Int32} {a b : Nat} (hd : decode cc pc = .ok (.iadd, 1)) (hx9 : x = nI a) (hy9 : y = nI b) (h : JW κ k n ω (pc + 1) lv (.int (nI (a + b)) :: st)) : JW κ k n ω pc lv (.int y :: .int x :: st) := by
  obtain ⟨p, l, e, R, s, m, args, below, meth, c, A, Q, ε0, nL0⟩ := κ
  obtain ⟨⟨hx, hb, hml, hown, hts⟩, hr, hlk, hA, hG, hR, rfl, rfl⟩ := C
  intro H locs ls hP hD hS hl
  exact by
    subst hx9; subst hy9
    refine lv_iadd hx hb hd ?_
    rw [nI_add]
    exact (h H locs ls hP hD hS hl)
theorem j_imulN (C : CX κ ε own cc nL ret fr lo mc ms) {x y : Int32} {a b : Nat} (hd : decode cc pc = .ok (.imul, 1)) (hx9 : x = nI a) (hy9 : y = nI b) (h : JW κ k n ω (pc + 1) lv (.int (nI (a * b)) :: st)) : JW κ k n ω pc lv (.int y :: .int x :: st) := by
  obtain ⟨p, l, e, R, s, m, args, below, meth, c, A, Q, ε0, nL0⟩ := κ
  obtain ⟨⟨hx, hb, hml, hown, hts⟩, hr, hlk, hA, hG, hR, rfl, rfl⟩ := C
  intro H locs ls hP hD hS hl
  exact by
    subst hx9; subst hy9
    refine lv_imul hx hb hd ?_
    rw [pk_mul]
    exact (h H locs ls hP hD hS hl)
end ROWS
theorem mi_X0_init : MI yX0_init cX0_init 2 1 := ⟨wc_X0_init, wi_X0_init, wz_X0, rfl, by decide, by decide, by decide +kernel⟩
theorem mv_X0_forget : MV yX0_forget cX0_forget 1 none RX0 0 := ⟨wc_X0_forget, wi_X0_forget, wv_X0_forget, wz_X0, rfl, by decide, by decide, by decide +kernel⟩
theorem mv_X0_gather : MV yX0_gather cX0_gather 10 (some .boolean) RX0 2 := ⟨wc_X0_gather, wi_X0_gather, wv_X0_gather, wz_X0, rfl, by decide, by decide, by decide +kernel⟩
theorem mv_X0_isTable : MV yX0_isTable cX0_isTable 5 (some .boolean) RX0 2 := ⟨wc_X0_isTable, wi_X0_isTable, wv_X0_isTable, wz_X0, rfl, by decide, by decide, by decide +kernel⟩
theorem mv_X0_addPart : MV yX0_addPart cX0_addPart 7 (some .boolean) RX0 2 := ⟨wc_X0_addPart, wi_X0_addPart, wv_X0_addPart, wz_X0, rfl, by decide, by decide, by decide +kernel⟩
theorem mv_X0_toReads : MV yX0_toReads cX0_toReads 1 none RX0 0 := ⟨wc_X0_toReads, wi_X0_toReads, wv_X0_toReads, wz_X0, rfl, by decide, by decide, by decide +kernel⟩
theorem mv_X0_toWrites : MV yX0_toWrites cX0_toWrites 1 none RX0 0 := ⟨wc_X0_toWrites, wi_X0_toWrites, wv_X0_toWrites, wz_X0, rfl, by decide, by decide, by decide +kernel⟩
theorem mv_X0_nextByte : MV yX0_nextByte cX0_nextByte 1 (some .int) RX0 0 := ⟨wc_X0_nextByte, wi_X0_nextByte, wv_X0_nextByte, wz_X0, rfl, by decide, by decide, by decide +kernel⟩
theorem mv_X0_nextNumber : MV yX0_nextNumber cX0_nextNumber 5 (some .long) RX0 1 := ⟨wc_X0_nextNumber, wi_X0_nextNumber, wv_X0_nextNumber, wz_X0, rfl, by decide, by decide, by decide +kernel⟩
theorem mv_X0_skip : MV yX0_skip cX0_skip 3 none RX0 1 := ⟨wc_X0_skip, wi_X0_skip, wv_X0_skip, wz_X0, rfl, by decide, by decide, by decide +kernel⟩
theorem mv_X0_putByte : MV yX0_putByte cX0_putByte 2 none RX0 1 := ⟨wc_X0_putByte, wi_X0_putByte, wv_X0_putByte, wz_X0, rfl, by decide, by decide, by decide +kernel⟩
theorem mv_X0_putLast : MV yX0_putLast cX0_putLast 2 none RX0 1 := ⟨wc_X0_putLast, wi_X0_putLast, wv_X0_putLast, wz_X0, rfl, by decide, by decide, by decide +kernel⟩
theorem mv_X0_nextPlace : MV yX0_nextPlace cX0_nextPlace 1 (some .int) RX0 0 := ⟨wc_X0_nextPlace, wi_X0_nextPlace, wv_X0_nextPlace, wz_X0, rfl, by decide, by decide, by decide +kernel⟩
theorem mi_X1_init : MI yX1_init cX1_init 2 1 := ⟨wc_X1_init, wi_X1_init, wz_X1, rfl, by decide, by decide, by decide +kernel⟩
theorem mv_X1_ringOf : MV yX1_ringOf cX1_ringOf 2 (some (.object "RingDevices$Ring")) RX1 1 := ⟨wc_X1_ringOf, wi_X1_ringOf, wv_X1_ringOf, wz_X1, rfl, by decide, by decide, by decide +kernel⟩
theorem mv_X1_switchOff : MV yX1_switchOff cX1_switchOff 2 none RX1 1 := ⟨wc_X1_switchOff, wi_X1_switchOff, wv_X1_switchOff, wz_X1, rfl, by decide, by decide, by decide +kernel⟩
theorem mv_X1_doChain : MV yX1_doChain cX1_doChain 5 (some .int) RX1 1 := ⟨wc_X1_doChain, wi_X1_doChain, wv_X1_doChain, wz_X1, rfl, by decide, by decide, by decide +kernel⟩
theorem mv_X1_frameComes : MV yX1_frameComes cX1_frameComes 5 (some .int) RX1 2 := ⟨wc_X1_frameComes, wi_X1_frameComes, wv_X1_frameComes, wz_X1, rfl, by decide, by decide, by decide +kernel⟩
theorem mv_X1_deliver : MV yX1_deliver cX1_deliver 6 (some .boolean) RX1 2 := ⟨wc_X1_deliver, wi_X1_deliver, wv_X1_deliver, wz_X1, rfl, by decide, by decide, by decide +kernel⟩
theorem mv_X1_takeFrom : MV yX1_takeFrom cX1_takeFrom 3 (some .int) RX1 1 := ⟨wc_X1_takeFrom, wi_X1_takeFrom, wv_X1_takeFrom, wz_X1, rfl, by decide, by decide, by decide +kernel⟩
theorem mi_X2_init : MI yX2_init cX2_init 1 0 := ⟨wc_X2_init, wi_X2_init, wz_X2, rfl, by decide, by decide, by decide +kernel⟩
theorem mv_X2_at : MV yX2_at cX2_at 2 (some .int) RX2 1 := ⟨wc_X2_at, wi_X2_at, wv_X2_at, wz_X2, rfl, by decide, by decide, by decide +kernel⟩
theorem mv_X2_set : MV yX2_set cX2_set 3 none RX2 2 := ⟨wc_X2_set, wi_X2_set, wv_X2_set, wz_X2, rfl, by decide, by decide, by decide +kernel⟩
theorem mv_X2_answer : MV yX2_answer cX2_answer 7 (some .int) RX2 1 := ⟨wc_X2_answer, wi_X2_answer, wv_X2_answer, wz_X2, rfl, by decide, by decide, by decide +kernel⟩
theorem mv_X2_resultOf : MV yX2_resultOf cX2_resultOf 5 (some .int) RX2 3 := ⟨wc_X2_resultOf, wi_X2_resultOf, wv_X2_resultOf, wz_X2, rfl, by decide, by decide, by decide +kernel⟩
theorem mv_X2_areThere : MV yX2_areThere cX2_areThere 4 (some .boolean) RX2 2 := ⟨wc_X2_areThere, wi_X2_areThere, wv_X2_areThere, wz_X2, rfl, by decide, by decide, by decide +kernel⟩
theorem mv_X2_carryOut : MV yX2_carryOut cX2_carryOut 4 (some .int) RX2 3 := ⟨wc_X2_carryOut, wi_X2_carryOut, wv_X2_carryOut, wz_X2, rfl, by decide, by decide, by decide +kernel⟩
theorem mv_X2_copyOut : MV yX2_copyOut cX2_copyOut 5 (some .int) RX2 2 := ⟨wc_X2_copyOut, wi_X2_copyOut, wv_X2_copyOut, wz_X2, rfl, by decide, by decide, by decide +kernel⟩
theorem mv_X2_copyIn : MV yX2_copyIn cX2_copyIn 5 (some .int) RX2 2 := ⟨wc_X2_copyIn, wi_X2_copyIn, wv_X2_copyIn, wz_X2, rfl, by decide, by decide, by decide +kernel⟩
theorem mv_X2_tellName : MV yX2_tellName cX2_tellName 4 (some .int) RX2 1 := ⟨wc_X2_tellName, wi_X2_tellName, wv_X2_tellName, wz_X2, rfl, by decide, by decide, by decide +kernel⟩
theorem mi_X3_init : MI yX3_init cX3_init 2 1 := ⟨wc_X3_init, wi_X3_init, wz_X3, rfl, by decide, by decide, by decide +kernel⟩
theorem mv_X3_begin : MV yX3_begin cX3_begin 2 none RX3 1 := ⟨wc_X3_begin, wi_X3_begin, wv_X3_begin, wz_X3, rfl, by decide, by decide, by decide +kernel⟩
theorem mv_X3_stop : MV yX3_stop cX3_stop 1 none RX3 0 := ⟨wc_X3_stop, wi_X3_stop, wv_X3_stop, wz_X3, rfl, by decide, by decide, by decide +kernel⟩
theorem mv_X3_loansOf : MV yX3_loansOf cX3_loansOf 2 (some (.object "RingDevices$Loans")) RX3 1 := ⟨wc_X3_loansOf, wi_X3_loansOf, wv_X3_loansOf, wz_X3, rfl, by decide, by decide, by decide +kernel⟩
theorem mv_X3_refusal : MV yX3_refusal cX3_refusal 3 (some .int) RX3 2 := ⟨wc_X3_refusal, wi_X3_refusal, wv_X3_refusal, wz_X3, rfl, by decide, by decide, by decide +kernel⟩
theorem mv_X3_ask : MV yX3_ask cX3_ask 10 (some .int) RX3 3 := ⟨wc_X3_ask, wi_X3_ask, wv_X3_ask, wz_X3, rfl, by decide, by decide, by decide +kernel⟩
theorem mv_X3_layRequest : MV yX3_layRequest cX3_layRequest 8 none RX3 6 := ⟨wc_X3_layRequest, wi_X3_layRequest, wv_X3_layRequest, wz_X3, rfl, by decide, by decide, by decide +kernel⟩
theorem mv_X3_fillRequest : MV yX3_fillRequest cX3_fillRequest 6 none RX3 4 := ⟨wc_X3_fillRequest, wi_X3_fillRequest, wv_X3_fillRequest, wz_X3, rfl, by decide, by decide, by decide +kernel⟩
theorem mv_X3_fillPattern : MV yX3_fillPattern cX3_fillPattern 6 none RX3 3 := ⟨wc_X3_fillPattern, wi_X3_fillPattern, wv_X3_fillPattern, wz_X3, rfl, by decide, by decide, by decide +kernel⟩
theorem mv_X3_letGo : MV yX3_letGo cX3_letGo 8 (some .int) RX3 2 := ⟨wc_X3_letGo, wi_X3_letGo, wv_X3_letGo, wz_X3, rfl, by decide, by decide, by decide +kernel⟩
theorem mv_X3_lendBuffer : MV yX3_lendBuffer cX3_lendBuffer 4 (some .int) RX3 0 := ⟨wc_X3_lendBuffer, wi_X3_lendBuffer, wv_X3_lendBuffer, wz_X3, rfl, by decide, by decide, by decide +kernel⟩
theorem mv_X3_descriptorAt : MV yX3_descriptorAt cX3_descriptorAt 3 (some .int) RX3 2 := ⟨wc_X3_descriptorAt, wi_X3_descriptorAt, wv_X3_descriptorAt, wz_X3, rfl, by decide, by decide, by decide +kernel⟩
theorem mv_X3_offer : MV yX3_offer cX3_offer 6 none RX3 2 := ⟨wc_X3_offer, wi_X3_offer, wv_X3_offer, wz_X3, rfl, by decide, by decide, by decide +kernel⟩
theorem mv_X3_collectOne : MV yX3_collectOne cX3_collectOne 7 (some .int) RX3 1 := ⟨wc_X3_collectOne, wi_X3_collectOne, wv_X3_collectOne, wz_X3, rfl, by decide, by decide, by decide +kernel⟩
theorem mi_X4_init : MI yX4_init cX4_init 1 0 := ⟨wc_X4_init, wi_X4_init, wz_X4, rfl, by decide, by decide, by decide +kernel⟩
theorem mv_X4_begin : MV yX4_begin cX4_begin 1 none RX4 0 := ⟨wc_X4_begin, wi_X4_begin, wv_X4_begin, wz_X4, rfl, by decide, by decide, by decide +kernel⟩
theorem mv_X4_forget : MV yX4_forget cX4_forget 1 none RX4 0 := ⟨wc_X4_forget, wi_X4_forget, wv_X4_forget, wz_X4, rfl, by decide, by decide, by decide +kernel⟩
theorem mv_X4_freeOnes : MV yX4_freeOnes cX4_freeOnes 1 (some .int) RX4 0 := ⟨wc_X4_freeOnes, wi_X4_freeOnes, wv_X4_freeOnes, wz_X4, rfl, by decide, by decide, by decide +kernel⟩
theorem mv_X4_lendFirst : MV yX4_lendFirst cX4_lendFirst 2 (some .int) RX4 0 := ⟨wc_X4_lendFirst, wi_X4_lendFirst, wv_X4_lendFirst, wz_X4, rfl, by decide, by decide, by decide +kernel⟩
theorem mv_X4_lendNext : MV yX4_lendNext cX4_lendNext 3 (some .int) RX4 1 := ⟨wc_X4_lendNext, wi_X4_lendNext, wv_X4_lendNext, wz_X4, rfl, by decide, by decide, by decide +kernel⟩
theorem mv_X4_leastFree : MV yX4_leastFree cX4_leastFree 2 (some .int) RX4 0 := ⟨wc_X4_leastFree, wi_X4_leastFree, wv_X4_leastFree, wz_X4, rfl, by decide, by decide, by decide +kernel⟩
theorem mv_X4_lend : MV yX4_lend cX4_lend 3 none RX4 2 := ⟨wc_X4_lend, wi_X4_lend, wv_X4_lend, wz_X4, rfl, by decide, by decide, by decide +kernel⟩
theorem mv_X4_takeBack : MV yX4_takeBack cX4_takeBack 3 (some .boolean) RX4 1 := ⟨wc_X4_takeBack, wi_X4_takeBack, wv_X4_takeBack, wz_X4, rfl, by decide, by decide, by decide +kernel⟩
theorem mi_X5_init : MI yX5_init cX5_init 1 0 := ⟨wc_X5_init, wi_X5_init, wz_X5, rfl, by decide, by decide, by decide +kernel⟩
theorem mv_X5_clear : MV yX5_clear cX5_clear 1 none RX5 0 := ⟨wc_X5_clear, wi_X5_clear, wv_X5_clear, wz_X5, rfl, by decide, by decide, by decide +kernel⟩
theorem mv_X5_at : MV yX5_at cX5_at 2 (some .int) RX5 1 := ⟨wc_X5_at, wi_X5_at, wv_X5_at, wz_X5, rfl, by decide, by decide, by decide +kernel⟩
theorem mv_X5_set : MV yX5_set cX5_set 3 none RX5 2 := ⟨wc_X5_set, wi_X5_set, wv_X5_set, wz_X5, rfl, by decide, by decide, by decide +kernel⟩
theorem mv_X5_number : MV yX5_number cX5_number 6 (some .long) RX5 2 := ⟨wc_X5_number, wi_X5_number, wv_X5_number, wz_X5, rfl, by decide, by decide, by decide +kernel⟩
theorem mv_X5_setNumber : MV yX5_setNumber cX5_setNumber 6 none RX5 3 := ⟨wc_X5_setNumber, wi_X5_setNumber, wv_X5_setNumber, wz_X5, rfl, by decide, by decide, by decide +kernel⟩
theorem mv_X5_two : MV yX5_two cX5_two 2 (some .int) RX5 1 := ⟨wc_X5_two, wi_X5_two, wv_X5_two, wz_X5, rfl, by decide, by decide, by decide +kernel⟩
theorem mv_X5_setDescriptor : MV yX5_setDescriptor cX5_setDescriptor 6 none RX5 5 := ⟨wc_X5_setDescriptor, wi_X5_setDescriptor, wv_X5_setDescriptor, wz_X5, rfl, by decide, by decide, by decide +kernel⟩
theorem mi_X6_init : MI yX6_init cX6_init 2 1 := ⟨wc_X6_init, wi_X6_init, wz_X6, rfl, by decide, by decide, by decide +kernel⟩
theorem mv_X6_forget : MV yX6_forget cX6_forget 1 none RX6 0 := ⟨wc_X6_forget, wi_X6_forget, wv_X6_forget, wz_X6, rfl, by decide, by decide, by decide +kernel⟩
theorem mv_X6_lay : MV yX6_lay cX6_lay 5 none RX6 4 := ⟨wc_X6_lay, wi_X6_lay, wv_X6_lay, wz_X6, rfl, by decide, by decide, by decide +kernel⟩
theorem mv_X6_waiting : MV yX6_waiting cX6_waiting 1 (some .int) RX6 0 := ⟨wc_X6_waiting, wi_X6_waiting, wv_X6_waiting, wz_X6, rfl, by decide, by decide, by decide +kernel⟩
theorem mv_X6_nextHead : MV yX6_nextHead cX6_nextHead 1 (some .int) RX6 0 := ⟨wc_X6_nextHead, wi_X6_nextHead, wv_X6_nextHead, wz_X6, rfl, by decide, by decide, by decide +kernel⟩
theorem mv_X6_giveBack : MV yX6_giveBack cX6_giveBack 4 none RX6 2 := ⟨wc_X6_giveBack, wi_X6_giveBack, wv_X6_giveBack, wz_X6, rfl, by decide, by decide, by decide +kernel⟩
theorem mv_X6_placeOf : MV yX6_placeOf cX6_placeOf 2 (some .int) RX6 1 := ⟨wc_X6_placeOf, wi_X6_placeOf, wv_X6_placeOf, wz_X6, rfl, by decide, by decide, by decide +kernel⟩
theorem mi_X7_init : MI yX7_init cX7_init 1 0 := ⟨wc_X7_init, wi_X7_init, wz_X7, rfl, by decide, by decide, by decide +kernel⟩
theorem mv_X7_carry : MV yX7_carry cX7_carry 4 none RX7 1 := ⟨wc_X7_carry, wi_X7_carry, wv_X7_carry, wz_X7, rfl, by decide, by decide, by decide +kernel⟩
theorem mv_X7_byteOf : MV yX7_byteOf cX7_byteOf 4 (some .int) RX7 2 := ⟨wc_X7_byteOf, wi_X7_byteOf, wv_X7_byteOf, wz_X7, rfl, by decide, by decide, by decide +kernel⟩
theorem mi_X8_init : MI yX8_init cX8_init 2 0 := ⟨wc_X8_init, wi_X8_init, wz_X8, rfl, by decide, by decide, by decide +kernel⟩
theorem mv_X8_start : MV yX8_start cX8_start 3 (some .int) RX8 1 := ⟨wc_X8_start, wi_X8_start, wv_X8_start, wz_X8, rfl, by decide, by decide, by decide +kernel⟩
theorem mv_X8_reset : MV yX8_reset cX8_reset 2 (some .int) RX8 1 := ⟨wc_X8_reset, wi_X8_reset, wv_X8_reset, wz_X8, rfl, by decide, by decide, by decide +kernel⟩
theorem mv_X8_queue : MV yX8_queue cX8_queue 6 (some .int) RX8 5 := ⟨wc_X8_queue, wi_X8_queue, wv_X8_queue, wz_X8, rfl, by decide, by decide, by decide +kernel⟩
theorem mv_X8_run : MV yX8_run cX8_run 1 (some .int) RX8 0 := ⟨wc_X8_run, wi_X8_run, wv_X8_run, wz_X8, rfl, by decide, by decide, by decide +kernel⟩
theorem mv_X8_poke : MV yX8_poke cX8_poke 4 (some .int) RX8 2 := ⟨wc_X8_poke, wi_X8_poke, wv_X8_poke, wz_X8, rfl, by decide, by decide, by decide +kernel⟩
theorem mv_X8_peek : MV yX8_peek cX8_peek 2 (some .int) RX8 1 := ⟨wc_X8_peek, wi_X8_peek, wv_X8_peek, wz_X8, rfl, by decide, by decide, by decide +kernel⟩
theorem mv_X8_step : MV yX8_step cX8_step 2 (some .int) RX8 1 := ⟨wc_X8_step, wi_X8_step, wv_X8_step, wz_X8, rfl, by decide, by decide, by decide +kernel⟩
theorem mv_X8_arrive : MV yX8_arrive cX8_arrive 4 (some .int) RX8 2 := ⟨wc_X8_arrive, wi_X8_arrive, wv_X8_arrive, wz_X8, rfl, by decide, by decide, by decide +kernel⟩
theorem mv_X8_read : MV yX8_read cX8_read 2 (some .int) RX8 1 := ⟨wc_X8_read, wi_X8_read, wv_X8_read, wz_X8, rfl, by decide, by decide, by decide +kernel⟩
theorem mv_X8_write : MV yX8_write cX8_write 4 (some .int) RX8 2 := ⟨wc_X8_write, wi_X8_write, wv_X8_write, wz_X8, rfl, by decide, by decide, by decide +kernel⟩
theorem mv_X8_send : MV yX8_send cX8_send 4 (some .int) RX8 2 := ⟨wc_X8_send, wi_X8_send, wv_X8_send, wz_X8, rfl, by decide, by decide, by decide +kernel⟩
theorem mv_X8_post : MV yX8_post cX8_post 1 (some .int) RX8 0 := ⟨wc_X8_post, wi_X8_post, wv_X8_post, wz_X8, rfl, by decide, by decide, by decide +kernel⟩
theorem mv_X8_collect : MV yX8_collect cX8_collect 2 (some .int) RX8 1 := ⟨wc_X8_collect, wi_X8_collect, wv_X8_collect, wz_X8, rfl, by decide, by decide, by decide +kernel⟩
theorem mv_X8_written : MV yX8_written cX8_written 2 (some .int) RX8 1 := ⟨wc_X8_written, wi_X8_written, wv_X8_written, wz_X8, rfl, by decide, by decide, by decide +kernel⟩
theorem mv_X8_wire : MV yX8_wire cX8_wire 3 (some .int) RX8 2 := ⟨wc_X8_wire, wi_X8_wire, wv_X8_wire, wz_X8, rfl, by decide, by decide, by decide +kernel⟩
theorem mv_X8_disk : MV yX8_disk cX8_disk 3 (some .int) RX8 2 := ⟨wc_X8_disk, wi_X8_disk, wv_X8_disk, wz_X8, rfl, by decide, by decide, by decide +kernel⟩
theorem mv_X8_told : MV yX8_told cX8_told 5 (some .int) RX8 2 := ⟨wc_X8_told, wi_X8_told, wv_X8_told, wz_X8, rfl, by decide, by decide, by decide +kernel⟩
theorem mv_X8_count : MV yX8_count cX8_count 2 (some .int) RX8 1 := ⟨wc_X8_count, wi_X8_count, wv_X8_count, wz_X8, rfl, by decide, by decide, by decide +kernel⟩
theorem mt_X8_isQueue : MS yX8_isQueue cX8_isQueue 1 (some .boolean) 1 := ⟨wc_X8_isQueue, wt_X8_isQueue, wz_X8, by decide, by decide, by decide +kernel⟩
theorem mt_X8_isSize : MS yX8_isSize cX8_isSize 1 (some .boolean) 1 := ⟨wc_X8_isSize, wt_X8_isSize, wz_X8, by decide, by decide, by decide +kernel⟩
theorem mt_X8_isAddress : MS yX8_isAddress cX8_isAddress 1 (some .boolean) 1 := ⟨wc_X8_isAddress, wt_X8_isAddress, wz_X8, by decide, by decide, by decide +kernel⟩
theorem mt_X8_isSector : MS yX8_isSector cX8_isSector 1 (some .boolean) 1 := ⟨wc_X8_isSector, wt_X8_isSector, wz_X8, by decide, by decide, by decide +kernel⟩
theorem mt_X8_isFrame : MS yX8_isFrame cX8_isFrame 1 (some .boolean) 1 := ⟨wc_X8_isFrame, wt_X8_isFrame, wz_X8, by decide, by decide, by decide +kernel⟩
theorem mt_X8_isPlace : MS yX8_isPlace cX8_isPlace 3 (some .boolean) 3 := ⟨wc_X8_isPlace, wt_X8_isPlace, wz_X8, by decide, by decide, by decide +kernel⟩
theorem mt_X8_liesInMemory : MS yX8_liesInMemory cX8_liesInMemory 4 (some .boolean) 2 := ⟨wc_X8_liesInMemory, wt_X8_liesInMemory, wz_X8, by decide, by decide, by decide +kernel⟩
theorem mt_X8_descriptorsOf : MS yX8_descriptorsOf cX8_descriptorsOf 1 (some .int) 1 := ⟨wc_X8_descriptorsOf, wt_X8_descriptorsOf, wz_X8, by decide, by decide, by decide +kernel⟩
theorem mt_X8_availableOf : MS yX8_availableOf cX8_availableOf 1 (some .int) 1 := ⟨wc_X8_availableOf, wt_X8_availableOf, wz_X8, by decide, by decide, by decide +kernel⟩
theorem mt_X8_usedOf : MS yX8_usedOf cX8_usedOf 1 (some .int) 1 := ⟨wc_X8_usedOf, wt_X8_usedOf, wz_X8, by decide, by decide, by decide +kernel⟩
theorem mt_X8_patternByte : MS yX8_patternByte cX8_patternByte 3 (some .int) 2 := ⟨wc_X8_patternByte, wt_X8_patternByte, wz_X8, by decide, by decide, by decide +kernel⟩
theorem mt_X8_oneMore : MS yX8_oneMore cX8_oneMore 1 (some .int) 1 := ⟨wc_X8_oneMore, wt_X8_oneMore, wz_X8, by decide, by decide, by decide +kernel⟩
theorem mt_X9_isIn : MS yX9_isIn cX9_isIn 3 (some .boolean) 3 := ⟨wc_X9_isIn, wt_X9_isIn, wz_X9, by decide, by decide, by decide +kernel⟩
theorem mv_X9_number : MV yX9_number cX9_number 6 (some .long) RX9 2 := ⟨wc_X9_number, wi_X9_number, wv_X9_number, wz_X9, rfl, by decide, by decide, by decide +kernel⟩
theorem mv_X9_put : MV yX9_put cX9_put 6 none RX9 3 := ⟨wc_X9_put, wi_X9_put, wv_X9_put, wz_X9, rfl, by decide, by decide, by decide +kernel⟩
theorem mv_X9_poke : MV yX9_poke cX9_poke 4 (some .int) RX9 2 := ⟨wc_X9_poke, wi_X9_poke, wv_X9_poke, wz_X9, rfl, by decide, by decide, by decide +kernel⟩
theorem mv_X9_peek : MV yX9_peek cX9_peek 2 (some .int) RX9 1 := ⟨wc_X9_peek, wi_X9_peek, wv_X9_peek, wz_X9, rfl, by decide, by decide, by decide +kernel⟩
theorem mv_X9_clear : MV yX9_clear cX9_clear 2 none RX9 0 := ⟨wc_X9_clear, wi_X9_clear, wv_X9_clear, wz_X9, rfl, by decide, by decide, by decide +kernel⟩
theorem mi_X9_init : MI yX9_init cX9_init 1 0 := ⟨wc_X9_init, wi_X9_init, wz_X9, rfl, by decide, by decide, by decide +kernel⟩
theorem mv_X9_start : MV yX9_start cX9_start 3 (some .int) RX9 1 := ⟨wc_X9_start, wi_X9_start, wv_X9_start, wz_X9, rfl, by decide, by decide, by decide +kernel⟩
theorem mv_X9_reset : MV yX9_reset cX9_reset 2 (some .int) RX9 1 := ⟨wc_X9_reset, wi_X9_reset, wv_X9_reset, wz_X9, rfl, by decide, by decide, by decide +kernel⟩
theorem mv_X9_queue : MV yX9_queue cX9_queue 6 (some .int) RX9 5 := ⟨wc_X9_queue, wi_X9_queue, wv_X9_queue, wz_X9, rfl, by decide, by decide, by decide +kernel⟩
theorem mv_X9_run : MV yX9_run cX9_run 1 (some .int) RX9 0 := ⟨wc_X9_run, wi_X9_run, wv_X9_run, wz_X9, rfl, by decide, by decide, by decide +kernel⟩
theorem mv_X9_hasSomething : MV yX9_hasSomething cX9_hasSomething 4 (some .boolean) RX9 1 := ⟨wc_X9_hasSomething, wi_X9_hasSomething, wv_X9_hasSomething, wz_X9, rfl, by decide, by decide, by decide +kernel⟩
theorem mv_X9_take : MV yX9_take cX9_take 21 (some .boolean) RX9 1 := ⟨wc_X9_take, wi_X9_take, wv_X9_take, wz_X9, rfl, by decide, by decide, by decide +kernel⟩
theorem mv_X9_keep : MV yX9_keep cX9_keep 4 none RX9 3 := ⟨wc_X9_keep, wi_X9_keep, wv_X9_keep, wz_X9, rfl, by decide, by decide, by decide +kernel⟩
theorem mv_X9_readByte : MV yX9_readByte cX9_readByte 4 (some .int) RX9 1 := ⟨wc_X9_readByte, wi_X9_readByte, wv_X9_readByte, wz_X9, rfl, by decide, by decide, by decide +kernel⟩
theorem mv_X9_readNumber : MV yX9_readNumber cX9_readNumber 6 (some .long) RX9 2 := ⟨wc_X9_readNumber, wi_X9_readNumber, wv_X9_readNumber, wz_X9, rfl, by decide, by decide, by decide +kernel⟩
theorem mv_X9_writeByte : MV yX9_writeByte cX9_writeByte 5 none RX9 2 := ⟨wc_X9_writeByte, wi_X9_writeByte, wv_X9_writeByte, wz_X9, rfl, by decide, by decide, by decide +kernel⟩
theorem mv_X9_give : MV yX9_give cX9_give 4 none RX9 2 := ⟨wc_X9_give, wi_X9_give, wv_X9_give, wz_X9, rfl, by decide, by decide, by decide +kernel⟩
theorem mv_X9_step : MV yX9_step cX9_step 2 (some .int) RX9 1 := ⟨wc_X9_step, wi_X9_step, wv_X9_step, wz_X9, rfl, by decide, by decide, by decide +kernel⟩
theorem mv_X9_doDisk : MV yX9_doDisk cX9_doDisk 11 (some .int) RX9 0 := ⟨wc_X9_doDisk, wi_X9_doDisk, wv_X9_doDisk, wz_X9, rfl, by decide, by decide, by decide +kernel⟩
theorem mv_X9_doWire : MV yX9_doWire cX9_doWire 4 none RX9 0 := ⟨wc_X9_doWire, wi_X9_doWire, wv_X9_doWire, wz_X9, rfl, by decide, by decide, by decide +kernel⟩
theorem mt_X9_frameByte : MS yX9_frameByte cX9_frameByte 3 (some .int) 2 := ⟨wc_X9_frameByte, wt_X9_frameByte, wz_X9, by decide, by decide, by decide +kernel⟩
theorem mv_X9_arrive : MV yX9_arrive cX9_arrive 6 (some .int) RX9 2 := ⟨wc_X9_arrive, wi_X9_arrive, wv_X9_arrive, wz_X9, rfl, by decide, by decide, by decide +kernel⟩
theorem mv_X9_freeOnes : MV yX9_freeOnes cX9_freeOnes 4 (some .int) RX9 1 := ⟨wc_X9_freeOnes, wi_X9_freeOnes, wv_X9_freeOnes, wz_X9, rfl, by decide, by decide, by decide +kernel⟩
theorem mv_X9_lend : MV yX9_lend cX9_lend 4 (some .int) RX9 2 := ⟨wc_X9_lend, wi_X9_lend, wv_X9_lend, wz_X9, rfl, by decide, by decide, by decide +kernel⟩
theorem mv_X9_describe : MV yX9_describe cX9_describe 6 none RX9 5 := ⟨wc_X9_describe, wi_X9_describe, wv_X9_describe, wz_X9, rfl, by decide, by decide, by decide +kernel⟩
theorem mv_X9_offer : MV yX9_offer cX9_offer 3 none RX9 2 := ⟨wc_X9_offer, wi_X9_offer, wv_X9_offer, wz_X9, rfl, by decide, by decide, by decide +kernel⟩
theorem mv_X9_ask : MV yX9_ask cX9_ask 12 (some .int) RX9 3 := ⟨wc_X9_ask, wi_X9_ask, wv_X9_ask, wz_X9, rfl, by decide, by decide, by decide +kernel⟩
theorem mv_X9_read : MV yX9_read cX9_read 2 (some .int) RX9 1 := ⟨wc_X9_read, wi_X9_read, wv_X9_read, wz_X9, rfl, by decide, by decide, by decide +kernel⟩
theorem mv_X9_write : MV yX9_write cX9_write 4 (some .int) RX9 2 := ⟨wc_X9_write, wi_X9_write, wv_X9_write, wz_X9, rfl, by decide, by decide, by decide +kernel⟩
theorem mv_X9_send : MV yX9_send cX9_send 8 (some .int) RX9 2 := ⟨wc_X9_send, wi_X9_send, wv_X9_send, wz_X9, rfl, by decide, by decide, by decide +kernel⟩
theorem mv_X9_post : MV yX9_post cX9_post 2 (some .int) RX9 0 := ⟨wc_X9_post, wi_X9_post, wv_X9_post, wz_X9, rfl, by decide, by decide, by decide +kernel⟩
theorem mv_X9_collect : MV yX9_collect cX9_collect 7 (some .int) RX9 1 := ⟨wc_X9_collect, wi_X9_collect, wv_X9_collect, wz_X9, rfl, by decide, by decide, by decide +kernel⟩
theorem mv_X9_written : MV yX9_written cX9_written 2 (some .int) RX9 1 := ⟨wc_X9_written, wi_X9_written, wv_X9_written, wz_X9, rfl, by decide, by decide, by decide +kernel⟩
theorem mv_X9_wire : MV yX9_wire cX9_wire 4 (some .int) RX9 2 := ⟨wc_X9_wire, wi_X9_wire, wv_X9_wire, wz_X9, rfl, by decide, by decide, by decide +kernel⟩
theorem mv_X9_disk : MV yX9_disk cX9_disk 3 (some .int) RX9 2 := ⟨wc_X9_disk, wi_X9_disk, wv_X9_disk, wz_X9, rfl, by decide, by decide, by decide +kernel⟩
theorem mv_X9_told : MV yX9_told cX9_told 3 (some .int) RX9 2 := ⟨wc_X9_told, wi_X9_told, wv_X9_told, wz_X9, rfl, by decide, by decide, by decide +kernel⟩
theorem mv_X9_count : MV yX9_count cX9_count 2 (some .int) RX9 1 := ⟨wc_X9_count, wi_X9_count, wv_X9_count, wz_X9, rfl, by decide, by decide, by decide +kernel⟩
theorem mt_J6_bitCount_0f7a4 : MS yJ6_bitCount_0f7a4 cJ6_bitCount_0f7a4 1 (some .int) 1 := ⟨wc_J6_bitCount_0f7a4, wt_J6_bitCount_0f7a4, wz_J6, by decide, by decide, by decide +kernel⟩
theorem mt_J9_min_7cf53 : MS yJ9_min_7cf53 cJ9_min_7cf53 2 (some .int) 2 := ⟨wc_J9_min_7cf53, wt_J9_min_7cf53, wz_J9, by decide, by decide, by decide +kernel⟩
theorem mv_J0_length_8abf5 : MV yJ0_length_8abf5 cJ0_length_8abf5 1 (some .int) RJ0 0 := ⟨wc_J0_length_8abf5, wi_J0_length_8abf5, wv_J0_length_8abf5, wz_J0, rfl, by decide, by decide, by decide +kernel⟩
theorem mv_J0_charAt_5068e : MV yJ0_charAt_5068e cJ0_charAt_5068e 2 (some .char) RJ0 1 := ⟨wc_J0_charAt_5068e, wi_J0_charAt_5068e, wv_J0_charAt_5068e, wz_J0, rfl, by decide, by decide, by decide +kernel⟩
theorem mv_J0_coder_7d493 : MV yJ0_coder_7d493 cJ0_coder_7d493 1 (some .byte) RJ0 0 := ⟨wc_J0_coder_7d493, wi_J0_coder_7d493, wv_J0_coder_7d493, wz_J0, rfl, by decide, by decide, by decide +kernel⟩
theorem mv_J0_isLatin1_aae02 : MV yJ0_isLatin1_aae02 cJ0_isLatin1_aae02 1 (some .boolean) RJ0 0 := ⟨wc_J0_isLatin1_aae02, wi_J0_isLatin1_aae02, wv_J0_isLatin1_aae02, wz_J0, rfl, by decide, by decide, by decide +kernel⟩
theorem mt_J0_checkIndex_df160 : MS yJ0_checkIndex_df160 cJ0_checkIndex_df160 2 none 2 := ⟨wc_J0_checkIndex_df160, wt_J0_checkIndex_df160, wz_J0, by decide, by decide, by decide +kernel⟩
theorem mt_J1_charAt_3b067 : MS yJ1_charAt_3b067 cJ1_charAt_3b067 2 (some .char) 2 := ⟨wc_J1_charAt_3b067, wt_J1_charAt_3b067, wz_J1, by decide, by decide, by decide +kernel⟩
theorem mt_J2_getChar_3b067 : MS yJ2_getChar_3b067 cJ2_getChar_3b067 2 (some .char) 2 := ⟨wc_J2_getChar_3b067, wt_J2_getChar_3b067, wz_J2, by decide, by decide, by decide +kernel⟩
theorem mt_J2_length_9d52b : MS yJ2_length_9d52b cJ2_length_9d52b 1 (some .int) 1 := ⟨wc_J2_length_9d52b, wt_J2_length_9d52b, wz_J2, by decide, by decide, by decide +kernel⟩
theorem mt_J2_charAt_3b067 : MS yJ2_charAt_3b067 cJ2_charAt_3b067 2 (some .char) 2 := ⟨wc_J2_charAt_3b067, wt_J2_charAt_3b067, wz_J2, by decide, by decide, by decide +kernel⟩
theorem mt_J2_checkIndex_2214a : MS yJ2_checkIndex_2214a cJ2_checkIndex_2214a 2 none 2 := ⟨wc_J2_checkIndex_2214a, wt_J2_checkIndex_2214a, wz_J2, by decide, by decide, by decide +kernel⟩
theorem mt_J7_fill_53178 : MS yJ7_fill_53178 cJ7_fill_53178 4 none 2 := ⟨wc_J7_fill_53178, wt_J7_fill_53178, wz_J7, by decide, by decide, by decide +kernel⟩
theorem mt_J7_fill_031fb : MS yJ7_fill_031fb cJ7_fill_031fb 4 none 2 := ⟨wc_J7_fill_031fb, wt_J7_fill_031fb, wz_J7, by decide, by decide, by decide +kernel⟩
theorem mt_J3_checkIndex_8e157 : MS yJ3_checkIndex_8e157 cJ3_checkIndex_8e157 3 (some .int) 3 := ⟨wc_J3_checkIndex_8e157, wt_J3_checkIndex_8e157, wz_J3, by decide, by decide, by decide +kernel⟩
