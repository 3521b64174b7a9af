section
-- ===== PART A: goes FIRST, ahead of the names: the tables' words, and 'selects' of the private methods out of them =====
/-- a private method of a class that the tables say can be made, by its rows of tables_1 -/
def lw_okq (q : MethodName × Nat) : Prop := (q.1.cls ≠ "java/lang/invoke/MethodHandle" ∧ q.1.cls ≠ "java/lang/invoke/VarHandle") ∧ Cond.instantiable q.1.cls q.2 ∈ tables_1 ∧ Cond.privateMethod q.1 ∈ tables_1 ∧ Cond.instanceMethod q.1 ∈ tables_1
theorem lw_p0 : lw_okq (⟨"RingDevices$Device", "takeFrom", "(LRingDevices$Ring;)I"⟩, 10) := ⟨⟨by decide +kernel, by decide +kernel⟩, List.mem_of_getElem? (i := 38) (by decide +kernel), List.mem_of_getElem? (i := 375) (by decide +kernel), List.mem_of_getElem? (i := 376) (by decide +kernel)⟩
theorem lw_p1 : lw_okq (⟨"RingDevices$Chain", "forget", "()V"⟩, 12) := ⟨⟨by decide +kernel, by decide +kernel⟩, List.mem_of_getElem? (i := 87) (by decide +kernel), List.mem_of_getElem? (i := 393) (by decide +kernel), List.mem_of_getElem? (i := 394) (by decide +kernel)⟩
theorem lw_p2 : lw_okq (⟨"RingDevices$Ring", "placeOf", "(I)I"⟩, 9) := ⟨⟨by decide +kernel, by decide +kernel⟩, List.mem_of_getElem? (i := 44) (by decide +kernel), List.mem_of_getElem? (i := 401) (by decide +kernel), List.mem_of_getElem? (i := 402) (by decide +kernel)⟩
theorem lw_p3 : lw_okq (⟨"RingDevices$Chain", "isTable", "(II)Z"⟩, 12) := ⟨⟨by decide +kernel, by decide +kernel⟩, List.mem_of_getElem? (i := 87) (by decide +kernel), List.mem_of_getElem? (i := 406) (by decide +kernel), List.mem_of_getElem? (i := 407) (by decide +kernel)⟩
theorem lw_p4 : lw_okq (⟨"RingDevices$Chain", "addPart", "(IZ)Z"⟩, 12) := ⟨⟨by decide +kernel, by decide +kernel⟩, List.mem_of_getElem? (i := 87) (by decide +kernel), List.mem_of_getElem? (i := 417) (by decide +kernel), List.mem_of_getElem? (i := 418) (by decide +kernel)⟩
theorem lw_p5 : lw_okq (⟨"RingDevices$Chain", "nextPlace", "()I"⟩, 12) := ⟨⟨by decide +kernel, by decide +kernel⟩, List.mem_of_getElem? (i := 87) (by decide +kernel), List.mem_of_getElem? (i := 441) (by decide +kernel), List.mem_of_getElem? (i := 442) (by decide +kernel)⟩
theorem lw_p6 : lw_okq (⟨"RingDevices$Disk", "resultOf", "(IJLRingDevices$Chain;)I"⟩, 1) := ⟨⟨by decide +kernel, by decide +kernel⟩, List.mem_of_getElem? (i := 137) (by decide +kernel), List.mem_of_getElem? (i := 450) (by decide +kernel), List.mem_of_getElem? (i := 451) (by decide +kernel)⟩
theorem lw_p7 : lw_okq (⟨"RingDevices$Disk", "areThere", "(JI)Z"⟩, 1) := ⟨⟨by decide +kernel, by decide +kernel⟩, List.mem_of_getElem? (i := 137) (by decide +kernel), List.mem_of_getElem? (i := 454) (by decide +kernel), List.mem_of_getElem? (i := 455) (by decide +kernel)⟩
theorem lw_p8 : lw_okq (⟨"RingDevices$Disk", "carryOut", "(IILRingDevices$Chain;)I"⟩, 1) := ⟨⟨by decide +kernel, by decide +kernel⟩, List.mem_of_getElem? (i := 137) (by decide +kernel), List.mem_of_getElem? (i := 458) (by decide +kernel), List.mem_of_getElem? (i := 459) (by decide +kernel)⟩
theorem lw_p9 : lw_okq (⟨"RingDevices$Disk", "copyOut", "(ILRingDevices$Chain;)I"⟩, 1) := ⟨⟨by decide +kernel, by decide +kernel⟩, List.mem_of_getElem? (i := 137) (by decide +kernel), List.mem_of_getElem? (i := 462) (by decide +kernel), List.mem_of_getElem? (i := 463) (by decide +kernel)⟩
theorem lw_p10 : lw_okq (⟨"RingDevices$Disk", "copyIn", "(ILRingDevices$Chain;)I"⟩, 1) := ⟨⟨by decide +kernel, by decide +kernel⟩, List.mem_of_getElem? (i := 137) (by decide +kernel), List.mem_of_getElem? (i := 479) (by decide +kernel), List.mem_of_getElem? (i := 480) (by decide +kernel)⟩
theorem lw_p11 : lw_okq (⟨"RingDevices$Disk", "set", "(II)V"⟩, 1) := ⟨⟨by decide +kernel, by decide +kernel⟩, List.mem_of_getElem? (i := 137) (by decide +kernel), List.mem_of_getElem? (i := 484) (by decide +kernel), List.mem_of_getElem? (i := 485) (by decide +kernel)⟩
theorem lw_p12 : lw_okq (⟨"RingDevices$Disk", "tellName", "(LRingDevices$Chain;)I"⟩, 1) := ⟨⟨by decide +kernel, by decide +kernel⟩, List.mem_of_getElem? (i := 137) (by decide +kernel), List.mem_of_getElem? (i := 488) (by decide +kernel), List.mem_of_getElem? (i := 489) (by decide +kernel)⟩
theorem lw_p13 : lw_okq (⟨"RingDevices$Device", "deliver", "(IJ)Z"⟩, 10) := ⟨⟨by decide +kernel, by decide +kernel⟩, List.mem_of_getElem? (i := 38) (by decide +kernel), List.mem_of_getElem? (i := 577) (by decide +kernel), List.mem_of_getElem? (i := 578) (by decide +kernel)⟩
theorem lw_p14 : lw_okq (⟨"RingDevices$Driver", "refusal", "(LRingDevices$Loans;I)I"⟩, 6) := ⟨⟨by decide +kernel, by decide +kernel⟩, List.mem_of_getElem? (i := 204) (by decide +kernel), List.mem_of_getElem? (i := 597) (by decide +kernel), List.mem_of_getElem? (i := 598) (by decide +kernel)⟩
theorem lw_p15 : lw_okq (⟨"RingDevices$Loans", "leastFree", "()I"⟩, 5) := ⟨⟨by decide +kernel, by decide +kernel⟩, List.mem_of_getElem? (i := 210) (by decide +kernel), List.mem_of_getElem? (i := 615) (by decide +kernel), List.mem_of_getElem? (i := 616) (by decide +kernel)⟩
def lw_privs_1 : List (MethodName × Nat) := [(⟨"RingDevices$Device", "takeFrom", "(LRingDevices$Ring;)I"⟩, 10), (⟨"RingDevices$Chain", "forget", "()V"⟩, 12), (⟨"RingDevices$Ring", "placeOf", "(I)I"⟩, 9), (⟨"RingDevices$Chain", "isTable", "(II)Z"⟩, 12), (⟨"RingDevices$Chain", "addPart", "(IZ)Z"⟩, 12), (⟨"RingDevices$Chain", "nextPlace", "()I"⟩, 12), (⟨"RingDevices$Disk", "resultOf", "(IJLRingDevices$Chain;)I"⟩, 1), (⟨"RingDevices$Disk", "areThere", "(JI)Z"⟩, 1), (⟨"RingDevices$Disk", "carryOut", "(IILRingDevices$Chain;)I"⟩, 1), (⟨"RingDevices$Disk", "copyOut", "(ILRingDevices$Chain;)I"⟩, 1), (⟨"RingDevices$Disk", "copyIn", "(ILRingDevices$Chain;)I"⟩, 1), (⟨"RingDevices$Disk", "set", "(II)V"⟩, 1), (⟨"RingDevices$Disk", "tellName", "(LRingDevices$Chain;)I"⟩, 1), (⟨"RingDevices$Device", "deliver", "(IJ)Z"⟩, 10), (⟨"RingDevices$Driver", "refusal", "(LRingDevices$Loans;I)I"⟩, 6), (⟨"RingDevices$Loans", "leastFree", "()I"⟩, 5)]
theorem lw_r1 : ∀ q ∈ lw_privs_1, lw_okq q := List.forall_mem_cons.mpr ⟨lw_p0, List.forall_mem_cons.mpr ⟨lw_p1, List.forall_mem_cons.mpr ⟨lw_p2, List.forall_mem_cons.mpr ⟨lw_p3, List.forall_mem_cons.mpr ⟨lw_p4, List.forall_mem_cons.mpr ⟨lw_p5, List.forall_mem_cons.mpr ⟨lw_p6, List.forall_mem_cons.mpr ⟨lw_p7, List.forall_mem_cons.mpr ⟨lw_p8, List.forall_mem_cons.mpr ⟨lw_p9, List.forall_mem_cons.mpr ⟨lw_p10, List.forall_mem_cons.mpr ⟨lw_p11, List.forall_mem_cons.mpr ⟨lw_p12, List.forall_mem_cons.mpr ⟨lw_p13, List.forall_mem_cons.mpr ⟨lw_p14, List.forall_mem_cons.mpr ⟨lw_p15, fun _ h => absurd h List.not_mem_nil⟩⟩⟩⟩⟩⟩⟩⟩⟩⟩⟩⟩⟩⟩⟩⟩
theorem lw_p16 : lw_okq (⟨"RingDevices$Loans", "lend", "(II)V"⟩, 5) := ⟨⟨by decide +kernel, by decide +kernel⟩, List.mem_of_getElem? (i := 210) (by decide +kernel), List.mem_of_getElem? (i := 619) (by decide +kernel), List.mem_of_getElem? (i := 620) (by decide +kernel)⟩
theorem lw_p17 : lw_okq (⟨"RingDevices$Driver", "descriptorAt", "(II)I"⟩, 6) := ⟨⟨by decide +kernel, by decide +kernel⟩, List.mem_of_getElem? (i := 204) (by decide +kernel), List.mem_of_getElem? (i := 623) (by decide +kernel), List.mem_of_getElem? (i := 624) (by decide +kernel)⟩
theorem lw_p18 : lw_okq (⟨"RingDevices$Driver", "layRequest", "(IIIIII)V"⟩, 6) := ⟨⟨by decide +kernel, by decide +kernel⟩, List.mem_of_getElem? (i := 204) (by decide +kernel), List.mem_of_getElem? (i := 633) (by decide +kernel), List.mem_of_getElem? (i := 634) (by decide +kernel)⟩
theorem lw_p19 : lw_okq (⟨"RingDevices$Driver", "fillRequest", "(IIIJ)V"⟩, 6) := ⟨⟨by decide +kernel, by decide +kernel⟩, List.mem_of_getElem? (i := 204) (by decide +kernel), List.mem_of_getElem? (i := 641) (by decide +kernel), List.mem_of_getElem? (i := 642) (by decide +kernel)⟩
theorem lw_p20 : lw_okq (⟨"RingDevices$Driver", "fillPattern", "(IIJ)V"⟩, 6) := ⟨⟨by decide +kernel, by decide +kernel⟩, List.mem_of_getElem? (i := 204) (by decide +kernel), List.mem_of_getElem? (i := 646) (by decide +kernel), List.mem_of_getElem? (i := 647) (by decide +kernel)⟩
theorem lw_p21 : lw_okq (⟨"RingDevices$Driver", "offer", "(II)V"⟩, 6) := ⟨⟨by decide +kernel, by decide +kernel⟩, List.mem_of_getElem? (i := 204) (by decide +kernel), List.mem_of_getElem? (i := 652) (by decide +kernel), List.mem_of_getElem? (i := 653) (by decide +kernel)⟩
theorem lw_p22 : lw_okq (⟨"RingDevicesModel", "clear", "()V"⟩, 32) := ⟨⟨by decide +kernel, by decide +kernel⟩, List.mem_of_getElem? (i := 736) (by decide +kernel), List.mem_of_getElem? (i := 742) (by decide +kernel), List.mem_of_getElem? (i := 743) (by decide +kernel)⟩
theorem lw_p23 : lw_okq (⟨"RingDevicesModel", "hasSomething", "(I)Z"⟩, 32) := ⟨⟨by decide +kernel, by decide +kernel⟩, List.mem_of_getElem? (i := 736) (by decide +kernel), List.mem_of_getElem? (i := 864) (by decide +kernel), List.mem_of_getElem? (i := 865) (by decide +kernel)⟩
theorem lw_p24 : lw_okq (⟨"RingDevicesModel", "number", "(II)J"⟩, 32) := ⟨⟨by decide +kernel, by decide +kernel⟩, List.mem_of_getElem? (i := 736) (by decide +kernel), List.mem_of_getElem? (i := 868) (by decide +kernel), List.mem_of_getElem? (i := 869) (by decide +kernel)⟩
theorem lw_p25 : lw_okq (⟨"RingDevicesModel", "take", "(I)Z"⟩, 32) := ⟨⟨by decide +kernel, by decide +kernel⟩, List.mem_of_getElem? (i := 736) (by decide +kernel), List.mem_of_getElem? (i := 873) (by decide +kernel), List.mem_of_getElem? (i := 874) (by decide +kernel)⟩
theorem lw_p26 : lw_okq (⟨"RingDevicesModel", "keep", "(IIZ)V"⟩, 32) := ⟨⟨by decide +kernel, by decide +kernel⟩, List.mem_of_getElem? (i := 736) (by decide +kernel), List.mem_of_getElem? (i := 880) (by decide +kernel), List.mem_of_getElem? (i := 881) (by decide +kernel)⟩
theorem lw_p27 : lw_okq (⟨"RingDevicesModel", "doDisk", "()I"⟩, 32) := ⟨⟨by decide +kernel, by decide +kernel⟩, List.mem_of_getElem? (i := 736) (by decide +kernel), List.mem_of_getElem? (i := 884) (by decide +kernel), List.mem_of_getElem? (i := 885) (by decide +kernel)⟩
theorem lw_p28 : lw_okq (⟨"RingDevicesModel", "readNumber", "(II)J"⟩, 32) := ⟨⟨by decide +kernel, by decide +kernel⟩, List.mem_of_getElem? (i := 736) (by decide +kernel), List.mem_of_getElem? (i := 888) (by decide +kernel), List.mem_of_getElem? (i := 889) (by decide +kernel)⟩
theorem lw_p29 : lw_okq (⟨"RingDevicesModel", "readByte", "(I)I"⟩, 32) := ⟨⟨by decide +kernel, by decide +kernel⟩, List.mem_of_getElem? (i := 736) (by decide +kernel), List.mem_of_getElem? (i := 892) (by decide +kernel), List.mem_of_getElem? (i := 893) (by decide +kernel)⟩
theorem lw_p30 : lw_okq (⟨"RingDevicesModel", "writeByte", "(II)V"⟩, 32) := ⟨⟨by decide +kernel, by decide +kernel⟩, List.mem_of_getElem? (i := 736) (by decide +kernel), List.mem_of_getElem? (i := 896) (by decide +kernel), List.mem_of_getElem? (i := 897) (by decide +kernel)⟩
theorem lw_p31 : lw_okq (⟨"RingDevicesModel", "give", "(II)V"⟩, 32) := ⟨⟨by decide +kernel, by decide +kernel⟩, List.mem_of_getElem? (i := 736) (by decide +kernel), List.mem_of_getElem? (i := 903) (by decide +kernel), List.mem_of_getElem? (i := 904) (by decide +kernel)⟩
def lw_privs_2 : List (MethodName × Nat) := [(⟨"RingDevices$Loans", "lend", "(II)V"⟩, 5), (⟨"RingDevices$Driver", "descriptorAt", "(II)I"⟩, 6), (⟨"RingDevices$Driver", "layRequest", "(IIIIII)V"⟩, 6), (⟨"RingDevices$Driver", "fillRequest", "(IIIJ)V"⟩, 6), (⟨"RingDevices$Driver", "fillPattern", "(IIJ)V"⟩, 6), (⟨"RingDevices$Driver", "offer", "(II)V"⟩, 6), (⟨"RingDevicesModel", "clear", "()V"⟩, 32), (⟨"RingDevicesModel", "hasSomething", "(I)Z"⟩, 32), (⟨"RingDevicesModel", "number", "(II)J"⟩, 32), (⟨"RingDevicesModel", "take", "(I)Z"⟩, 32), (⟨"RingDevicesModel", "keep", "(IIZ)V"⟩, 32), (⟨"RingDevicesModel", "doDisk", "()I"⟩, 32), (⟨"RingDevicesModel", "readNumber", "(II)J"⟩, 32), (⟨"RingDevicesModel", "readByte", "(I)I"⟩, 32), (⟨"RingDevicesModel", "writeByte", "(II)V"⟩, 32), (⟨"RingDevicesModel", "give", "(II)V"⟩, 32)]
theorem lw_r2 : ∀ q ∈ lw_privs_2, lw_okq q := List.forall_mem_cons.mpr ⟨lw_p16, List.forall_mem_cons.mpr ⟨lw_p17, List.forall_mem_cons.mpr ⟨lw_p18, List.forall_mem_cons.mpr ⟨lw_p19, List.forall_mem_cons.mpr ⟨lw_p20, List.forall_mem_cons.mpr ⟨lw_p21, List.forall_mem_cons.mpr ⟨lw_p22, List.forall_mem_cons.mpr ⟨lw_p23, List.forall_mem_cons.mpr ⟨lw_p24, List.forall_mem_cons.mpr ⟨lw_p25, List.forall_mem_cons.mpr ⟨lw_p26, List.forall_mem_cons.mpr ⟨lw_p27, List.forall_mem_cons.mpr ⟨lw_p28, List.forall_mem_cons.mpr ⟨lw_p29, List.forall_mem_cons.mpr ⟨lw_p30, List.forall_mem_cons.mpr ⟨lw_p31, fun _ h => absurd h List.not_mem_nil⟩⟩⟩⟩⟩⟩⟩⟩⟩⟩⟩⟩⟩⟩⟩⟩
theorem lw_p32 : lw_okq (⟨"RingDevicesModel", "put", "(IIJ)V"⟩, 32) := ⟨⟨by decide +kernel, by decide +kernel⟩, List.mem_of_getElem? (i := 736) (by decide +kernel), List.mem_of_getElem? (i := 907) (by decide +kernel), List.mem_of_getElem? (i := 908) (by decide +kernel)⟩
theorem lw_p33 : lw_okq (⟨"RingDevicesModel", "doWire", "()V"⟩, 32) := ⟨⟨by decide +kernel, by decide +kernel⟩, List.mem_of_getElem? (i := 736) (by decide +kernel), List.mem_of_getElem? (i := 911) (by decide +kernel), List.mem_of_getElem? (i := 912) (by decide +kernel)⟩
theorem lw_p34 : lw_okq (⟨"RingDevicesModel", "ask", "(IIJ)I"⟩, 32) := ⟨⟨by decide +kernel, by decide +kernel⟩, List.mem_of_getElem? (i := 736) (by decide +kernel), List.mem_of_getElem? (i := 927) (by decide +kernel), List.mem_of_getElem? (i := 928) (by decide +kernel)⟩
theorem lw_p35 : lw_okq (⟨"RingDevicesModel", "freeOnes", "(I)I"⟩, 32) := ⟨⟨by decide +kernel, by decide +kernel⟩, List.mem_of_getElem? (i := 736) (by decide +kernel), List.mem_of_getElem? (i := 931) (by decide +kernel), List.mem_of_getElem? (i := 932) (by decide +kernel)⟩
theorem lw_p36 : lw_okq (⟨"RingDevicesModel", "lend", "(II)I"⟩, 32) := ⟨⟨by decide +kernel, by decide +kernel⟩, List.mem_of_getElem? (i := 736) (by decide +kernel), List.mem_of_getElem? (i := 935) (by decide +kernel), List.mem_of_getElem? (i := 936) (by decide +kernel)⟩
theorem lw_p37 : lw_okq (⟨"RingDevicesModel", "describe", "(IIIII)V"⟩, 32) := ⟨⟨by decide +kernel, by decide +kernel⟩, List.mem_of_getElem? (i := 736) (by decide +kernel), List.mem_of_getElem? (i := 939) (by decide +kernel), List.mem_of_getElem? (i := 940) (by decide +kernel)⟩
theorem lw_p38 : lw_okq (⟨"RingDevicesModel", "offer", "(II)V"⟩, 32) := ⟨⟨by decide +kernel, by decide +kernel⟩, List.mem_of_getElem? (i := 736) (by decide +kernel), List.mem_of_getElem? (i := 943) (by decide +kernel), List.mem_of_getElem? (i := 944) (by decide +kernel)⟩
def lw_privs_3 : List (MethodName × Nat) := [(⟨"RingDevicesModel", "put", "(IIJ)V"⟩, 32), (⟨"RingDevicesModel", "doWire", "()V"⟩, 32), (⟨"RingDevicesModel", "ask", "(IIJ)I"⟩, 32), (⟨"RingDevicesModel", "freeOnes", "(I)I"⟩, 32), (⟨"RingDevicesModel", "lend", "(II)I"⟩, 32), (⟨"RingDevicesModel", "describe", "(IIIII)V"⟩, 32), (⟨"RingDevicesModel", "offer", "(II)V"⟩, 32)]
theorem lw_r3 : ∀ q ∈ lw_privs_3, lw_okq q := List.forall_mem_cons.mpr ⟨lw_p32, List.forall_mem_cons.mpr ⟨lw_p33, List.forall_mem_cons.mpr ⟨lw_p34, List.forall_mem_cons.mpr ⟨lw_p35, List.forall_mem_cons.mpr ⟨lw_p36, List.forall_mem_cons.mpr ⟨lw_p37, List.forall_mem_cons.mpr ⟨lw_p38, fun _ h => absurd h List.not_mem_nil⟩⟩⟩⟩⟩⟩⟩
def lw_privs : List (MethodName × Nat) := lw_privs_1 ++ (lw_privs_2 ++ (lw_privs_3))
def lw_tbl : List Cond := k2_sels lw_privs ++ tables_1
theorem lw_privs_ok : ∀ q ∈ lw_privs, lw_okq q := by
  show ∀ q ∈ lw_privs_1 ++ (lw_privs_2 ++ (lw_privs_3)), lw_okq q
  exact List.forall_mem_append.mpr ⟨lw_r1, List.forall_mem_append.mpr ⟨lw_r2, lw_r3⟩⟩

/-! ===== BEGIN printed: names, fields, word lists, decode rows ===== -/
def RX0 : String := "RingDevices$Chain"
def TX0 : u_T := fun k => match k with
  | 0 => ("RingDevices$Chain", "memory", "LRingDevices$Memory;", true)
  | 1 => ("RingDevices$Chain", "addresses", "[I", true)
  | 2 => ("RingDevices$Chain", "lengths", "[I", true)
  | 3 => ("RingDevices$Chain", "parts", "I", false)
  | 4 => ("RingDevices$Chain", "readParts", "I", false)
  | 5 => ("RingDevices$Chain", "part", "I", false)
  | 6 => ("RingDevices$Chain", "end", "I", false)
  | 7 => ("RingDevices$Chain", "offset", "I", false)
  | 8 => ("RingDevices$Chain", "lastPlace", "I", false)
  | 9 => ("RingDevices$Chain", "head", "I", false)
  | 10 => ("RingDevices$Chain", "readable", "I", false)
  | _ => ("RingDevices$Chain", "writable", "I", false)
def tyX0 : Nat → FieldType := fun k => match k with
  | 0 => .object "RingDevices$Memory"
  | 1 => .array .int
  | 2 => .array .int
  | 3 => .int
  | 4 => .int
  | 5 => .int
  | 6 => .int
  | 7 => .int
  | 8 => .int
  | 9 => .int
  | 10 => .int
  | _ => .int
abbrev wsX00 : List Cond := u_ws RX0 TX0 12
theorem nmX0 : ∀ a, a < 12 → ∀ b, b < 12 → a ≠ b → (TX0 a).2.1 ≠ (TX0 b).2.1 := by decide +kernel
theorem tyX0_ok : ∀ k, k < 12 → parseFieldDescriptor (TX0 k).2.2.1 = some (tyX0 k) := by decide +kernel
abbrev cX0_init : ByteArray := prog_2_method_1_code
def yX0_init : MethodName := ⟨RX0, "<init>", "(LRingDevices$Memory;)V"⟩
abbrev cX0_forget : ByteArray := prog_2_method_2_code
def yX0_forget : MethodName := ⟨RX0, "forget", "()V"⟩
abbrev cX0_gather : ByteArray := prog_2_method_3_code
def yX0_gather : MethodName := ⟨RX0, "gather", "(LRingDevices$Ring;Z)Z"⟩
abbrev cX0_isTable : ByteArray := prog_2_method_4_code
def yX0_isTable : MethodName := ⟨RX0, "isTable", "(II)Z"⟩
abbrev cX0_addPart : ByteArray := prog_2_method_5_code
def yX0_addPart : MethodName := ⟨RX0, "addPart", "(IZ)Z"⟩
abbrev cX0_toReads : ByteArray := prog_2_method_6_code
def yX0_toReads : MethodName := ⟨RX0, "toReads", "()V"⟩
abbrev cX0_toWrites : ByteArray := prog_2_method_7_code
def yX0_toWrites : MethodName := ⟨RX0, "toWrites", "()V"⟩
abbrev cX0_nextByte : ByteArray := prog_2_method_8_code
def yX0_nextByte : MethodName := ⟨RX0, "nextByte", "()I"⟩
abbrev cX0_nextNumber : ByteArray := prog_2_method_9_code
def yX0_nextNumber : MethodName := ⟨RX0, "nextNumber", "(I)J"⟩
abbrev cX0_skip : ByteArray := prog_2_method_10_code
def yX0_skip : MethodName := ⟨RX0, "skip", "(I)V"⟩
abbrev cX0_putByte : ByteArray := prog_2_method_11_code
def yX0_putByte : MethodName := ⟨RX0, "putByte", "(I)V"⟩
abbrev cX0_putLast : ByteArray := prog_2_method_12_code
def yX0_putLast : MethodName := ⟨RX0, "putLast", "(I)V"⟩
abbrev cX0_nextPlace : ByteArray := prog_2_method_13_code
def yX0_nextPlace : MethodName := ⟨RX0, "nextPlace", "()I"⟩
def RX1 : String := "RingDevices$Device"
def TX1 : u_T := fun k => match k with
  | 0 => ("RingDevices$Device", "disks", "LRingDevices$Ring;", true)
  | 1 => ("RingDevices$Device", "comes", "LRingDevices$Ring;", true)
  | 2 => ("RingDevices$Device", "goes", "LRingDevices$Ring;", true)
  | 3 => ("RingDevices$Device", "chain", "LRingDevices$Chain;", true)
  | 4 => ("RingDevices$Device", "sectors", "LRingDevices$Disk;", true)
  | 5 => ("RingDevices$Device", "line", "LRingDevices$Wire;", true)
  | 6 => ("RingDevices$Device", "state", "I", false)
  | 7 => ("RingDevices$Device", "tables", "Z", false)
  | 8 => ("RingDevices$Device", "came", "I", false)
  | _ => ("RingDevices$Device", "dropped", "I", false)
def tyX1 : Nat → FieldType := fun k => match k with
  | 0 => .object "RingDevices$Ring"
  | 1 => .object "RingDevices$Ring"
  | 2 => .object "RingDevices$Ring"
  | 3 => .object "RingDevices$Chain"
  | 4 => .object "RingDevices$Disk"
  | 5 => .object "RingDevices$Wire"
  | 6 => .int
  | 7 => .boolean
  | 8 => .int
  | _ => .int
abbrev wsX10 : List Cond := u_ws RX1 TX1 10
theorem nmX1 : ∀ a, a < 10 → ∀ b, b < 10 → a ≠ b → (TX1 a).2.1 ≠ (TX1 b).2.1 := by decide +kernel
theorem tyX1_ok : ∀ k, k < 10 → parseFieldDescriptor (TX1 k).2.2.1 = some (tyX1 k) := by decide +kernel
abbrev cX1_init : ByteArray := prog_3_method_1_code
def yX1_init : MethodName := ⟨RX1, "<init>", "(LRingDevices$Memory;)V"⟩
abbrev cX1_ringOf : ByteArray := prog_3_method_2_code
def yX1_ringOf : MethodName := ⟨RX1, "ringOf", "(I)LRingDevices$Ring;"⟩
abbrev cX1_switchOff : ByteArray := prog_3_method_3_code
def yX1_switchOff : MethodName := ⟨RX1, "switchOff", "(Z)V"⟩
abbrev cX1_doChain : ByteArray := prog_3_method_4_code
def yX1_doChain : MethodName := ⟨RX1, "doChain", "(I)I"⟩
abbrev cX1_frameComes : ByteArray := prog_3_method_5_code
def yX1_frameComes : MethodName := ⟨RX1, "frameComes", "(IJ)I"⟩
abbrev cX1_deliver : ByteArray := prog_3_method_6_code
def yX1_deliver : MethodName := ⟨RX1, "deliver", "(IJ)Z"⟩
abbrev cX1_takeFrom : ByteArray := prog_3_method_7_code
def yX1_takeFrom : MethodName := ⟨RX1, "takeFrom", "(LRingDevices$Ring;)I"⟩
def RX2 : String := "RingDevices$Disk"
def TX2 : u_T := fun k => match k with
  | _ => ("RingDevices$Disk", "bytes", "[B", true)
def tyX2 : Nat → FieldType := fun k => match k with
  | _ => .array .byte
abbrev wsX20 : List Cond := u_ws RX2 TX2 1
theorem nmX2 : ∀ a, a < 1 → ∀ b, b < 1 → a ≠ b → (TX2 a).2.1 ≠ (TX2 b).2.1 := by decide +kernel
theorem tyX2_ok : ∀ k, k < 1 → parseFieldDescriptor (TX2 k).2.2.1 = some (tyX2 k) := by decide +kernel
abbrev cX2_init : ByteArray := prog_4_method_1_code
def yX2_init : MethodName := ⟨RX2, "<init>", "()V"⟩
abbrev cX2_at : ByteArray := prog_4_method_2_code
def yX2_at : MethodName := ⟨RX2, "at", "(I)I"⟩
abbrev cX2_set : ByteArray := prog_4_method_3_code
def yX2_set : MethodName := ⟨RX2, "set", "(II)V"⟩
abbrev cX2_answer : ByteArray := prog_4_method_4_code
def yX2_answer : MethodName := ⟨RX2, "answer", "(LRingDevices$Chain;)I"⟩
abbrev cX2_resultOf : ByteArray := prog_4_method_5_code
def yX2_resultOf : MethodName := ⟨RX2, "resultOf", "(IJLRingDevices$Chain;)I"⟩
abbrev cX2_areThere : ByteArray := prog_4_method_6_code
def yX2_areThere : MethodName := ⟨RX2, "areThere", "(JI)Z"⟩
abbrev cX2_carryOut : ByteArray := prog_4_method_7_code
def yX2_carryOut : MethodName := ⟨RX2, "carryOut", "(IILRingDevices$Chain;)I"⟩
abbrev cX2_copyOut : ByteArray := prog_4_method_8_code
def yX2_copyOut : MethodName := ⟨RX2, "copyOut", "(ILRingDevices$Chain;)I"⟩
abbrev cX2_copyIn : ByteArray := prog_4_method_9_code
def yX2_copyIn : MethodName := ⟨RX2, "copyIn", "(ILRingDevices$Chain;)I"⟩
abbrev cX2_tellName : ByteArray := prog_4_method_10_code
def yX2_tellName : MethodName := ⟨RX2, "tellName", "(LRingDevices$Chain;)I"⟩
def RX3 : String := "RingDevices$Driver"
def TX3 : u_T := fun k => match k with
  | 0 => ("RingDevices$Driver", "memory", "LRingDevices$Memory;", true)
  | 1 => ("RingDevices$Driver", "disks", "LRingDevices$Loans;", true)
  | 2 => ("RingDevices$Driver", "comes", "LRingDevices$Loans;", true)
  | 3 => ("RingDevices$Driver", "goes", "LRingDevices$Loans;", true)
  | 4 => ("RingDevices$Driver", "tables", "Z", false)
  | _ => ("RingDevices$Driver", "started", "Z", false)
def tyX3 : Nat → FieldType := fun k => match k with
  | 0 => .object "RingDevices$Memory"
  | 1 => .object "RingDevices$Loans"
  | 2 => .object "RingDevices$Loans"
  | 3 => .object "RingDevices$Loans"
  | 4 => .boolean
  | _ => .boolean
abbrev wsX30 : List Cond := u_ws RX3 TX3 6
theorem nmX3 : ∀ a, a < 6 → ∀ b, b < 6 → a ≠ b → (TX3 a).2.1 ≠ (TX3 b).2.1 := by decide +kernel
theorem tyX3_ok : ∀ k, k < 6 → parseFieldDescriptor (TX3 k).2.2.1 = some (tyX3 k) := by decide +kernel
abbrev cX3_init : ByteArray := prog_5_method_1_code
def yX3_init : MethodName := ⟨RX3, "<init>", "(LRingDevices$Memory;)V"⟩
abbrev cX3_begin : ByteArray := prog_5_method_2_code
def yX3_begin : MethodName := ⟨RX3, "begin", "(Z)V"⟩
abbrev cX3_stop : ByteArray := prog_5_method_3_code
def yX3_stop : MethodName := ⟨RX3, "stop", "()V"⟩
abbrev cX3_loansOf : ByteArray := prog_5_method_4_code
def yX3_loansOf : MethodName := ⟨RX3, "loansOf", "(I)LRingDevices$Loans;"⟩
abbrev cX3_refusal : ByteArray := prog_5_method_5_code
def yX3_refusal : MethodName := ⟨RX3, "refusal", "(LRingDevices$Loans;I)I"⟩
abbrev cX3_ask : ByteArray := prog_5_method_6_code
def yX3_ask : MethodName := ⟨RX3, "ask", "(IIJ)I"⟩
abbrev cX3_layRequest : ByteArray := prog_5_method_7_code
def yX3_layRequest : MethodName := ⟨RX3, "layRequest", "(IIIIII)V"⟩
abbrev cX3_fillRequest : ByteArray := prog_5_method_8_code
def yX3_fillRequest : MethodName := ⟨RX3, "fillRequest", "(IIIJ)V"⟩
abbrev cX3_fillPattern : ByteArray := prog_5_method_9_code
def yX3_fillPattern : MethodName := ⟨RX3, "fillPattern", "(IIJ)V"⟩
abbrev cX3_letGo : ByteArray := prog_5_method_10_code
def yX3_letGo : MethodName := ⟨RX3, "letGo", "(IJ)I"⟩
abbrev cX3_lendBuffer : ByteArray := prog_5_method_11_code
def yX3_lendBuffer : MethodName := ⟨RX3, "lendBuffer", "()I"⟩
abbrev cX3_descriptorAt : ByteArray := prog_5_method_12_code
def yX3_descriptorAt : MethodName := ⟨RX3, "descriptorAt", "(II)I"⟩
abbrev cX3_offer : ByteArray := prog_5_method_13_code
def yX3_offer : MethodName := ⟨RX3, "offer", "(II)V"⟩
abbrev cX3_collectOne : ByteArray := prog_5_method_14_code
def yX3_collectOne : MethodName := ⟨RX3, "collectOne", "(I)I"⟩
def RX4 : String := "RingDevices$Loans"
def TX4 : u_T := fun k => match k with
  | 0 => ("RingDevices$Loans", "chains", "[I", true)
  | 1 => ("RingDevices$Loans", "free", "I", false)
  | 2 => ("RingDevices$Loans", "asked", "I", false)
  | 3 => ("RingDevices$Loans", "saw", "I", false)
  | _ => ("RingDevices$Loans", "latestWritten", "I", false)
def tyX4 : Nat → FieldType := fun k => match k with
  | 0 => .array .int
  | 1 => .int
  | 2 => .int
  | 3 => .int
  | _ => .int
abbrev wsX40 : List Cond := u_ws RX4 TX4 5
theorem nmX4 : ∀ a, a < 5 → ∀ b, b < 5 → a ≠ b → (TX4 a).2.1 ≠ (TX4 b).2.1 := by decide +kernel
theorem tyX4_ok : ∀ k, k < 5 → parseFieldDescriptor (TX4 k).2.2.1 = some (tyX4 k) := by decide +kernel
abbrev cX4_init : ByteArray := prog_6_method_1_code
def yX4_init : MethodName := ⟨RX4, "<init>", "()V"⟩
abbrev cX4_begin : ByteArray := prog_6_method_2_code
def yX4_begin : MethodName := ⟨RX4, "begin", "()V"⟩
abbrev cX4_forget : ByteArray := prog_6_method_3_code
def yX4_forget : MethodName := ⟨RX4, "forget", "()V"⟩
abbrev cX4_freeOnes : ByteArray := prog_6_method_4_code
def yX4_freeOnes : MethodName := ⟨RX4, "freeOnes", "()I"⟩
abbrev cX4_lendFirst : ByteArray := prog_6_method_5_code
def yX4_lendFirst : MethodName := ⟨RX4, "lendFirst", "()I"⟩
abbrev cX4_lendNext : ByteArray := prog_6_method_6_code
def yX4_lendNext : MethodName := ⟨RX4, "lendNext", "(I)I"⟩
abbrev cX4_leastFree : ByteArray := prog_6_method_7_code
def yX4_leastFree : MethodName := ⟨RX4, "leastFree", "()I"⟩
abbrev cX4_lend : ByteArray := prog_6_method_8_code
def yX4_lend : MethodName := ⟨RX4, "lend", "(II)V"⟩
abbrev cX4_takeBack : ByteArray := prog_6_method_9_code
def yX4_takeBack : MethodName := ⟨RX4, "takeBack", "(J)Z"⟩
def RX5 : String := "RingDevices$Memory"
def TX5 : u_T := fun k => match k with
  | _ => ("RingDevices$Memory", "bytes", "[B", true)
def tyX5 : Nat → FieldType := fun k => match k with
  | _ => .array .byte
abbrev wsX50 : List Cond := u_ws RX5 TX5 1
theorem nmX5 : ∀ a, a < 1 → ∀ b, b < 1 → a ≠ b → (TX5 a).2.1 ≠ (TX5 b).2.1 := by decide +kernel
theorem tyX5_ok : ∀ k, k < 1 → parseFieldDescriptor (TX5 k).2.2.1 = some (tyX5 k) := by decide +kernel
abbrev cX5_init : ByteArray := prog_7_method_1_code
def yX5_init : MethodName := ⟨RX5, "<init>", "()V"⟩
abbrev cX5_clear : ByteArray := prog_7_method_2_code
def yX5_clear : MethodName := ⟨RX5, "clear", "()V"⟩
abbrev cX5_at : ByteArray := prog_7_method_3_code
def yX5_at : MethodName := ⟨RX5, "at", "(I)I"⟩
abbrev cX5_set : ByteArray := prog_7_method_4_code
def yX5_set : MethodName := ⟨RX5, "set", "(II)V"⟩
abbrev cX5_number : ByteArray := prog_7_method_5_code
def yX5_number : MethodName := ⟨RX5, "number", "(II)J"⟩
abbrev cX5_setNumber : ByteArray := prog_7_method_6_code
def yX5_setNumber : MethodName := ⟨RX5, "setNumber", "(IIJ)V"⟩
abbrev cX5_two : ByteArray := prog_7_method_7_code
def yX5_two : MethodName := ⟨RX5, "two", "(I)I"⟩
abbrev cX5_setDescriptor : ByteArray := prog_7_method_8_code
def yX5_setDescriptor : MethodName := ⟨RX5, "setDescriptor", "(IIIII)V"⟩
def RX6 : String := "RingDevices$Ring"
def TX6 : u_T := fun k => match k with
  | 0 => ("RingDevices$Ring", "memory", "LRingDevices$Memory;", true)
  | 1 => ("RingDevices$Ring", "laid", "Z", false)
  | 2 => ("RingDevices$Ring", "size", "I", false)
  | 3 => ("RingDevices$Ring", "descriptors", "I", false)
  | 4 => ("RingDevices$Ring", "available", "I", false)
  | 5 => ("RingDevices$Ring", "used", "I", false)
  | 6 => ("RingDevices$Ring", "taken", "I", false)
  | 7 => ("RingDevices$Ring", "given", "I", false)
  | _ => ("RingDevices$Ring", "signals", "I", false)
def tyX6 : Nat → FieldType := fun k => match k with
  | 0 => .object "RingDevices$Memory"
  | 1 => .boolean
  | 2 => .int
  | 3 => .int
  | 4 => .int
  | 5 => .int
  | 6 => .int
  | 7 => .int
  | _ => .int
abbrev wsX60 : List Cond := u_ws RX6 TX6 9
theorem nmX6 : ∀ a, a < 9 → ∀ b, b < 9 → a ≠ b → (TX6 a).2.1 ≠ (TX6 b).2.1 := by decide +kernel
theorem tyX6_ok : ∀ k, k < 9 → parseFieldDescriptor (TX6 k).2.2.1 = some (tyX6 k) := by decide +kernel
abbrev cX6_init : ByteArray := prog_8_method_1_code
def yX6_init : MethodName := ⟨RX6, "<init>", "(LRingDevices$Memory;)V"⟩
abbrev cX6_forget : ByteArray := prog_8_method_2_code
def yX6_forget : MethodName := ⟨RX6, "forget", "()V"⟩
abbrev cX6_lay : ByteArray := prog_8_method_3_code
def yX6_lay : MethodName := ⟨RX6, "lay", "(IIII)V"⟩
abbrev cX6_waiting : ByteArray := prog_8_method_4_code
def yX6_waiting : MethodName := ⟨RX6, "waiting", "()I"⟩
abbrev cX6_nextHead : ByteArray := prog_8_method_5_code
def yX6_nextHead : MethodName := ⟨RX6, "nextHead", "()I"⟩
abbrev cX6_giveBack : ByteArray := prog_8_method_6_code
def yX6_giveBack : MethodName := ⟨RX6, "giveBack", "(II)V"⟩
abbrev cX6_placeOf : ByteArray := prog_8_method_7_code
def yX6_placeOf : MethodName := ⟨RX6, "placeOf", "(I)I"⟩
def RX7 : String := "RingDevices$Wire"
def TX7 : u_T := fun k => match k with
  | 0 => ("RingDevices$Wire", "bytes", "[B", true)
  | 1 => ("RingDevices$Wire", "lengths", "[I", true)
  | 2 => ("RingDevices$Wire", "latest", "I", false)
  | _ => ("RingDevices$Wire", "went", "I", false)
def tyX7 : Nat → FieldType := fun k => match k with
  | 0 => .array .byte
  | 1 => .array .int
  | 2 => .int
  | _ => .int
abbrev wsX70 : List Cond := u_ws RX7 TX7 4
theorem nmX7 : ∀ a, a < 4 → ∀ b, b < 4 → a ≠ b → (TX7 a).2.1 ≠ (TX7 b).2.1 := by decide +kernel
theorem tyX7_ok : ∀ k, k < 4 → parseFieldDescriptor (TX7 k).2.2.1 = some (tyX7 k) := by decide +kernel
abbrev cX7_init : ByteArray := prog_9_method_1_code
def yX7_init : MethodName := ⟨RX7, "<init>", "()V"⟩
abbrev cX7_carry : ByteArray := prog_9_method_2_code
def yX7_carry : MethodName := ⟨RX7, "carry", "(LRingDevices$Chain;)V"⟩
abbrev cX7_byteOf : ByteArray := prog_9_method_3_code
def yX7_byteOf : MethodName := ⟨RX7, "byteOf", "(II)I"⟩
def RX8 : String := "RingDevices"
def TX8 : u_T := fun k => match k with
  | 0 => ("RingDevices", "memory", "LRingDevices$Memory;", true)
  | 1 => ("RingDevices", "device", "LRingDevices$Device;", true)
  | _ => ("RingDevices", "driver", "LRingDevices$Driver;", true)
def tyX8 : Nat → FieldType := fun k => match k with
  | 0 => .object "RingDevices$Memory"
  | 1 => .object "RingDevices$Device"
  | _ => .object "RingDevices$Driver"
abbrev wsX80 : List Cond := u_ws RX8 TX8 3
theorem nmX8 : ∀ a, a < 3 → ∀ b, b < 3 → a ≠ b → (TX8 a).2.1 ≠ (TX8 b).2.1 := by decide +kernel
theorem tyX8_ok : ∀ k, k < 3 → parseFieldDescriptor (TX8 k).2.2.1 = some (tyX8 k) := by decide +kernel
abbrev cX8_init : ByteArray := prog_1_method_1_code
def yX8_init : MethodName := ⟨RX8, "<init>", "()V"⟩
abbrev cX8_start : ByteArray := prog_1_method_2_code
def yX8_start : MethodName := ⟨RX8, "start", "(Z)I"⟩
abbrev cX8_reset : ByteArray := prog_1_method_3_code
def yX8_reset : MethodName := ⟨RX8, "reset", "(Z)I"⟩
abbrev cX8_queue : ByteArray := prog_1_method_4_code
def yX8_queue : MethodName := ⟨RX8, "queue", "(IIIII)I"⟩
abbrev cX8_run : ByteArray := prog_1_method_5_code
def yX8_run : MethodName := ⟨RX8, "run", "()I"⟩
abbrev cX8_poke : ByteArray := prog_1_method_6_code
def yX8_poke : MethodName := ⟨RX8, "poke", "(II)I"⟩
abbrev cX8_peek : ByteArray := prog_1_method_7_code
def yX8_peek : MethodName := ⟨RX8, "peek", "(I)I"⟩
abbrev cX8_step : ByteArray := prog_1_method_8_code
def yX8_step : MethodName := ⟨RX8, "step", "(I)I"⟩
abbrev cX8_arrive : ByteArray := prog_1_method_9_code
def yX8_arrive : MethodName := ⟨RX8, "arrive", "(IJ)I"⟩
abbrev cX8_read : ByteArray := prog_1_method_10_code
def yX8_read : MethodName := ⟨RX8, "read", "(I)I"⟩
abbrev cX8_write : ByteArray := prog_1_method_11_code
def yX8_write : MethodName := ⟨RX8, "write", "(IJ)I"⟩
abbrev cX8_send : ByteArray := prog_1_method_12_code
def yX8_send : MethodName := ⟨RX8, "send", "(IJ)I"⟩
abbrev cX8_post : ByteArray := prog_1_method_13_code
def yX8_post : MethodName := ⟨RX8, "post", "()I"⟩
abbrev cX8_collect : ByteArray := prog_1_method_14_code
def yX8_collect : MethodName := ⟨RX8, "collect", "(I)I"⟩
abbrev cX8_written : ByteArray := prog_1_method_15_code
def yX8_written : MethodName := ⟨RX8, "written", "(I)I"⟩
abbrev cX8_wire : ByteArray := prog_1_method_16_code
def yX8_wire : MethodName := ⟨RX8, "wire", "(II)I"⟩
abbrev cX8_disk : ByteArray := prog_1_method_17_code
def yX8_disk : MethodName := ⟨RX8, "disk", "(II)I"⟩
abbrev cX8_told : ByteArray := prog_1_method_18_code
def yX8_told : MethodName := ⟨RX8, "told", "(II)I"⟩
abbrev cX8_count : ByteArray := prog_1_method_19_code
def yX8_count : MethodName := ⟨RX8, "count", "(I)I"⟩
abbrev cX8_isQueue : ByteArray := prog_1_method_20_code
def yX8_isQueue : MethodName := ⟨RX8, "isQueue", "(I)Z"⟩
abbrev cX8_isSize : ByteArray := prog_1_method_21_code
def yX8_isSize : MethodName := ⟨RX8, "isSize", "(I)Z"⟩
abbrev cX8_isAddress : ByteArray := prog_1_method_22_code
def yX8_isAddress : MethodName := ⟨RX8, "isAddress", "(I)Z"⟩
abbrev cX8_isSector : ByteArray := prog_1_method_23_code
def yX8_isSector : MethodName := ⟨RX8, "isSector", "(I)Z"⟩
abbrev cX8_isFrame : ByteArray := prog_1_method_24_code
def yX8_isFrame : MethodName := ⟨RX8, "isFrame", "(I)Z"⟩
abbrev cX8_isPlace : ByteArray := prog_1_method_25_code
def yX8_isPlace : MethodName := ⟨RX8, "isPlace", "(III)Z"⟩
abbrev cX8_liesInMemory : ByteArray := prog_1_method_26_code
def yX8_liesInMemory : MethodName := ⟨RX8, "liesInMemory", "(JJ)Z"⟩
abbrev cX8_descriptorsOf : ByteArray := prog_1_method_27_code
def yX8_descriptorsOf : MethodName := ⟨RX8, "descriptorsOf", "(I)I"⟩
abbrev cX8_availableOf : ByteArray := prog_1_method_28_code
def yX8_availableOf : MethodName := ⟨RX8, "availableOf", "(I)I"⟩
abbrev cX8_usedOf : ByteArray := prog_1_method_29_code
def yX8_usedOf : MethodName := ⟨RX8, "usedOf", "(I)I"⟩
abbrev cX8_patternByte : ByteArray := prog_1_method_30_code
def yX8_patternByte : MethodName := ⟨RX8, "patternByte", "(JI)I"⟩
abbrev cX8_oneMore : ByteArray := prog_1_method_31_code
def yX8_oneMore : MethodName := ⟨RX8, "oneMore", "(I)I"⟩
def RX9 : String := "RingDevicesModel"
def TX9 : u_T := fun k => match k with
  | 0 => ("RingDevicesModel", "memory", "[B", true)
  | 1 => ("RingDevicesModel", "disk", "[B", true)
  | 2 => ("RingDevicesModel", "state", "I", false)
  | 3 => ("RingDevicesModel", "tables", "Z", false)
  | 4 => ("RingDevicesModel", "started", "Z", false)
  | 5 => ("RingDevicesModel", "sizes", "[I", true)
  | 6 => ("RingDevicesModel", "descriptors", "[I", true)
  | 7 => ("RingDevicesModel", "availables", "[I", true)
  | 8 => ("RingDevicesModel", "useds", "[I", true)
  | 9 => ("RingDevicesModel", "takens", "[I", true)
  | 10 => ("RingDevicesModel", "givens", "[I", true)
  | 11 => ("RingDevicesModel", "signals", "[I", true)
  | 12 => ("RingDevicesModel", "head", "I", false)
  | 13 => ("RingDevicesModel", "reads", "[I", true)
  | 14 => ("RingDevicesModel", "readSizes", "[I", true)
  | 15 => ("RingDevicesModel", "readMany", "I", false)
  | 16 => ("RingDevicesModel", "readAll", "I", false)
  | 17 => ("RingDevicesModel", "writes", "[I", true)
  | 18 => ("RingDevicesModel", "writeSizes", "[I", true)
  | 19 => ("RingDevicesModel", "writeMany", "I", false)
  | 20 => ("RingDevicesModel", "writeAll", "I", false)
  | 21 => ("RingDevicesModel", "bad", "Z", false)
  | 22 => ("RingDevicesModel", "wires", "[B", true)
  | 23 => ("RingDevicesModel", "wireSizes", "[I", true)
  | 24 => ("RingDevicesModel", "went", "I", false)
  | 25 => ("RingDevicesModel", "came", "I", false)
  | 26 => ("RingDevicesModel", "dropped", "I", false)
  | 27 => ("RingDevicesModel", "lent", "[Z", true)
  | 28 => ("RingDevicesModel", "heads", "[I", true)
  | 29 => ("RingDevicesModel", "counts", "[I", true)
  | 30 => ("RingDevicesModel", "saws", "[I", true)
  | _ => ("RingDevicesModel", "written", "[I", true)
def tyX9 : Nat → FieldType := fun k => match k with
  | 0 => .array .byte
  | 1 => .array .byte
  | 2 => .int
  | 3 => .boolean
  | 4 => .boolean
  | 5 => .array .int
  | 6 => .array .int
  | 7 => .array .int
  | 8 => .array .int
  | 9 => .array .int
  | 10 => .array .int
  | 11 => .array .int
  | 12 => .int
  | 13 => .array .int
  | 14 => .array .int
  | 15 => .int
  | 16 => .int
  | 17 => .array .int
  | 18 => .array .int
  | 19 => .int
  | 20 => .int
  | 21 => .boolean
  | 22 => .array .byte
  | 23 => .array .int
  | 24 => .int
  | 25 => .int
  | 26 => .int
  | 27 => .array .boolean
  | 28 => .array .int
  | 29 => .array .int
  | 30 => .array .int
  | _ => .array .int
abbrev wsX90 : List Cond := u_ws RX9 TX9 32
theorem nmX9 : ∀ a, a < 32 → ∀ b, b < 32 → a ≠ b → (TX9 a).2.1 ≠ (TX9 b).2.1 := by decide +kernel
theorem tyX9_ok : ∀ k, k < 32 → parseFieldDescriptor (TX9 k).2.2.1 = some (tyX9 k) := by decide +kernel
abbrev cX9_isIn : ByteArray := prog_11_method_1_code
def yX9_isIn : MethodName := ⟨RX9, "isIn", "(III)Z"⟩
abbrev cX9_number : ByteArray := prog_11_method_2_code
def yX9_number : MethodName := ⟨RX9, "number", "(II)J"⟩
abbrev cX9_put : ByteArray := prog_11_method_3_code
def yX9_put : MethodName := ⟨RX9, "put", "(IIJ)V"⟩
abbrev cX9_poke : ByteArray := prog_11_method_4_code
def yX9_poke : MethodName := ⟨RX9, "poke", "(II)I"⟩
abbrev cX9_peek : ByteArray := prog_11_method_5_code
def yX9_peek : MethodName := ⟨RX9, "peek", "(I)I"⟩
abbrev cX9_clear : ByteArray := prog_11_method_6_code
def yX9_clear : MethodName := ⟨RX9, "clear", "()V"⟩
abbrev cX9_init : ByteArray := prog_11_method_7_code
def yX9_init : MethodName := ⟨RX9, "<init>", "()V"⟩
abbrev cX9_start : ByteArray := prog_11_method_8_code
def yX9_start : MethodName := ⟨RX9, "start", "(Z)I"⟩
abbrev cX9_reset : ByteArray := prog_11_method_9_code
def yX9_reset : MethodName := ⟨RX9, "reset", "(Z)I"⟩
abbrev cX9_queue : ByteArray := prog_11_method_10_code
def yX9_queue : MethodName := ⟨RX9, "queue", "(IIIII)I"⟩
abbrev cX9_run : ByteArray := prog_11_method_11_code
def yX9_run : MethodName := ⟨RX9, "run", "()I"⟩
abbrev cX9_hasSomething : ByteArray := prog_11_method_12_code
def yX9_hasSomething : MethodName := ⟨RX9, "hasSomething", "(I)Z"⟩
abbrev cX9_take : ByteArray := prog_11_method_13_code
def yX9_take : MethodName := ⟨RX9, "take", "(I)Z"⟩
abbrev cX9_keep : ByteArray := prog_11_method_14_code
def yX9_keep : MethodName := ⟨RX9, "keep", "(IIZ)V"⟩
abbrev cX9_readByte : ByteArray := prog_11_method_15_code
def yX9_readByte : MethodName := ⟨RX9, "readByte", "(I)I"⟩
abbrev cX9_readNumber : ByteArray := prog_11_method_16_code
def yX9_readNumber : MethodName := ⟨RX9, "readNumber", "(II)J"⟩
abbrev cX9_writeByte : ByteArray := prog_11_method_17_code
def yX9_writeByte : MethodName := ⟨RX9, "writeByte", "(II)V"⟩
abbrev cX9_give : ByteArray := prog_11_method_18_code
def yX9_give : MethodName := ⟨RX9, "give", "(II)V"⟩
abbrev cX9_step : ByteArray := prog_11_method_19_code
def yX9_step : MethodName := ⟨RX9, "step", "(I)I"⟩
abbrev cX9_doDisk : ByteArray := prog_11_method_20_code
def yX9_doDisk : MethodName := ⟨RX9, "doDisk", "()I"⟩
abbrev cX9_doWire : ByteArray := prog_11_method_21_code
def yX9_doWire : MethodName := ⟨RX9, "doWire", "()V"⟩
abbrev cX9_frameByte : ByteArray := prog_11_method_22_code
def yX9_frameByte : MethodName := ⟨RX9, "frameByte", "(JI)I"⟩
abbrev cX9_arrive : ByteArray := prog_11_method_23_code
def yX9_arrive : MethodName := ⟨RX9, "arrive", "(IJ)I"⟩
abbrev cX9_freeOnes : ByteArray := prog_11_method_24_code
def yX9_freeOnes : MethodName := ⟨RX9, "freeOnes", "(I)I"⟩
abbrev cX9_lend : ByteArray := prog_11_method_25_code
def yX9_lend : MethodName := ⟨RX9, "lend", "(II)I"⟩
abbrev cX9_describe : ByteArray := prog_11_method_26_code
def yX9_describe : MethodName := ⟨RX9, "describe", "(IIIII)V"⟩
abbrev cX9_offer : ByteArray := prog_11_method_27_code
def yX9_offer : MethodName := ⟨RX9, "offer", "(II)V"⟩
abbrev cX9_ask : ByteArray := prog_11_method_28_code
def yX9_ask : MethodName := ⟨RX9, "ask", "(IIJ)I"⟩
abbrev cX9_read : ByteArray := prog_11_method_29_code
def yX9_read : MethodName := ⟨RX9, "read", "(I)I"⟩
abbrev cX9_write : ByteArray := prog_11_method_30_code
def yX9_write : MethodName := ⟨RX9, "write", "(IJ)I"⟩
abbrev cX9_send : ByteArray := prog_11_method_31_code
def yX9_send : MethodName := ⟨RX9, "send", "(IJ)I"⟩
abbrev cX9_post : ByteArray := prog_11_method_32_code
def yX9_post : MethodName := ⟨RX9, "post", "()I"⟩
abbrev cX9_collect : ByteArray := prog_11_method_33_code
def yX9_collect : MethodName := ⟨RX9, "collect", "(I)I"⟩
abbrev cX9_written : ByteArray := prog_11_method_34_code
def yX9_written : MethodName := ⟨RX9, "written", "(I)I"⟩
abbrev cX9_wire : ByteArray := prog_11_method_35_code
def yX9_wire : MethodName := ⟨RX9, "wire", "(II)I"⟩
abbrev cX9_disk : ByteArray := prog_11_method_36_code
def yX9_disk : MethodName := ⟨RX9, "disk", "(II)I"⟩
abbrev cX9_told : ByteArray := prog_11_method_37_code
def yX9_told : MethodName := ⟨RX9, "told", "(II)I"⟩
abbrev cX9_count : ByteArray := prog_11_method_38_code
def yX9_count : MethodName := ⟨RX9, "count", "(I)I"⟩
def RJ6 : String := "java/lang/Integer"
def TJ6 : u_T := fun k => match k with
  | _ => ("", "", "", false)
def tyJ6 : Nat → FieldType := fun k => match k with
  | _ => .int
abbrev wsJ60 : List Cond := u_ws RJ6 TJ6 0
theorem nmJ6 : ∀ a, a < 0 → ∀ b, b < 0 → a ≠ b → (TJ6 a).2.1 ≠ (TJ6 b).2.1 := by decide +kernel
theorem tyJ6_ok : ∀ k, k < 0 → parseFieldDescriptor (TJ6 k).2.2.1 = some (tyJ6 k) := by decide +kernel
abbrev cJ6_bitCount_0f7a4 : ByteArray := prog_12_method_49_code
def yJ6_bitCount_0f7a4 : MethodName := ⟨RJ6, "bitCount", "(I)I"⟩
def RJ9 : String := "java/lang/Math"
def TJ9 : u_T := fun k => match k with
  | _ => ("", "", "", false)
def tyJ9 : Nat → FieldType := fun k => match k with
  | _ => .int
abbrev wsJ90 : List Cond := u_ws RJ9 TJ9 0
theorem nmJ9 : ∀ a, a < 0 → ∀ b, b < 0 → a ≠ b → (TJ9 a).2.1 ≠ (TJ9 b).2.1 := by decide +kernel
theorem tyJ9_ok : ∀ k, k < 0 → parseFieldDescriptor (TJ9 k).2.2.1 = some (tyJ9 k) := by decide +kernel
abbrev cJ9_min_7cf53 : ByteArray := prog_13_method_69_code
def yJ9_min_7cf53 : MethodName := ⟨RJ9, "min", "(II)I"⟩
def RJ0 : String := "java/lang/String"
def TJ0 : u_T := fun k => match k with
  | _ => ("", "", "", false)
def tyJ0 : Nat → FieldType := fun k => match k with
  | _ => .int
abbrev wsJ00 : List Cond := u_ws RJ0 TJ0 0
theorem nmJ0 : ∀ a, a < 0 → ∀ b, b < 0 → a ≠ b → (TJ0 a).2.1 ≠ (TJ0 b).2.1 := by decide +kernel
theorem tyJ0_ok : ∀ k, k < 0 → parseFieldDescriptor (TJ0 k).2.2.1 = some (tyJ0 k) := by decide +kernel
abbrev cJ0_length_8abf5 : ByteArray := prog_14_method_54_code
def yJ0_length_8abf5 : MethodName := ⟨RJ0, "length", "()I"⟩
abbrev cJ0_charAt_5068e : ByteArray := prog_14_method_56_code
def yJ0_charAt_5068e : MethodName := ⟨RJ0, "charAt", "(I)C"⟩
abbrev cJ0_coder_7d493 : ByteArray := prog_14_method_152_code
def yJ0_coder_7d493 : MethodName := ⟨RJ0, "coder", "()B"⟩
abbrev cJ0_isLatin1_aae02 : ByteArray := prog_14_method_154_code
def yJ0_isLatin1_aae02 : MethodName := ⟨RJ0, "isLatin1", "()Z"⟩
abbrev cJ0_checkIndex_df160 : ByteArray := prog_14_method_155_code
def yJ0_checkIndex_df160 : MethodName := ⟨RJ0, "checkIndex", "(II)V"⟩
def RJ1 : String := "java/lang/StringLatin1"
def TJ1 : u_T := fun k => match k with
  | _ => ("", "", "", false)
def tyJ1 : Nat → FieldType := fun k => match k with
  | _ => .int
abbrev wsJ10 : List Cond := u_ws RJ1 TJ1 0
theorem nmJ1 : ∀ a, a < 0 → ∀ b, b < 0 → a ≠ b → (TJ1 a).2.1 ≠ (TJ1 b).2.1 := by decide +kernel
theorem tyJ1_ok : ∀ k, k < 0 → parseFieldDescriptor (TJ1 k).2.2.1 = some (tyJ1 k) := by decide +kernel
abbrev cJ1_charAt_3b067 : ByteArray := prog_15_method_2_code
def yJ1_charAt_3b067 : MethodName := ⟨RJ1, "charAt", "([BI)C"⟩
def RJ2 : String := "java/lang/StringUTF16"
def TJ2 : u_T := fun k => match k with
  | _ => ("", "", "", false)
def tyJ2 : Nat → FieldType := fun k => match k with
  | _ => .int
abbrev wsJ20 : List Cond := u_ws RJ2 TJ2 0
theorem nmJ2 : ∀ a, a < 0 → ∀ b, b < 0 → a ≠ b → (TJ2 a).2.1 ≠ (TJ2 b).2.1 := by decide +kernel
theorem tyJ2_ok : ∀ k, k < 0 → parseFieldDescriptor (TJ2 k).2.2.1 = some (tyJ2 k) := by decide +kernel
abbrev cJ2_getChar_3b067 : ByteArray := prog_16_method_5_code
def yJ2_getChar_3b067 : MethodName := ⟨RJ2, "getChar", "([BI)C"⟩
abbrev cJ2_length_9d52b : ByteArray := prog_16_method_6_code
def yJ2_length_9d52b : MethodName := ⟨RJ2, "length", "([B)I"⟩
abbrev cJ2_charAt_3b067 : ByteArray := prog_16_method_83_code
def yJ2_charAt_3b067 : MethodName := ⟨RJ2, "charAt", "([BI)C"⟩
abbrev cJ2_checkIndex_2214a : ByteArray := prog_16_method_91_code
def yJ2_checkIndex_2214a : MethodName := ⟨RJ2, "checkIndex", "(I[B)V"⟩
def RJ7 : String := "java/util/Arrays"
def TJ7 : u_T := fun k => match k with
  | _ => ("", "", "", false)
def tyJ7 : Nat → FieldType := fun k => match k with
  | _ => .int
abbrev wsJ70 : List Cond := u_ws RJ7 TJ7 0
theorem nmJ7 : ∀ a, a < 0 → ∀ b, b < 0 → a ≠ b → (TJ7 a).2.1 ≠ (TJ7 b).2.1 := by decide +kernel
theorem tyJ7_ok : ∀ k, k < 0 → parseFieldDescriptor (TJ7 k).2.2.1 = some (tyJ7 k) := by decide +kernel
abbrev cJ7_fill_53178 : ByteArray := prog_17_method_103_code
def yJ7_fill_53178 : MethodName := ⟨RJ7, "fill", "([II)V"⟩
abbrev cJ7_fill_031fb : ByteArray := prog_17_method_109_code
def yJ7_fill_031fb : MethodName := ⟨RJ7, "fill", "([BB)V"⟩
def RJ3 : String := "jdk/internal/util/Preconditions"
def TJ3 : u_T := fun k => match k with
  | _ => ("", "", "", false)
def tyJ3 : Nat → FieldType := fun k => match k with
  | _ => .int
abbrev wsJ30 : List Cond := u_ws RJ3 TJ3 0
theorem nmJ3 : ∀ a, a < 0 → ∀ b, b < 0 → a ≠ b → (TJ3 a).2.1 ≠ (TJ3 b).2.1 := by decide +kernel
theorem tyJ3_ok : ∀ k, k < 0 → parseFieldDescriptor (TJ3 k).2.2.1 = some (tyJ3 k) := by decide +kernel
abbrev cJ3_checkIndex_8e157 : ByteArray := prog_18_method_11_code
def yJ3_checkIndex_8e157 : MethodName := ⟨RJ3, "checkIndex", "(IILjava/util/function/BiFunction;)I"⟩
def RL : String := "RingDevicesLaw"
abbrev cL_law : ByteArray := code
def yL_law : MethodName := ⟨RL, "law", "([I)Z"⟩
abbrev vwCl : List vw_C := [(RX0, TX0, 12), (RX1, TX1, 10), (RX2, TX2, 1), (RX3, TX3, 6), (RX4, TX4, 5), (RX5, TX5, 1), (RX6, TX6, 9), (RX7, TX7, 4), (RX8, TX8, 3), (RX9, TX9, 32)]
end
section
/-- the good words of the tables: every method's words are these, its own code ahead -/
def TB : List Cond := lw_tbl.filter goodWord
theorem TB_gd : GoodIn TB TB := fun _ h => ⟨h, good_of_word (List.mem_filter.mp h).2⟩
theorem TB_in : ∀ w ∈ TB, w ∈ lw_tbl := fun _ h => (List.mem_filter.mp h).1
theorem tb_s {w : Cond} (i : Nat) (h : (k2_sels lw_privs)[i]? = some w) (g : goodWord w = true) : w ∈ TB := List.mem_filter.mpr ⟨List.mem_append_left _ (List.mem_of_getElem? h), g⟩
theorem tl_1 {w : Cond} (i : Nat) (h : tables_1_1[i]? = some w) : w ∈ lw_tbl := List.mem_append_right _ (List.mem_append_left _ (List.mem_of_getElem? h))
theorem tb_1 {w : Cond} (i : Nat) (h : tables_1_1[i]? = some w) (g : goodWord w = true) : w ∈ TB := List.mem_filter.mpr ⟨tl_1 i h, g⟩
theorem tl_2 {w : Cond} (i : Nat) (h : tables_1_2[i]? = some w) : w ∈ lw_tbl := List.mem_append_right _ (List.mem_append_right _ (List.mem_append_left _ (List.mem_of_getElem? h)))
theorem tb_2 {w : Cond} (i : Nat) (h : tables_1_2[i]? = some w) (g : goodWord w = true) : w ∈ TB := List.mem_filter.mpr ⟨tl_2 i h, g⟩
theorem tl_3 {w : Cond} (i : Nat) (h : tables_1_3[i]? = some w) : w ∈ lw_tbl := List.mem_append_right _ (List.mem_append_right _ (List.mem_append_right _ (List.mem_append_left _ (List.mem_of_getElem? h))))
theorem tb_3 {w : Cond} (i : Nat) (h : tables_1_3[i]? = some w) (g : goodWord w = true) : w ∈ TB := List.mem_filter.mpr ⟨tl_3 i h, g⟩
theorem tl_4 {w : Cond} (i : Nat) (h : tables_1_4[i]? = some w) : w ∈ lw_tbl := List.mem_append_right _ (List.mem_append_right _ (List.mem_append_right _ (List.mem_append_right _ (List.mem_append_left _ (List.mem_of_getElem? h)))))
theorem tb_4 {w : Cond} (i : Nat) (h : tables_1_4[i]? = some w) (g : goodWord w = true) : w ∈ TB := List.mem_filter.mpr ⟨tl_4 i h, g⟩
theorem tl_5 {w : Cond} (i : Nat) (h : tables_1_5[i]? = some w) : w ∈ lw_tbl := List.mem_append_right _ (List.mem_append_right _ (List.mem_append_right _ (List.mem_append_right _ (List.mem_append_right _ (List.mem_of_getElem? h)))))
theorem tb_5 {w : Cond} (i : Nat) (h : tables_1_5[i]? = some w) (g : goodWord w = true) : w ∈ TB := List.mem_filter.mpr ⟨tl_5 i h, g⟩
theorem wz_L : Cond.initialized RL ∈ TB := tb_1 0 rfl rfl
theorem wz_X8 : Cond.initialized RX8 ∈ TB := tb_1 1 rfl rfl
theorem wz_X5 : Cond.initialized RX5 ∈ TB := tb_1 2 rfl rfl
theorem wz_X1 : Cond.initialized RX1 ∈ TB := tb_1 3 rfl rfl
theorem wz_X6 : Cond.initialized RX6 ∈ TB := tb_1 4 rfl rfl
theorem wz_X0 : Cond.initialized RX0 ∈ TB := tb_1 5 rfl rfl
theorem wz_X2 : Cond.initialized RX2 ∈ TB := tb_1 6 rfl rfl
theorem wz_X7 : Cond.initialized RX7 ∈ TB := tb_1 7 rfl rfl
theorem wz_X3 : Cond.initialized RX3 ∈ TB := tb_1 8 rfl rfl
theorem wz_X4 : Cond.initialized RX4 ∈ TB := tb_1 9 rfl rfl
theorem wz_X9 : Cond.initialized RX9 ∈ TB := tb_1 10 rfl rfl
theorem wz_J7 : Cond.initialized RJ7 ∈ TB := tb_1 11 rfl rfl
theorem wz_J9 : Cond.initialized RJ9 ∈ TB := tb_1 12 rfl rfl
theorem wz_J0 : Cond.initialized RJ0 ∈ TB := tb_1 13 rfl rfl
theorem wz_J1 : Cond.initialized RJ1 ∈ TB := tb_1 14 rfl rfl
theorem wz_J3 : Cond.initialized RJ3 ∈ TB := tb_1 15 rfl rfl
theorem wz_J2 : Cond.initialized RJ2 ∈ TB := tb_1 16 rfl rfl
theorem wz_J6 : Cond.initialized RJ6 ∈ TB := tb_1 17 rfl rfl
theorem lc_L_7 : Cond.classLink RL 7 RX8 ∈ TB := tb_1 18 rfl rfl
theorem wn_X8 : Cond.instantiable RX8 3 ∈ TB := tb_1 19 rfl rfl
theorem lm_L_9 : Cond.methodLink RL 9 yX8_init ∈ TB := tb_1 20 rfl rfl
theorem wi_X8_init : Cond.instanceMethod yX8_init ∈ TB := tb_1 21 rfl rfl
theorem wc_X8_init : Cond.code yX8_init cX8_init 2 none ∈ TB := tb_1 22 rfl rfl
theorem lm_X8_1 : Cond.methodLink RX8 1 objectInit ∈ TB := tb_1 23 rfl rfl
theorem wi_objectInit : Cond.instanceMethod objectInit ∈ TB := tb_1 24 rfl rfl
theorem wc_objectInit : Cond.code objectInit ⟨#[0xb1]⟩ 1 none ∈ TB := tb_1 25 rfl rfl
theorem lc_X8_7 : Cond.classLink RX8 7 RX5 ∈ TB := tb_1 26 rfl rfl
theorem wn_X5 : Cond.instantiable RX5 1 ∈ TB := tb_1 27 rfl rfl
theorem lm_X8_9 : Cond.methodLink RX8 9 yX5_init ∈ TB := tb_1 28 rfl rfl
theorem wi_X5_init : Cond.instanceMethod yX5_init ∈ TB := tb_1 29 rfl rfl
theorem wc_X5_init : Cond.code yX5_init cX5_init 1 none ∈ TB := tb_1 30 rfl rfl
theorem lm_X5_3 : Cond.methodLink RX5 3 objectInit ∈ TB := tb_1 31 rfl rfl
theorem lf_X5_9 : Cond.fieldLink RX5 9 "RingDevices$Memory" "bytes" "[B" ∈ TB := tb_1 32 rfl rfl
theorem wa_byte : Cond.arrayClass .byte ∈ TB := tb_1 36 rfl rfl
theorem lc_X8_16 : Cond.classLink RX8 16 RX1 ∈ TB := tb_1 37 rfl rfl
theorem wn_X1 : Cond.instantiable RX1 10 ∈ TB := tb_1 38 rfl rfl
theorem lm_X8_18 : Cond.methodLink RX8 18 yX1_init ∈ TB := tb_1 39 rfl rfl
theorem wi_X1_init : Cond.instanceMethod yX1_init ∈ TB := tb_1 40 rfl rfl
theorem wc_X1_init : Cond.code yX1_init cX1_init 2 none ∈ TB := tb_1 41 rfl rfl
theorem lm_X1_3 : Cond.methodLink RX1 3 objectInit ∈ TB := tb_1 42 rfl rfl
theorem lc_X1_9 : Cond.classLink RX1 9 RX6 ∈ TB := tb_1 43 rfl rfl
theorem wn_X6 : Cond.instantiable RX6 9 ∈ TB := tb_1 44 rfl rfl
theorem lm_X1_11 : Cond.methodLink RX1 11 yX6_init ∈ TB := tb_1 45 rfl rfl
theorem wi_X6_init : Cond.instanceMethod yX6_init ∈ TB := tb_1 46 rfl rfl
theorem wc_X6_init : Cond.code yX6_init cX6_init 2 none ∈ TB := tb_1 47 rfl rfl
theorem lm_X6_3 : Cond.methodLink RX6 3 objectInit ∈ TB := tb_1 48 rfl rfl
theorem lf_X6_9 : Cond.fieldLink RX6 9 "RingDevices$Ring" "memory" "LRingDevices$Memory;" ∈ TB := tb_1 49 rfl rfl
theorem lf_X6_15 : Cond.fieldLink RX6 15 "RingDevices$Ring" "laid" "Z" ∈ TB := tb_1 50 rfl rfl
theorem lf_X8_73 : Cond.fieldLink RX8 73 "RingDevices$Ring" "laid" "Z" ∈ TB := tb_1 51 rfl rfl
theorem lf_X6_19 : Cond.fieldLink RX6 19 "RingDevices$Ring" "size" "I" ∈ TB := tb_1 52 rfl rfl
theorem lf_X0_53 : Cond.fieldLink RX0 53 "RingDevices$Ring" "size" "I" ∈ TB := tb_1 53 rfl rfl
theorem lf_X1_112 : Cond.fieldLink RX1 112 "RingDevices$Ring" "size" "I" ∈ TB := tb_1 54 rfl rfl
theorem lf_X8_156 : Cond.fieldLink RX8 156 "RingDevices$Ring" "size" "I" ∈ TB := tb_1 55 rfl rfl
theorem lf_X6_32 : Cond.fieldLink RX6 32 "RingDevices$Ring" "descriptors" "I" ∈ TB := tb_1 56 rfl rfl
theorem lf_X0_50 : Cond.fieldLink RX0 50 "RingDevices$Ring" "descriptors" "I" ∈ TB := tb_1 57 rfl rfl
theorem lf_X6_35 : Cond.fieldLink RX6 35 "RingDevices$Ring" "available" "I" ∈ TB := tb_1 58 rfl rfl
theorem lf_X6_38 : Cond.fieldLink RX6 38 "RingDevices$Ring" "used" "I" ∈ TB := tb_1 59 rfl rfl
theorem lf_X6_23 : Cond.fieldLink RX6 23 "RingDevices$Ring" "taken" "I" ∈ TB := tb_1 60 rfl rfl
theorem lf_X1_119 : Cond.fieldLink RX1 119 "RingDevices$Ring" "taken" "I" ∈ TB := tb_1 61 rfl rfl
theorem lf_X8_147 : Cond.fieldLink RX8 147 "RingDevices$Ring" "taken" "I" ∈ TB := tb_1 62 rfl rfl
theorem lf_X6_26 : Cond.fieldLink RX6 26 "RingDevices$Ring" "given" "I" ∈ TB := tb_1 63 rfl rfl
theorem lf_X8_150 : Cond.fieldLink RX8 150 "RingDevices$Ring" "given" "I" ∈ TB := tb_1 64 rfl rfl
theorem lf_X6_29 : Cond.fieldLink RX6 29 "RingDevices$Ring" "signals" "I" ∈ TB := tb_1 65 rfl rfl
theorem lf_X8_153 : Cond.fieldLink RX8 153 "RingDevices$Ring" "signals" "I" ∈ TB := tb_1 66 rfl rfl
theorem lc_X1_26 : Cond.classLink RX1 26 RX0 ∈ TB := tb_1 86 rfl rfl
theorem wn_X0 : Cond.instantiable RX0 12 ∈ TB := tb_1 87 rfl rfl
theorem lm_X1_28 : Cond.methodLink RX1 28 yX0_init ∈ TB := tb_1 88 rfl rfl
theorem wi_X0_init : Cond.instanceMethod yX0_init ∈ TB := tb_1 89 rfl rfl
theorem wc_X0_init : Cond.code yX0_init cX0_init 2 none ∈ TB := tb_1 90 rfl rfl
theorem lm_X0_3 : Cond.methodLink RX0 3 objectInit ∈ TB := tb_1 91 rfl rfl
theorem lf_X0_9 : Cond.fieldLink RX0 9 "RingDevices$Chain" "memory" "LRingDevices$Memory;" ∈ TB := tb_1 92 rfl rfl
theorem lf_X0_15 : Cond.fieldLink RX0 15 "RingDevices$Chain" "addresses" "[I" ∈ TB := tb_1 93 rfl rfl
theorem lf_X0_19 : Cond.fieldLink RX0 19 "RingDevices$Chain" "lengths" "[I" ∈ TB := tb_1 94 rfl rfl
theorem lf_X0_22 : Cond.fieldLink RX0 22 "RingDevices$Chain" "parts" "I" ∈ TB := tb_1 95 rfl rfl
theorem lf_X0_26 : Cond.fieldLink RX0 26 "RingDevices$Chain" "readParts" "I" ∈ TB := tb_1 96 rfl rfl
theorem lf_X0_82 : Cond.fieldLink RX0 82 "RingDevices$Chain" "part" "I" ∈ TB := tb_1 97 rfl rfl
theorem lf_X0_88 : Cond.fieldLink RX0 88 "RingDevices$Chain" "end" "I" ∈ TB := tb_1 98 rfl rfl
theorem lf_X0_85 : Cond.fieldLink RX0 85 "RingDevices$Chain" "offset" "I" ∈ TB := tb_1 99 rfl rfl
theorem lf_X0_35 : Cond.fieldLink RX0 35 "RingDevices$Chain" "lastPlace" "I" ∈ TB := tb_1 100 rfl rfl
theorem lf_X0_47 : Cond.fieldLink RX0 47 "RingDevices$Chain" "head" "I" ∈ TB := tb_1 101 rfl rfl
theorem lf_X1_74 : Cond.fieldLink RX1 74 "RingDevices$Chain" "head" "I" ∈ TB := tb_1 102 rfl rfl
theorem lf_X7_19 : Cond.fieldLink RX7 19 "RingDevices$Chain" "readable" "I" ∈ TB := tb_1 103 rfl rfl
theorem lf_X0_29 : Cond.fieldLink RX0 29 "RingDevices$Chain" "readable" "I" ∈ TB := tb_1 104 rfl rfl
theorem lf_X2_15 : Cond.fieldLink RX2 15 "RingDevices$Chain" "readable" "I" ∈ TB := tb_1 105 rfl rfl
theorem lf_X1_91 : Cond.fieldLink RX1 91 "RingDevices$Chain" "readable" "I" ∈ TB := tb_1 106 rfl rfl
theorem lf_X0_32 : Cond.fieldLink RX0 32 "RingDevices$Chain" "writable" "I" ∈ TB := tb_1 107 rfl rfl
theorem lf_X2_21 : Cond.fieldLink RX2 21 "RingDevices$Chain" "writable" "I" ∈ TB := tb_1 108 rfl rfl
theorem lf_X1_94 : Cond.fieldLink RX1 94 "RingDevices$Chain" "writable" "I" ∈ TB := tb_1 109 rfl rfl
theorem wa_int : Cond.arrayClass .int ∈ TB := tb_1 135 rfl rfl
theorem lc_X1_33 : Cond.classLink RX1 33 RX2 ∈ TB := tb_1 136 rfl rfl
theorem wn_X2 : Cond.instantiable RX2 1 ∈ TB := tb_1 137 rfl rfl
theorem lm_X1_35 : Cond.methodLink RX1 35 yX2_init ∈ TB := tb_1 138 rfl rfl
theorem wi_X2_init : Cond.instanceMethod yX2_init ∈ TB := tb_1 139 rfl rfl
theorem wc_X2_init : Cond.code yX2_init cX2_init 1 none ∈ TB := tb_1 140 rfl rfl
theorem lm_X2_3 : Cond.methodLink RX2 3 objectInit ∈ TB := tb_1 141 rfl rfl
theorem lf_X2_9 : Cond.fieldLink RX2 9 "RingDevices$Disk" "bytes" "[B" ∈ TB := tb_1 142 rfl rfl
theorem lc_X1_40 : Cond.classLink RX1 40 RX7 ∈ TB := tb_1 146 rfl rfl
theorem wn_X7 : Cond.instantiable RX7 4 ∈ TB := tb_1 147 rfl rfl
theorem lm_X1_42 : Cond.methodLink RX1 42 yX7_init ∈ TB := tb_1 148 rfl rfl
theorem wi_X7_init : Cond.instanceMethod yX7_init ∈ TB := tb_1 149 rfl rfl
theorem wc_X7_init : Cond.code yX7_init cX7_init 1 none ∈ TB := tb_1 150 rfl rfl
theorem lm_X7_3 : Cond.methodLink RX7 3 objectInit ∈ TB := tb_1 151 rfl rfl
theorem lf_X7_9 : Cond.fieldLink RX7 9 "RingDevices$Wire" "bytes" "[B" ∈ TB := tb_1 152 rfl rfl
theorem lf_X7_15 : Cond.fieldLink RX7 15 "RingDevices$Wire" "lengths" "[I" ∈ TB := tb_1 153 rfl rfl
theorem lf_X7_29 : Cond.fieldLink RX7 29 "RingDevices$Wire" "latest" "I" ∈ TB := tb_1 154 rfl rfl
theorem lf_X7_32 : Cond.fieldLink RX7 32 "RingDevices$Wire" "went" "I" ∈ TB := tb_1 155 rfl rfl
theorem lf_X8_165 : Cond.fieldLink RX8 165 "RingDevices$Wire" "went" "I" ∈ TB := tb_1 156 rfl rfl
theorem lf_X1_14 : Cond.fieldLink RX1 14 "RingDevices$Device" "disks" "LRingDevices$Ring;" ∈ TB := tb_1 166 rfl rfl
theorem lf_X1_20 : Cond.fieldLink RX1 20 "RingDevices$Device" "comes" "LRingDevices$Ring;" ∈ TB := tb_1 167 rfl rfl
theorem lf_X1_23 : Cond.fieldLink RX1 23 "RingDevices$Device" "goes" "LRingDevices$Ring;" ∈ TB := tb_1 168 rfl rfl
theorem lf_X1_29 : Cond.fieldLink RX1 29 "RingDevices$Device" "chain" "LRingDevices$Chain;" ∈ TB := tb_1 169 rfl rfl
theorem lf_X1_36 : Cond.fieldLink RX1 36 "RingDevices$Device" "sectors" "LRingDevices$Disk;" ∈ TB := tb_1 170 rfl rfl
theorem lf_X8_140 : Cond.fieldLink RX8 140 "RingDevices$Device" "sectors" "LRingDevices$Disk;" ∈ TB := tb_1 171 rfl rfl
theorem lf_X1_43 : Cond.fieldLink RX1 43 "RingDevices$Device" "line" "LRingDevices$Wire;" ∈ TB := tb_1 172 rfl rfl
theorem lf_X8_130 : Cond.fieldLink RX8 130 "RingDevices$Device" "line" "LRingDevices$Wire;" ∈ TB := tb_1 173 rfl rfl
theorem lf_X8_59 : Cond.fieldLink RX8 59 "RingDevices$Device" "state" "I" ∈ TB := tb_1 174 rfl rfl
theorem lf_X1_47 : Cond.fieldLink RX1 47 "RingDevices$Device" "state" "I" ∈ TB := tb_1 175 rfl rfl
theorem lf_X1_51 : Cond.fieldLink RX1 51 "RingDevices$Device" "tables" "Z" ∈ TB := tb_1 176 rfl rfl
theorem lf_X8_174 : Cond.fieldLink RX8 174 "RingDevices$Device" "tables" "Z" ∈ TB := tb_1 177 rfl rfl
theorem lf_X1_85 : Cond.fieldLink RX1 85 "RingDevices$Device" "came" "I" ∈ TB := tb_1 178 rfl rfl
theorem lf_X8_168 : Cond.fieldLink RX8 168 "RingDevices$Device" "came" "I" ∈ TB := tb_1 179 rfl rfl
theorem lf_X1_88 : Cond.fieldLink RX1 88 "RingDevices$Device" "dropped" "I" ∈ TB := tb_1 180 rfl rfl
theorem lf_X8_171 : Cond.fieldLink RX8 171 "RingDevices$Device" "dropped" "I" ∈ TB := tb_1 181 rfl rfl
theorem lc_X8_25 : Cond.classLink RX8 25 RX3 ∈ TB := tb_1 203 rfl rfl
theorem wn_X3 : Cond.instantiable RX3 6 ∈ TB := tb_1 204 rfl rfl
theorem lm_X8_27 : Cond.methodLink RX8 27 yX3_init ∈ TB := tb_1 205 rfl rfl
theorem wi_X3_init : Cond.instanceMethod yX3_init ∈ TB := tb_1 206 rfl rfl
theorem wc_X3_init : Cond.code yX3_init cX3_init 2 none ∈ TB := tb_1 207 rfl rfl
theorem lm_X3_3 : Cond.methodLink RX3 3 objectInit ∈ TB := tb_1 208 rfl rfl
theorem lc_X3_15 : Cond.classLink RX3 15 RX4 ∈ TB := tb_1 209 rfl rfl
theorem wn_X4 : Cond.instantiable RX4 5 ∈ TB := tb_1 210 rfl rfl
theorem lm_X3_17 : Cond.methodLink RX3 17 yX4_init ∈ TB := tb_1 211 rfl rfl
theorem wi_X4_init : Cond.instanceMethod yX4_init ∈ TB := tb_1 212 rfl rfl
theorem wc_X4_init : Cond.code yX4_init cX4_init 1 none ∈ TB := tb_1 213 rfl rfl
theorem lm_X4_3 : Cond.methodLink RX4 3 objectInit ∈ TB := tb_1 214 rfl rfl
theorem lf_X4_9 : Cond.fieldLink RX4 9 "RingDevices$Loans" "chains" "[I" ∈ TB := tb_1 215 rfl rfl
theorem lf_X4_22 : Cond.fieldLink RX4 22 "RingDevices$Loans" "free" "I" ∈ TB := tb_1 216 rfl rfl
theorem lf_X4_31 : Cond.fieldLink RX4 31 "RingDevices$Loans" "asked" "I" ∈ TB := tb_1 217 rfl rfl
theorem lf_X3_102 : Cond.fieldLink RX3 102 "RingDevices$Loans" "asked" "I" ∈ TB := tb_1 218 rfl rfl
theorem lf_X4_34 : Cond.fieldLink RX4 34 "RingDevices$Loans" "saw" "I" ∈ TB := tb_1 219 rfl rfl
theorem lf_X3_115 : Cond.fieldLink RX3 115 "RingDevices$Loans" "saw" "I" ∈ TB := tb_1 220 rfl rfl
theorem lf_X8_162 : Cond.fieldLink RX8 162 "RingDevices$Loans" "saw" "I" ∈ TB := tb_1 221 rfl rfl
theorem lf_X4_15 : Cond.fieldLink RX4 15 "RingDevices$Loans" "latestWritten" "I" ∈ TB := tb_1 222 rfl rfl
theorem lf_X3_127 : Cond.fieldLink RX3 127 "RingDevices$Loans" "latestWritten" "I" ∈ TB := tb_1 223 rfl rfl
theorem lf_X8_125 : Cond.fieldLink RX8 125 "RingDevices$Loans" "latestWritten" "I" ∈ TB := tb_1 224 rfl rfl
theorem lf_X3_9 : Cond.fieldLink RX3 9 "RingDevices$Driver" "memory" "LRingDevices$Memory;" ∈ TB := tb_1 236 rfl rfl
theorem lf_X3_18 : Cond.fieldLink RX3 18 "RingDevices$Driver" "disks" "LRingDevices$Loans;" ∈ TB := tb_1 237 rfl rfl
theorem lf_X3_22 : Cond.fieldLink RX3 22 "RingDevices$Driver" "comes" "LRingDevices$Loans;" ∈ TB := tb_1 238 rfl rfl
theorem lf_X3_25 : Cond.fieldLink RX3 25 "RingDevices$Driver" "goes" "LRingDevices$Loans;" ∈ TB := tb_1 239 rfl rfl
theorem lf_X3_32 : Cond.fieldLink RX3 32 "RingDevices$Driver" "tables" "Z" ∈ TB := tb_2 0 rfl rfl
theorem lf_X3_28 : Cond.fieldLink RX3 28 "RingDevices$Driver" "started" "Z" ∈ TB := tb_2 1 rfl rfl
theorem lf_X8_10 : Cond.fieldLink RX8 10 "RingDevices" "memory" "LRingDevices$Memory;" ∈ TB := tb_2 15 rfl rfl
theorem lf_X8_21 : Cond.fieldLink RX8 21 "RingDevices" "device" "LRingDevices$Device;" ∈ TB := tb_2 16 rfl rfl
theorem lf_X8_28 : Cond.fieldLink RX8 28 "RingDevices" "driver" "LRingDevices$Driver;" ∈ TB := tb_2 17 rfl rfl
theorem lm_L_13 : Cond.methodLink RL 13 yX8_start ∈ TB := tb_2 25 rfl rfl
theorem wi_X8_start : Cond.instanceMethod yX8_start ∈ TB := tb_2 26 rfl rfl
theorem wv_X8_start : Cond.selects RX8 yX8_start yX8_start ∈ TB := tb_2 27 rfl rfl
theorem wc_X8_start : Cond.code yX8_start cX8_start 3 (some .int) ∈ TB := tb_2 28 rfl rfl
theorem lm_X8_32 : Cond.methodLink RX8 32 yX5_clear ∈ TB := tb_2 29 rfl rfl
theorem wi_X5_clear : Cond.instanceMethod yX5_clear ∈ TB := tb_2 30 rfl rfl
theorem wv_X5_clear : Cond.selects RX5 yX5_clear yX5_clear ∈ TB := tb_2 31 rfl rfl
theorem wc_X5_clear : Cond.code yX5_clear cX5_clear 1 none ∈ TB := tb_2 32 rfl rfl
theorem lm_X5_15 : Cond.methodLink RX5 15 yJ7_fill_031fb ∈ TB := tb_2 33 rfl rfl
theorem wt_J7_fill_031fb : Cond.static yJ7_fill_031fb ∈ TB := tb_2 34 rfl rfl
theorem wc_J7_fill_031fb : Cond.code yJ7_fill_031fb cJ7_fill_031fb 4 none ∈ TB := tb_2 35 rfl rfl
theorem lm_X8_35 : Cond.methodLink RX8 35 yX1_switchOff ∈ TB := tb_2 36 rfl rfl
theorem wi_X1_switchOff : Cond.instanceMethod yX1_switchOff ∈ TB := tb_2 37 rfl rfl
theorem wv_X1_switchOff : Cond.selects RX1 yX1_switchOff yX1_switchOff ∈ TB := tb_2 38 rfl rfl
theorem wc_X1_switchOff : Cond.code yX1_switchOff cX1_switchOff 2 none ∈ TB := tb_2 39 rfl rfl
theorem lm_X1_55 : Cond.methodLink RX1 55 yX6_forget ∈ TB := tb_2 40 rfl rfl
theorem wi_X6_forget : Cond.instanceMethod yX6_forget ∈ TB := tb_2 41 rfl rfl
theorem wv_X6_forget : Cond.selects RX6 yX6_forget yX6_forget ∈ TB := tb_2 42 rfl rfl
theorem wc_X6_forget : Cond.code yX6_forget cX6_forget 1 none ∈ TB := tb_2 43 rfl rfl
theorem lm_X8_39 : Cond.methodLink RX8 39 yX1_ringOf ∈ TB := tb_2 44 rfl rfl
theorem wi_X1_ringOf : Cond.instanceMethod yX1_ringOf ∈ TB := tb_2 45 rfl rfl
theorem wv_X1_ringOf : Cond.selects RX1 yX1_ringOf yX1_ringOf ∈ TB := tb_2 46 rfl rfl
theorem wc_X1_ringOf : Cond.code yX1_ringOf cX1_ringOf 2 (some (.object "RingDevices$Ring")) ∈ TB := tb_2 47 rfl rfl
theorem lm_X8_43 : Cond.methodLink RX8 43 yX8_descriptorsOf ∈ TB := tb_2 48 rfl rfl
theorem wt_X8_descriptorsOf : Cond.static yX8_descriptorsOf ∈ TB := tb_2 49 rfl rfl
theorem wc_X8_descriptorsOf : Cond.code yX8_descriptorsOf cX8_descriptorsOf 1 (some .int) ∈ TB := tb_2 50 rfl rfl
theorem lm_X8_47 : Cond.methodLink RX8 47 yX8_availableOf ∈ TB := tb_2 51 rfl rfl
theorem wt_X8_availableOf : Cond.static yX8_availableOf ∈ TB := tb_2 52 rfl rfl
theorem wc_X8_availableOf : Cond.code yX8_availableOf cX8_availableOf 1 (some .int) ∈ TB := tb_2 53 rfl rfl
theorem lm_X8_50 : Cond.methodLink RX8 50 yX8_usedOf ∈ TB := tb_2 54 rfl rfl
theorem wt_X8_usedOf : Cond.static yX8_usedOf ∈ TB := tb_2 55 rfl rfl
theorem wc_X8_usedOf : Cond.code yX8_usedOf cX8_usedOf 1 (some .int) ∈ TB := tb_2 56 rfl rfl
theorem lm_X8_53 : Cond.methodLink RX8 53 yX6_lay ∈ TB := tb_2 57 rfl rfl
theorem wi_X6_lay : Cond.instanceMethod yX6_lay ∈ TB := tb_2 58 rfl rfl
theorem wv_X6_lay : Cond.selects RX6 yX6_lay yX6_lay ∈ TB := tb_2 59 rfl rfl
theorem wc_X6_lay : Cond.code yX6_lay cX6_lay 5 none ∈ TB := tb_2 60 rfl rfl
theorem lm_X8_63 : Cond.methodLink RX8 63 yX3_begin ∈ TB := tb_2 61 rfl rfl
theorem wi_X3_begin : Cond.instanceMethod yX3_begin ∈ TB := tb_2 62 rfl rfl
theorem wv_X3_begin : Cond.selects RX3 yX3_begin yX3_begin ∈ TB := tb_2 63 rfl rfl
theorem wc_X3_begin : Cond.code yX3_begin cX3_begin 2 none ∈ TB := tb_2 64 rfl rfl
theorem lm_X3_35 : Cond.methodLink RX3 35 yX4_begin ∈ TB := tb_2 65 rfl rfl
theorem wi_X4_begin : Cond.instanceMethod yX4_begin ∈ TB := tb_2 66 rfl rfl
theorem wv_X4_begin : Cond.selects RX4 yX4_begin yX4_begin ∈ TB := tb_2 67 rfl rfl
theorem wc_X4_begin : Cond.code yX4_begin cX4_begin 1 none ∈ TB := tb_2 68 rfl rfl
theorem lm_X4_19 : Cond.methodLink RX4 19 yX4_forget ∈ TB := tb_2 69 rfl rfl
theorem wi_X4_forget : Cond.instanceMethod yX4_forget ∈ TB := tb_2 70 rfl rfl
theorem wv_X4_forget : Cond.selects RX4 yX4_forget yX4_forget ∈ TB := tb_2 71 rfl rfl
theorem wc_X4_forget : Cond.code yX4_forget cX4_forget 1 none ∈ TB := tb_2 72 rfl rfl
theorem lm_X4_25 : Cond.methodLink RX4 25 yJ7_fill_53178 ∈ TB := tb_2 73 rfl rfl
theorem wt_J7_fill_53178 : Cond.static yJ7_fill_53178 ∈ TB := tb_2 74 rfl rfl
theorem wc_J7_fill_53178 : Cond.code yJ7_fill_53178 cJ7_fill_53178 4 none ∈ TB := tb_2 75 rfl rfl
theorem lm_L_18 : Cond.methodLink RL 18 yX8_reset ∈ TB := tb_2 76 rfl rfl
theorem wi_X8_reset : Cond.instanceMethod yX8_reset ∈ TB := tb_2 77 rfl rfl
theorem wv_X8_reset : Cond.selects RX8 yX8_reset yX8_reset ∈ TB := tb_2 78 rfl rfl
theorem wc_X8_reset : Cond.code yX8_reset cX8_reset 2 (some .int) ∈ TB := tb_2 79 rfl rfl
theorem lm_X8_66 : Cond.methodLink RX8 66 yX3_stop ∈ TB := tb_2 80 rfl rfl
theorem wi_X3_stop : Cond.instanceMethod yX3_stop ∈ TB := tb_2 81 rfl rfl
theorem wv_X3_stop : Cond.selects RX3 yX3_stop yX3_stop ∈ TB := tb_2 82 rfl rfl
theorem wc_X3_stop : Cond.code yX3_stop cX3_stop 1 none ∈ TB := tb_2 83 rfl rfl
theorem lm_X3_38 : Cond.methodLink RX3 38 yX4_forget ∈ TB := tb_2 84 rfl rfl
theorem lm_L_22 : Cond.methodLink RL 22 yX8_queue ∈ TB := tb_2 85 rfl rfl
theorem wi_X8_queue : Cond.instanceMethod yX8_queue ∈ TB := tb_2 86 rfl rfl
theorem wv_X8_queue : Cond.selects RX8 yX8_queue yX8_queue ∈ TB := tb_2 87 rfl rfl
theorem wc_X8_queue : Cond.code yX8_queue cX8_queue 6 (some .int) ∈ TB := tb_2 88 rfl rfl
theorem lm_X8_69 : Cond.methodLink RX8 69 yX8_isQueue ∈ TB := tb_2 89 rfl rfl
theorem wt_X8_isQueue : Cond.static yX8_isQueue ∈ TB := tb_2 90 rfl rfl
theorem wc_X8_isQueue : Cond.code yX8_isQueue cX8_isQueue 1 (some .boolean) ∈ TB := tb_2 91 rfl rfl
theorem lm_X8_77 : Cond.methodLink RX8 77 yX8_isSize ∈ TB := tb_2 92 rfl rfl
theorem wt_X8_isSize : Cond.static yX8_isSize ∈ TB := tb_2 93 rfl rfl
theorem wc_X8_isSize : Cond.code yX8_isSize cX8_isSize 1 (some .boolean) ∈ TB := tb_2 94 rfl rfl
theorem lm_X8_80 : Cond.methodLink RX8 80 yX8_isPlace ∈ TB := tb_2 95 rfl rfl
theorem wt_X8_isPlace : Cond.static yX8_isPlace ∈ TB := tb_2 96 rfl rfl
theorem wc_X8_isPlace : Cond.code yX8_isPlace cX8_isPlace 3 (some .boolean) ∈ TB := tb_2 97 rfl rfl
theorem lm_X8_177 : Cond.methodLink RX8 177 yX8_liesInMemory ∈ TB := tb_2 98 rfl rfl
theorem wt_X8_liesInMemory : Cond.static yX8_liesInMemory ∈ TB := tb_2 99 rfl rfl
theorem wc_X8_liesInMemory : Cond.code yX8_liesInMemory cX8_liesInMemory 4 (some .boolean) ∈ TB := tb_2 100 rfl rfl
theorem ll_X8_181 : Cond.constantLong RX8 181 (4096) ∈ TB := tb_2 101 rfl rfl
theorem lm_L_27 : Cond.methodLink RL 27 yX8_run ∈ TB := tb_2 102 rfl rfl
theorem wi_X8_run : Cond.instanceMethod yX8_run ∈ TB := tb_2 103 rfl rfl
theorem wv_X8_run : Cond.selects RX8 yX8_run yX8_run ∈ TB := tb_2 104 rfl rfl
theorem wc_X8_run : Cond.code yX8_run cX8_run 1 (some .int) ∈ TB := tb_2 105 rfl rfl
theorem lm_L_32 : Cond.methodLink RL 32 yX8_poke ∈ TB := tb_2 106 rfl rfl
theorem wi_X8_poke : Cond.instanceMethod yX8_poke ∈ TB := tb_2 107 rfl rfl
theorem wv_X8_poke : Cond.selects RX8 yX8_poke yX8_poke ∈ TB := tb_2 108 rfl rfl
theorem wc_X8_poke : Cond.code yX8_poke cX8_poke 4 (some .int) ∈ TB := tb_2 109 rfl rfl
theorem lm_X8_84 : Cond.methodLink RX8 84 yX8_isAddress ∈ TB := tb_2 110 rfl rfl
theorem wt_X8_isAddress : Cond.static yX8_isAddress ∈ TB := tb_2 111 rfl rfl
theorem wc_X8_isAddress : Cond.code yX8_isAddress cX8_isAddress 1 (some .boolean) ∈ TB := tb_2 112 rfl rfl
theorem lm_X8_87 : Cond.methodLink RX8 87 yX5_at ∈ TB := tb_2 113 rfl rfl
theorem wi_X5_at : Cond.instanceMethod yX5_at ∈ TB := tb_2 114 rfl rfl
theorem wv_X5_at : Cond.selects RX5 yX5_at yX5_at ∈ TB := tb_2 115 rfl rfl
theorem wc_X5_at : Cond.code yX5_at cX5_at 2 (some .int) ∈ TB := tb_2 116 rfl rfl
theorem lm_X8_90 : Cond.methodLink RX8 90 yX5_set ∈ TB := tb_2 117 rfl rfl
theorem wi_X5_set : Cond.instanceMethod yX5_set ∈ TB := tb_2 118 rfl rfl
theorem wv_X5_set : Cond.selects RX5 yX5_set yX5_set ∈ TB := tb_2 119 rfl rfl
theorem wc_X5_set : Cond.code yX5_set cX5_set 3 none ∈ TB := tb_2 120 rfl rfl
theorem lm_L_37 : Cond.methodLink RL 37 yX8_peek ∈ TB := tb_2 121 rfl rfl
theorem wi_X8_peek : Cond.instanceMethod yX8_peek ∈ TB := tb_2 122 rfl rfl
theorem wv_X8_peek : Cond.selects RX8 yX8_peek yX8_peek ∈ TB := tb_2 123 rfl rfl
theorem wc_X8_peek : Cond.code yX8_peek cX8_peek 2 (some .int) ∈ TB := tb_2 124 rfl rfl
theorem lm_L_42 : Cond.methodLink RL 42 yX8_step ∈ TB := tb_2 125 rfl rfl
theorem wi_X8_step : Cond.instanceMethod yX8_step ∈ TB := tb_2 126 rfl rfl
theorem wv_X8_step : Cond.selects RX8 yX8_step yX8_step ∈ TB := tb_2 127 rfl rfl
theorem wc_X8_step : Cond.code yX8_step cX8_step 2 (some .int) ∈ TB := tb_2 128 rfl rfl
theorem lm_X8_94 : Cond.methodLink RX8 94 yX1_doChain ∈ TB := tb_2 129 rfl rfl
theorem wi_X1_doChain : Cond.instanceMethod yX1_doChain ∈ TB := tb_2 130 rfl rfl
theorem wv_X1_doChain : Cond.selects RX1 yX1_doChain yX1_doChain ∈ TB := tb_2 131 rfl rfl
theorem wc_X1_doChain : Cond.code yX1_doChain cX1_doChain 5 (some .int) ∈ TB := tb_2 132 rfl rfl
theorem lm_X1_58 : Cond.methodLink RX1 58 yX1_ringOf ∈ TB := tb_2 133 rfl rfl
theorem lm_X1_62 : Cond.methodLink RX1 62 yX1_takeFrom ∈ TB := tb_2 134 rfl rfl
theorem wi_X1_takeFrom : Cond.instanceMethod yX1_takeFrom ∈ TB := tb_2 136 rfl rfl
theorem wc_X1_takeFrom : Cond.code yX1_takeFrom cX1_takeFrom 3 (some .int) ∈ TB := tb_2 137 rfl rfl
theorem lm_X1_108 : Cond.methodLink RX1 108 yX6_waiting ∈ TB := tb_2 138 rfl rfl
theorem wi_X6_waiting : Cond.instanceMethod yX6_waiting ∈ TB := tb_2 139 rfl rfl
theorem wv_X6_waiting : Cond.selects RX6 yX6_waiting yX6_waiting ∈ TB := tb_2 140 rfl rfl
theorem wc_X6_waiting : Cond.code yX6_waiting cX6_waiting 1 (some .int) ∈ TB := tb_2 141 rfl rfl
theorem lm_X6_41 : Cond.methodLink RX6 41 yX5_two ∈ TB := tb_2 142 rfl rfl
theorem wi_X5_two : Cond.instanceMethod yX5_two ∈ TB := tb_2 143 rfl rfl
theorem wv_X5_two : Cond.selects RX5 yX5_two yX5_two ∈ TB := tb_2 144 rfl rfl
theorem wc_X5_two : Cond.code yX5_two cX5_two 2 (some .int) ∈ TB := tb_2 145 rfl rfl
theorem lm_X5_21 : Cond.methodLink RX5 21 yX5_at ∈ TB := tb_2 146 rfl rfl
theorem li_X6_47 : Cond.constant RX6 47 (65535) ∈ TB := tb_2 147 rfl rfl
theorem lm_X1_115 : Cond.methodLink RX1 115 yX0_gather ∈ TB := tb_2 148 rfl rfl
theorem wi_X0_gather : Cond.instanceMethod yX0_gather ∈ TB := tb_2 149 rfl rfl
theorem wv_X0_gather : Cond.selects RX0 yX0_gather yX0_gather ∈ TB := tb_2 150 rfl rfl
theorem wc_X0_gather : Cond.code yX0_gather cX0_gather 10 (some .boolean) ∈ TB := tb_2 151 rfl rfl
theorem lm_X0_38 : Cond.methodLink RX0 38 yX0_forget ∈ TB := tb_2 152 rfl rfl
theorem wi_X0_forget : Cond.instanceMethod yX0_forget ∈ TB := tb_2 154 rfl rfl
theorem wc_X0_forget : Cond.code yX0_forget cX0_forget 1 none ∈ TB := tb_2 155 rfl rfl
theorem lm_X0_41 : Cond.methodLink RX0 41 yX6_nextHead ∈ TB := tb_2 156 rfl rfl
theorem wi_X6_nextHead : Cond.instanceMethod yX6_nextHead ∈ TB := tb_2 157 rfl rfl
theorem wv_X6_nextHead : Cond.selects RX6 yX6_nextHead yX6_nextHead ∈ TB := tb_2 158 rfl rfl
theorem wc_X6_nextHead : Cond.code yX6_nextHead cX6_nextHead 1 (some .int) ∈ TB := tb_2 159 rfl rfl
theorem lm_X6_48 : Cond.methodLink RX6 48 yX6_placeOf ∈ TB := tb_2 160 rfl rfl
theorem wi_X6_placeOf : Cond.instanceMethod yX6_placeOf ∈ TB := tb_2 162 rfl rfl
theorem wc_X6_placeOf : Cond.code yX6_placeOf cX6_placeOf 2 (some .int) ∈ TB := tb_2 163 rfl rfl
theorem lm_X0_56 : Cond.methodLink RX0 56 yX5_two ∈ TB := tb_2 164 rfl rfl
theorem lm_X0_62 : Cond.methodLink RX0 62 yX0_isTable ∈ TB := tb_2 165 rfl rfl
theorem wi_X0_isTable : Cond.instanceMethod yX0_isTable ∈ TB := tb_2 167 rfl rfl
theorem wc_X0_isTable : Cond.code yX0_isTable cX0_isTable 5 (some .boolean) ∈ TB := tb_2 168 rfl rfl
theorem lm_X0_66 : Cond.methodLink RX0 66 yX5_number ∈ TB := tb_2 169 rfl rfl
theorem wi_X5_number : Cond.instanceMethod yX5_number ∈ TB := tb_2 170 rfl rfl
theorem wv_X5_number : Cond.selects RX5 yX5_number yX5_number ∈ TB := tb_2 171 rfl rfl
theorem wc_X5_number : Cond.code yX5_number cX5_number 6 (some .long) ∈ TB := tb_2 172 rfl rfl
theorem ll_X0_74 : Cond.constantLong RX0 74 (256) ∈ TB := tb_2 173 rfl rfl
theorem ll_X0_76 : Cond.constantLong RX0 76 (16) ∈ TB := tb_2 174 rfl rfl
theorem ln_X0_78 : Cond.methodLinkNest RX0 78 yX8_liesInMemory "RingDevices" ∈ lw_tbl := tl_2 175 rfl
theorem lm_X0_70 : Cond.methodLink RX0 70 yX0_addPart ∈ TB := tb_2 176 rfl rfl
theorem wi_X0_addPart : Cond.instanceMethod yX0_addPart ∈ TB := tb_2 178 rfl rfl
theorem wc_X0_addPart : Cond.code yX0_addPart cX0_addPart 7 (some .boolean) ∈ TB := tb_2 179 rfl rfl
theorem ln_X1_122 : Cond.methodLinkNest RX1 122 yX8_oneMore "RingDevices" ∈ lw_tbl := tl_2 180 rfl
theorem wt_X8_oneMore : Cond.static yX8_oneMore ∈ TB := tb_2 181 rfl rfl
theorem wc_X8_oneMore : Cond.code yX8_oneMore cX8_oneMore 1 (some .int) ∈ TB := tb_2 182 rfl rfl
theorem li_X8_183 : Cond.constant RX8 183 (65535) ∈ TB := tb_2 183 rfl rfl
theorem lm_X1_66 : Cond.methodLink RX1 66 yX2_answer ∈ TB := tb_2 184 rfl rfl
theorem wi_X2_answer : Cond.instanceMethod yX2_answer ∈ TB := tb_2 185 rfl rfl
theorem wv_X2_answer : Cond.selects RX2 yX2_answer yX2_answer ∈ TB := tb_2 186 rfl rfl
theorem wc_X2_answer : Cond.code yX2_answer cX2_answer 7 (some .int) ∈ TB := tb_2 187 rfl rfl
theorem lm_X2_24 : Cond.methodLink RX2 24 yX0_toReads ∈ TB := tb_2 188 rfl rfl
theorem wi_X0_toReads : Cond.instanceMethod yX0_toReads ∈ TB := tb_2 189 rfl rfl
theorem wv_X0_toReads : Cond.selects RX0 yX0_toReads yX0_toReads ∈ TB := tb_2 190 rfl rfl
theorem wc_X0_toReads : Cond.code yX0_toReads cX0_toReads 1 none ∈ TB := tb_2 191 rfl rfl
theorem lm_X2_27 : Cond.methodLink RX2 27 yX0_nextNumber ∈ TB := tb_2 192 rfl rfl
theorem wi_X0_nextNumber : Cond.instanceMethod yX0_nextNumber ∈ TB := tb_2 193 rfl rfl
theorem wv_X0_nextNumber : Cond.selects RX0 yX0_nextNumber yX0_nextNumber ∈ TB := tb_2 194 rfl rfl
theorem wc_X0_nextNumber : Cond.code yX0_nextNumber cX0_nextNumber 5 (some .long) ∈ TB := tb_2 195 rfl rfl
theorem lm_X0_97 : Cond.methodLink RX0 97 yX0_nextByte ∈ TB := tb_2 196 rfl rfl
theorem wi_X0_nextByte : Cond.instanceMethod yX0_nextByte ∈ TB := tb_2 197 rfl rfl
theorem wv_X0_nextByte : Cond.selects RX0 yX0_nextByte yX0_nextByte ∈ TB := tb_2 198 rfl rfl
theorem wc_X0_nextByte : Cond.code yX0_nextByte cX0_nextByte 1 (some .int) ∈ TB := tb_2 199 rfl rfl
theorem lm_X0_91 : Cond.methodLink RX0 91 yX0_nextPlace ∈ TB := tb_2 200 rfl rfl
theorem wi_X0_nextPlace : Cond.instanceMethod yX0_nextPlace ∈ TB := tb_2 202 rfl rfl
theorem wc_X0_nextPlace : Cond.code yX0_nextPlace cX0_nextPlace 1 (some .int) ∈ TB := tb_2 203 rfl rfl
theorem lm_X0_94 : Cond.methodLink RX0 94 yX5_at ∈ TB := tb_2 204 rfl rfl
theorem lm_X2_31 : Cond.methodLink RX2 31 yX0_skip ∈ TB := tb_2 205 rfl rfl
theorem wi_X0_skip : Cond.instanceMethod yX0_skip ∈ TB := tb_2 206 rfl rfl
theorem wv_X0_skip : Cond.selects RX0 yX0_skip yX0_skip ∈ TB := tb_2 207 rfl rfl
theorem wc_X0_skip : Cond.code yX0_skip cX0_skip 3 none ∈ TB := tb_2 208 rfl rfl
theorem lm_X2_35 : Cond.methodLink RX2 35 yX2_resultOf ∈ TB := tb_2 209 rfl rfl
theorem wi_X2_resultOf : Cond.instanceMethod yX2_resultOf ∈ TB := tb_2 211 rfl rfl
theorem wc_X2_resultOf : Cond.code yX2_resultOf cX2_resultOf 5 (some .int) ∈ TB := tb_2 212 rfl rfl
theorem lm_X2_46 : Cond.methodLink RX2 46 yX2_areThere ∈ TB := tb_2 213 rfl rfl
theorem wi_X2_areThere : Cond.instanceMethod yX2_areThere ∈ TB := tb_2 215 rfl rfl
theorem wc_X2_areThere : Cond.code yX2_areThere cX2_areThere 4 (some .boolean) ∈ TB := tb_2 216 rfl rfl
theorem lm_X2_39 : Cond.methodLink RX2 39 yX2_carryOut ∈ TB := tb_2 217 rfl rfl
theorem wi_X2_carryOut : Cond.instanceMethod yX2_carryOut ∈ TB := tb_2 219 rfl rfl
theorem wc_X2_carryOut : Cond.code yX2_carryOut cX2_carryOut 4 (some .int) ∈ TB := tb_2 220 rfl rfl
theorem lm_X2_50 : Cond.methodLink RX2 50 yX2_copyOut ∈ TB := tb_2 221 rfl rfl
theorem wi_X2_copyOut : Cond.instanceMethod yX2_copyOut ∈ TB := tb_2 223 rfl rfl
theorem wc_X2_copyOut : Cond.code yX2_copyOut cX2_copyOut 5 (some .int) ∈ TB := tb_2 224 rfl rfl
theorem lm_X2_61 : Cond.methodLink RX2 61 yX0_toWrites ∈ TB := tb_2 225 rfl rfl
theorem wi_X0_toWrites : Cond.instanceMethod yX0_toWrites ∈ TB := tb_2 226 rfl rfl
theorem wv_X0_toWrites : Cond.selects RX0 yX0_toWrites yX0_toWrites ∈ TB := tb_2 227 rfl rfl
theorem wc_X0_toWrites : Cond.code yX0_toWrites cX0_toWrites 1 none ∈ TB := tb_2 228 rfl rfl
theorem lm_X2_64 : Cond.methodLink RX2 64 yX2_at ∈ TB := tb_2 229 rfl rfl
theorem wi_X2_at : Cond.instanceMethod yX2_at ∈ TB := tb_2 230 rfl rfl
theorem wv_X2_at : Cond.selects RX2 yX2_at yX2_at ∈ TB := tb_2 231 rfl rfl
theorem wc_X2_at : Cond.code yX2_at cX2_at 2 (some .int) ∈ TB := tb_2 232 rfl rfl
theorem lm_X2_68 : Cond.methodLink RX2 68 yX0_putByte ∈ TB := tb_2 233 rfl rfl
theorem wi_X0_putByte : Cond.instanceMethod yX0_putByte ∈ TB := tb_2 234 rfl rfl
theorem wv_X0_putByte : Cond.selects RX0 yX0_putByte yX0_putByte ∈ TB := tb_2 235 rfl rfl
theorem wc_X0_putByte : Cond.code yX0_putByte cX0_putByte 2 none ∈ TB := tb_2 236 rfl rfl
theorem lm_X0_100 : Cond.methodLink RX0 100 yX5_set ∈ TB := tb_2 237 rfl rfl
theorem lm_X2_54 : Cond.methodLink RX2 54 yX2_copyIn ∈ TB := tb_2 238 rfl rfl
theorem wi_X2_copyIn : Cond.instanceMethod yX2_copyIn ∈ TB := tb_3 0 rfl rfl
theorem wc_X2_copyIn : Cond.code yX2_copyIn cX2_copyIn 5 (some .int) ∈ TB := tb_3 1 rfl rfl
theorem lm_X2_71 : Cond.methodLink RX2 71 yX0_nextByte ∈ TB := tb_3 2 rfl rfl
theorem lm_X2_75 : Cond.methodLink RX2 75 yX2_set ∈ TB := tb_3 3 rfl rfl
theorem wi_X2_set : Cond.instanceMethod yX2_set ∈ TB := tb_3 5 rfl rfl
theorem wc_X2_set : Cond.code yX2_set cX2_set 3 none ∈ TB := tb_3 6 rfl rfl
theorem lm_X2_57 : Cond.methodLink RX2 57 yX2_tellName ∈ TB := tb_3 7 rfl rfl
theorem wi_X2_tellName : Cond.instanceMethod yX2_tellName ∈ TB := tb_3 9 rfl rfl
theorem wc_X2_tellName : Cond.code yX2_tellName cX2_tellName 4 (some .int) ∈ TB := tb_3 10 rfl rfl
theorem lm_X2_79 : Cond.methodLink RX2 79 yJ9_min_7cf53 ∈ TB := tb_3 11 rfl rfl
theorem wt_J9_min_7cf53 : Cond.static yJ9_min_7cf53 ∈ TB := tb_3 12 rfl rfl
theorem wc_J9_min_7cf53 : Cond.code yJ9_min_7cf53 cJ9_min_7cf53 2 (some .int) ∈ TB := tb_3 13 rfl rfl
theorem lm_X2_87 : Cond.methodLink RX2 87 yJ0_length_8abf5 ∈ TB := tb_3 15 rfl rfl
theorem wi_J0_length_8abf5 : Cond.instanceMethod yJ0_length_8abf5 ∈ TB := tb_3 16 rfl rfl
theorem wv_J0_length_8abf5 : Cond.selects RJ0 yJ0_length_8abf5 yJ0_length_8abf5 ∈ TB := tb_3 17 rfl rfl
theorem wc_J0_length_8abf5 : Cond.code yJ0_length_8abf5 cJ0_length_8abf5 1 (some .int) ∈ TB := tb_3 18 rfl rfl
theorem lm_J0_335 : Cond.methodLink RJ0 335 yJ0_coder_7d493 ∈ TB := tb_3 19 rfl rfl
theorem wi_J0_coder_7d493 : Cond.instanceMethod yJ0_coder_7d493 ∈ TB := tb_3 20 rfl rfl
theorem wv_J0_coder_7d493 : Cond.selects RJ0 yJ0_coder_7d493 yJ0_coder_7d493 ∈ TB := tb_3 21 rfl rfl
theorem wc_J0_coder_7d493 : Cond.code yJ0_coder_7d493 cJ0_coder_7d493 1 (some .byte) ∈ TB := tb_3 22 rfl rfl
theorem lf_J0_38 : Cond.fieldLink RJ0 38 "java/lang/String" "COMPACT_STRINGS" "Z" ∈ TB := tb_3 23 rfl rfl
theorem lm_X2_92 : Cond.methodLink RX2 92 yJ0_charAt_5068e ∈ TB := tb_3 25 rfl rfl
theorem wi_J0_charAt_5068e : Cond.instanceMethod yJ0_charAt_5068e ∈ TB := tb_3 26 rfl rfl
theorem wv_J0_charAt_5068e : Cond.selects RJ0 yJ0_charAt_5068e yJ0_charAt_5068e ∈ TB := tb_3 27 rfl rfl
theorem wc_J0_charAt_5068e : Cond.code yJ0_charAt_5068e cJ0_charAt_5068e 2 (some .char) ∈ TB := tb_3 28 rfl rfl
theorem lm_J0_492 : Cond.methodLink RJ0 492 yJ0_isLatin1_aae02 ∈ TB := tb_3 29 rfl rfl
theorem wi_J0_isLatin1_aae02 : Cond.instanceMethod yJ0_isLatin1_aae02 ∈ TB := tb_3 30 rfl rfl
theorem wv_J0_isLatin1_aae02 : Cond.selects RJ0 yJ0_isLatin1_aae02 yJ0_isLatin1_aae02 ∈ TB := tb_3 31 rfl rfl
theorem wc_J0_isLatin1_aae02 : Cond.code yJ0_isLatin1_aae02 cJ0_isLatin1_aae02 1 (some .boolean) ∈ TB := tb_3 32 rfl rfl
theorem lm_J0_495 : Cond.methodLink RJ0 495 yJ1_charAt_3b067 ∈ TB := tb_3 33 rfl rfl
theorem wt_J1_charAt_3b067 : Cond.static yJ1_charAt_3b067 ∈ TB := tb_3 34 rfl rfl
theorem wc_J1_charAt_3b067 : Cond.code yJ1_charAt_3b067 cJ1_charAt_3b067 2 (some .char) ∈ TB := tb_3 35 rfl rfl
theorem lm_J1_9 : Cond.methodLink RJ1 9 yJ0_checkIndex_df160 ∈ TB := tb_3 36 rfl rfl
theorem wt_J0_checkIndex_df160 : Cond.static yJ0_checkIndex_df160 ∈ TB := tb_3 37 rfl rfl
theorem wc_J0_checkIndex_df160 : Cond.code yJ0_checkIndex_df160 cJ0_checkIndex_df160 2 none ∈ TB := tb_3 38 rfl rfl
theorem lf_J0_1053 : Cond.fieldLink RJ0 1053 "jdk/internal/util/Preconditions" "SIOOBE_FORMATTER" "Ljava/util/function/BiFunction;" ∈ TB := tb_3 39 rfl rfl
theorem lm_J0_1059 : Cond.methodLink RJ0 1059 yJ3_checkIndex_8e157 ∈ TB := tb_3 41 rfl rfl
theorem wt_J3_checkIndex_8e157 : Cond.static yJ3_checkIndex_8e157 ∈ TB := tb_3 42 rfl rfl
theorem wc_J3_checkIndex_8e157 : Cond.code yJ3_checkIndex_8e157 cJ3_checkIndex_8e157 3 (some .int) ∈ TB := tb_3 43 rfl rfl
theorem lm_J0_498 : Cond.methodLink RJ0 498 yJ2_charAt_3b067 ∈ TB := tb_3 44 rfl rfl
theorem wt_J2_charAt_3b067 : Cond.static yJ2_charAt_3b067 ∈ TB := tb_3 45 rfl rfl
theorem wc_J2_charAt_3b067 : Cond.code yJ2_charAt_3b067 cJ2_charAt_3b067 2 (some .char) ∈ TB := tb_3 46 rfl rfl
theorem lm_J2_67 : Cond.methodLink RJ2 67 yJ2_checkIndex_2214a ∈ TB := tb_3 47 rfl rfl
theorem wt_J2_checkIndex_2214a : Cond.static yJ2_checkIndex_2214a ∈ TB := tb_3 48 rfl rfl
theorem wc_J2_checkIndex_2214a : Cond.code yJ2_checkIndex_2214a cJ2_checkIndex_2214a 2 none ∈ TB := tb_3 49 rfl rfl
theorem lm_J2_48 : Cond.methodLink RJ2 48 yJ2_length_9d52b ∈ TB := tb_3 50 rfl rfl
theorem wt_J2_length_9d52b : Cond.static yJ2_length_9d52b ∈ TB := tb_3 51 rfl rfl
theorem wc_J2_length_9d52b : Cond.code yJ2_length_9d52b cJ2_length_9d52b 1 (some .int) ∈ TB := tb_3 52 rfl rfl
theorem lm_J2_414 : Cond.methodLink RJ2 414 yJ0_checkIndex_df160 ∈ TB := tb_3 53 rfl rfl
theorem lm_J2_71 : Cond.methodLink RJ2 71 yJ2_getChar_3b067 ∈ TB := tb_3 54 rfl rfl
theorem wt_J2_getChar_3b067 : Cond.static yJ2_getChar_3b067 ∈ TB := tb_3 55 rfl rfl
theorem wc_J2_getChar_3b067 : Cond.code yJ2_getChar_3b067 cJ2_getChar_3b067 2 (some .char) ∈ TB := tb_3 56 rfl rfl
theorem lf_J2_44 : Cond.fieldLink RJ2 44 "java/lang/StringUTF16" "$assertionsDisabled" "Z" ∈ TB := tb_3 57 rfl rfl
theorem lf_J2_59 : Cond.fieldLink RJ2 59 "java/lang/StringUTF16" "HI_BYTE_SHIFT" "I" ∈ TB := tb_3 59 rfl rfl
theorem lf_J2_63 : Cond.fieldLink RJ2 63 "java/lang/StringUTF16" "LO_BYTE_SHIFT" "I" ∈ TB := tb_3 61 rfl rfl
theorem lm_X2_43 : Cond.methodLink RX2 43 yX0_putLast ∈ TB := tb_3 63 rfl rfl
theorem wi_X0_putLast : Cond.instanceMethod yX0_putLast ∈ TB := tb_3 64 rfl rfl
theorem wv_X0_putLast : Cond.selects RX0 yX0_putLast yX0_putLast ∈ TB := tb_3 65 rfl rfl
theorem wc_X0_putLast : Cond.code yX0_putLast cX0_putLast 2 none ∈ TB := tb_3 66 rfl rfl
theorem lm_X1_70 : Cond.methodLink RX1 70 yX7_carry ∈ TB := tb_3 67 rfl rfl
theorem wi_X7_carry : Cond.instanceMethod yX7_carry ∈ TB := tb_3 68 rfl rfl
theorem wv_X7_carry : Cond.selects RX7 yX7_carry yX7_carry ∈ TB := tb_3 69 rfl rfl
theorem wc_X7_carry : Cond.code yX7_carry cX7_carry 4 none ∈ TB := tb_3 70 rfl rfl
theorem ln_X7_25 : Cond.methodLinkNest RX7 25 yX8_isFrame "RingDevices" ∈ lw_tbl := tl_3 71 rfl
theorem wt_X8_isFrame : Cond.static yX8_isFrame ∈ TB := tb_3 72 rfl rfl
theorem wc_X8_isFrame : Cond.code yX8_isFrame cX8_isFrame 1 (some .boolean) ∈ TB := tb_3 73 rfl rfl
theorem lm_X7_35 : Cond.methodLink RX7 35 yX0_toReads ∈ TB := tb_3 74 rfl rfl
theorem lm_X7_38 : Cond.methodLink RX7 38 yX0_skip ∈ TB := tb_3 75 rfl rfl
theorem lm_X7_42 : Cond.methodLink RX7 42 yX0_nextByte ∈ TB := tb_3 76 rfl rfl
theorem lm_X1_77 : Cond.methodLink RX1 77 yX6_giveBack ∈ TB := tb_3 77 rfl rfl
theorem wi_X6_giveBack : Cond.instanceMethod yX6_giveBack ∈ TB := tb_3 78 rfl rfl
theorem wv_X6_giveBack : Cond.selects RX6 yX6_giveBack yX6_giveBack ∈ TB := tb_3 79 rfl rfl
theorem wc_X6_giveBack : Cond.code yX6_giveBack cX6_giveBack 4 none ∈ TB := tb_3 80 rfl rfl
theorem lm_X6_51 : Cond.methodLink RX6 51 yX5_setNumber ∈ TB := tb_3 81 rfl rfl
theorem wi_X5_setNumber : Cond.instanceMethod yX5_setNumber ∈ TB := tb_3 82 rfl rfl
theorem wv_X5_setNumber : Cond.selects RX5 yX5_setNumber yX5_setNumber ∈ TB := tb_3 83 rfl rfl
theorem wc_X5_setNumber : Cond.code yX5_setNumber cX5_setNumber 6 none ∈ TB := tb_3 84 rfl rfl
theorem lm_X5_25 : Cond.methodLink RX5 25 yX5_set ∈ TB := tb_3 85 rfl rfl
theorem ln_X6_55 : Cond.methodLinkNest RX6 55 yX8_oneMore "RingDevices" ∈ lw_tbl := tl_3 86 rfl
theorem lm_L_48 : Cond.methodLink RL 48 yX8_arrive ∈ TB := tb_3 87 rfl rfl
theorem wi_X8_arrive : Cond.instanceMethod yX8_arrive ∈ TB := tb_3 88 rfl rfl
theorem wv_X8_arrive : Cond.selects RX8 yX8_arrive yX8_arrive ∈ TB := tb_3 89 rfl rfl
theorem wc_X8_arrive : Cond.code yX8_arrive cX8_arrive 4 (some .int) ∈ TB := tb_3 90 rfl rfl
theorem lm_X8_97 : Cond.methodLink RX8 97 yX8_isFrame ∈ TB := tb_3 91 rfl rfl
theorem lm_X8_100 : Cond.methodLink RX8 100 yX1_frameComes ∈ TB := tb_3 92 rfl rfl
theorem wi_X1_frameComes : Cond.instanceMethod yX1_frameComes ∈ TB := tb_3 93 rfl rfl
theorem wv_X1_frameComes : Cond.selects RX1 yX1_frameComes yX1_frameComes ∈ TB := tb_3 94 rfl rfl
theorem wc_X1_frameComes : Cond.code yX1_frameComes cX1_frameComes 5 (some .int) ∈ TB := tb_3 95 rfl rfl
theorem lm_X1_81 : Cond.methodLink RX1 81 yX1_deliver ∈ TB := tb_3 96 rfl rfl
theorem wi_X1_deliver : Cond.instanceMethod yX1_deliver ∈ TB := tb_3 98 rfl rfl
theorem wc_X1_deliver : Cond.code yX1_deliver cX1_deliver 6 (some .boolean) ∈ TB := tb_3 99 rfl rfl
theorem lm_X1_97 : Cond.methodLink RX1 97 yX0_toWrites ∈ TB := tb_3 100 rfl rfl
theorem lm_X1_100 : Cond.methodLink RX1 100 yX0_putByte ∈ TB := tb_3 101 rfl rfl
theorem ln_X1_104 : Cond.methodLinkNest RX1 104 yX8_patternByte "RingDevices" ∈ lw_tbl := tl_3 102 rfl
theorem wt_X8_patternByte : Cond.static yX8_patternByte ∈ TB := tb_3 103 rfl rfl
theorem wc_X8_patternByte : Cond.code yX8_patternByte cX8_patternByte 3 (some .int) ∈ TB := tb_3 104 rfl rfl
theorem lm_L_53 : Cond.methodLink RL 53 yX8_read ∈ TB := tb_3 105 rfl rfl
theorem wi_X8_read : Cond.instanceMethod yX8_read ∈ TB := tb_3 106 rfl rfl
theorem wv_X8_read : Cond.selects RX8 yX8_read yX8_read ∈ TB := tb_3 107 rfl rfl
theorem wc_X8_read : Cond.code yX8_read cX8_read 2 (some .int) ∈ TB := tb_3 108 rfl rfl
theorem lm_X8_104 : Cond.methodLink RX8 104 yX8_isSector ∈ TB := tb_3 109 rfl rfl
theorem wt_X8_isSector : Cond.static yX8_isSector ∈ TB := tb_3 110 rfl rfl
theorem wc_X8_isSector : Cond.code yX8_isSector cX8_isSector 1 (some .boolean) ∈ TB := tb_3 111 rfl rfl
theorem lm_X8_107 : Cond.methodLink RX8 107 yX3_ask ∈ TB := tb_3 112 rfl rfl
theorem wi_X3_ask : Cond.instanceMethod yX3_ask ∈ TB := tb_3 113 rfl rfl
theorem wv_X3_ask : Cond.selects RX3 yX3_ask yX3_ask ∈ TB := tb_3 114 rfl rfl
theorem wc_X3_ask : Cond.code yX3_ask cX3_ask 10 (some .int) ∈ TB := tb_3 115 rfl rfl
theorem lm_X3_45 : Cond.methodLink RX3 45 yX3_refusal ∈ TB := tb_3 116 rfl rfl
theorem wi_X3_refusal : Cond.instanceMethod yX3_refusal ∈ TB := tb_3 118 rfl rfl
theorem wc_X3_refusal : Cond.code yX3_refusal cX3_refusal 3 (some .int) ∈ TB := tb_3 119 rfl rfl
theorem lm_X3_41 : Cond.methodLink RX3 41 yX4_freeOnes ∈ TB := tb_3 120 rfl rfl
theorem wi_X4_freeOnes : Cond.instanceMethod yX4_freeOnes ∈ TB := tb_3 121 rfl rfl
theorem wv_X4_freeOnes : Cond.selects RX4 yX4_freeOnes yX4_freeOnes ∈ TB := tb_3 122 rfl rfl
theorem wc_X4_freeOnes : Cond.code yX4_freeOnes cX4_freeOnes 1 (some .int) ∈ TB := tb_3 123 rfl rfl
theorem lm_X4_37 : Cond.methodLink RX4 37 yJ6_bitCount_0f7a4 ∈ TB := tb_3 124 rfl rfl
theorem wt_J6_bitCount_0f7a4 : Cond.static yJ6_bitCount_0f7a4 ∈ TB := tb_3 125 rfl rfl
theorem wc_J6_bitCount_0f7a4 : Cond.code yJ6_bitCount_0f7a4 cJ6_bitCount_0f7a4 1 (some .int) ∈ TB := tb_3 126 rfl rfl
theorem li_J6_265 : Cond.constant RJ6 265 (1431655765) ∈ TB := tb_3 127 rfl rfl
theorem li_J6_266 : Cond.constant RJ6 266 (858993459) ∈ TB := tb_3 128 rfl rfl
theorem li_J6_267 : Cond.constant RJ6 267 (252645135) ∈ TB := tb_3 129 rfl rfl
theorem lm_X3_49 : Cond.methodLink RX3 49 yX4_lendFirst ∈ TB := tb_3 130 rfl rfl
theorem wi_X4_lendFirst : Cond.instanceMethod yX4_lendFirst ∈ TB := tb_3 131 rfl rfl
theorem wv_X4_lendFirst : Cond.selects RX4 yX4_lendFirst yX4_lendFirst ∈ TB := tb_3 132 rfl rfl
theorem wc_X4_lendFirst : Cond.code yX4_lendFirst cX4_lendFirst 2 (some .int) ∈ TB := tb_3 133 rfl rfl
theorem lm_X4_43 : Cond.methodLink RX4 43 yX4_leastFree ∈ TB := tb_3 134 rfl rfl
theorem wi_X4_leastFree : Cond.instanceMethod yX4_leastFree ∈ TB := tb_3 136 rfl rfl
theorem wc_X4_leastFree : Cond.code yX4_leastFree cX4_leastFree 2 (some .int) ∈ TB := tb_3 137 rfl rfl
theorem lm_X4_47 : Cond.methodLink RX4 47 yX4_lend ∈ TB := tb_3 138 rfl rfl
theorem wi_X4_lend : Cond.instanceMethod yX4_lend ∈ TB := tb_3 140 rfl rfl
theorem wc_X4_lend : Cond.code yX4_lend cX4_lend 3 none ∈ TB := tb_3 141 rfl rfl
theorem lm_X3_52 : Cond.methodLink RX3 52 yX3_descriptorAt ∈ TB := tb_3 142 rfl rfl
theorem wi_X3_descriptorAt : Cond.instanceMethod yX3_descriptorAt ∈ TB := tb_3 144 rfl rfl
theorem wc_X3_descriptorAt : Cond.code yX3_descriptorAt cX3_descriptorAt 3 (some .int) ∈ TB := tb_3 145 rfl rfl
theorem ln_X3_70 : Cond.methodLinkNest RX3 70 yX8_descriptorsOf "RingDevices" ∈ lw_tbl := tl_3 146 rfl
theorem lm_X3_56 : Cond.methodLink RX3 56 yX5_setDescriptor ∈ TB := tb_3 147 rfl rfl
theorem wi_X5_setDescriptor : Cond.instanceMethod yX5_setDescriptor ∈ TB := tb_3 148 rfl rfl
theorem wv_X5_setDescriptor : Cond.selects RX5 yX5_setDescriptor yX5_setDescriptor ∈ TB := tb_3 149 rfl rfl
theorem wc_X5_setDescriptor : Cond.code yX5_setDescriptor cX5_setDescriptor 6 none ∈ TB := tb_3 150 rfl rfl
theorem lm_X5_29 : Cond.methodLink RX5 29 yX5_setNumber ∈ TB := tb_3 151 rfl rfl
theorem lm_X3_62 : Cond.methodLink RX3 62 yX3_layRequest ∈ TB := tb_3 152 rfl rfl
theorem wi_X3_layRequest : Cond.instanceMethod yX3_layRequest ∈ TB := tb_3 154 rfl rfl
theorem wc_X3_layRequest : Cond.code yX3_layRequest cX3_layRequest 8 none ∈ TB := tb_3 155 rfl rfl
theorem lm_X3_66 : Cond.methodLink RX3 66 yX4_lendNext ∈ TB := tb_3 156 rfl rfl
theorem wi_X4_lendNext : Cond.instanceMethod yX4_lendNext ∈ TB := tb_3 157 rfl rfl
theorem wv_X4_lendNext : Cond.selects RX4 yX4_lendNext yX4_lendNext ∈ TB := tb_3 158 rfl rfl
theorem wc_X4_lendNext : Cond.code yX4_lendNext cX4_lendNext 3 (some .int) ∈ TB := tb_3 159 rfl rfl
theorem lm_X3_73 : Cond.methodLink RX3 73 yX3_fillRequest ∈ TB := tb_3 160 rfl rfl
theorem wi_X3_fillRequest : Cond.instanceMethod yX3_fillRequest ∈ TB := tb_3 162 rfl rfl
theorem wc_X3_fillRequest : Cond.code yX3_fillRequest cX3_fillRequest 6 none ∈ TB := tb_3 163 rfl rfl
theorem lm_X3_81 : Cond.methodLink RX3 81 yX5_setNumber ∈ TB := tb_3 164 rfl rfl
theorem lm_X3_85 : Cond.methodLink RX3 85 yX3_fillPattern ∈ TB := tb_3 165 rfl rfl
theorem wi_X3_fillPattern : Cond.instanceMethod yX3_fillPattern ∈ TB := tb_3 167 rfl rfl
theorem wc_X3_fillPattern : Cond.code yX3_fillPattern cX3_fillPattern 6 none ∈ TB := tb_3 168 rfl rfl
theorem ln_X3_88 : Cond.methodLinkNest RX3 88 yX8_patternByte "RingDevices" ∈ lw_tbl := tl_3 169 rfl
theorem lm_X3_92 : Cond.methodLink RX3 92 yX5_set ∈ TB := tb_3 170 rfl rfl
theorem lm_X3_77 : Cond.methodLink RX3 77 yX3_offer ∈ TB := tb_3 171 rfl rfl
theorem wi_X3_offer : Cond.instanceMethod yX3_offer ∈ TB := tb_3 173 rfl rfl
theorem wc_X3_offer : Cond.code yX3_offer cX3_offer 6 none ∈ TB := tb_3 174 rfl rfl
theorem lm_X3_95 : Cond.methodLink RX3 95 yX3_loansOf ∈ TB := tb_3 175 rfl rfl
theorem wi_X3_loansOf : Cond.instanceMethod yX3_loansOf ∈ TB := tb_3 176 rfl rfl
theorem wv_X3_loansOf : Cond.selects RX3 yX3_loansOf yX3_loansOf ∈ TB := tb_3 177 rfl rfl
theorem wc_X3_loansOf : Cond.code yX3_loansOf cX3_loansOf 2 (some (.object "RingDevices$Loans")) ∈ TB := tb_3 178 rfl rfl
theorem ln_X3_99 : Cond.methodLinkNest RX3 99 yX8_availableOf "RingDevices" ∈ lw_tbl := tl_3 179 rfl
theorem ln_X3_106 : Cond.methodLinkNest RX3 106 yX8_oneMore "RingDevices" ∈ lw_tbl := tl_3 180 rfl
theorem lm_L_57 : Cond.methodLink RL 57 yX8_write ∈ TB := tb_3 181 rfl rfl
theorem wi_X8_write : Cond.instanceMethod yX8_write ∈ TB := tb_3 182 rfl rfl
theorem wv_X8_write : Cond.selects RX8 yX8_write yX8_write ∈ TB := tb_3 183 rfl rfl
theorem wc_X8_write : Cond.code yX8_write cX8_write 4 (some .int) ∈ TB := tb_3 184 rfl rfl
theorem lm_L_61 : Cond.methodLink RL 61 yX8_send ∈ TB := tb_3 185 rfl rfl
theorem wi_X8_send : Cond.instanceMethod yX8_send ∈ TB := tb_3 186 rfl rfl
theorem wv_X8_send : Cond.selects RX8 yX8_send yX8_send ∈ TB := tb_3 187 rfl rfl
theorem wc_X8_send : Cond.code yX8_send cX8_send 4 (some .int) ∈ TB := tb_3 188 rfl rfl
theorem lm_X8_111 : Cond.methodLink RX8 111 yX3_letGo ∈ TB := tb_3 189 rfl rfl
theorem wi_X3_letGo : Cond.instanceMethod yX3_letGo ∈ TB := tb_3 190 rfl rfl
theorem wv_X3_letGo : Cond.selects RX3 yX3_letGo yX3_letGo ∈ TB := tb_3 191 rfl rfl
theorem wc_X3_letGo : Cond.code yX3_letGo cX3_letGo 8 (some .int) ∈ TB := tb_3 192 rfl rfl
theorem lm_L_65 : Cond.methodLink RL 65 yX8_post ∈ TB := tb_3 193 rfl rfl
theorem wi_X8_post : Cond.instanceMethod yX8_post ∈ TB := tb_3 194 rfl rfl
theorem wv_X8_post : Cond.selects RX8 yX8_post yX8_post ∈ TB := tb_3 195 rfl rfl
theorem wc_X8_post : Cond.code yX8_post cX8_post 1 (some .int) ∈ TB := tb_3 196 rfl rfl
theorem lm_X8_114 : Cond.methodLink RX8 114 yX3_lendBuffer ∈ TB := tb_3 197 rfl rfl
theorem wi_X3_lendBuffer : Cond.instanceMethod yX3_lendBuffer ∈ TB := tb_3 198 rfl rfl
theorem wv_X3_lendBuffer : Cond.selects RX3 yX3_lendBuffer yX3_lendBuffer ∈ TB := tb_3 199 rfl rfl
theorem wc_X3_lendBuffer : Cond.code yX3_lendBuffer cX3_lendBuffer 4 (some .int) ∈ TB := tb_3 200 rfl rfl
theorem lm_L_69 : Cond.methodLink RL 69 yX8_collect ∈ TB := tb_3 201 rfl rfl
theorem wi_X8_collect : Cond.instanceMethod yX8_collect ∈ TB := tb_3 202 rfl rfl
theorem wv_X8_collect : Cond.selects RX8 yX8_collect yX8_collect ∈ TB := tb_3 203 rfl rfl
theorem wc_X8_collect : Cond.code yX8_collect cX8_collect 2 (some .int) ∈ TB := tb_3 204 rfl rfl
theorem lm_X8_118 : Cond.methodLink RX8 118 yX3_collectOne ∈ TB := tb_3 205 rfl rfl
theorem wi_X3_collectOne : Cond.instanceMethod yX3_collectOne ∈ TB := tb_3 206 rfl rfl
theorem wv_X3_collectOne : Cond.selects RX3 yX3_collectOne yX3_collectOne ∈ TB := tb_3 207 rfl rfl
theorem wc_X3_collectOne : Cond.code yX3_collectOne cX3_collectOne 7 (some .int) ∈ TB := tb_3 208 rfl rfl
theorem ln_X3_109 : Cond.methodLinkNest RX3 109 yX8_usedOf "RingDevices" ∈ lw_tbl := tl_3 209 rfl
theorem lm_X3_112 : Cond.methodLink RX3 112 yX5_two ∈ TB := tb_3 210 rfl rfl
theorem lm_X3_118 : Cond.methodLink RX3 118 yX5_number ∈ TB := tb_3 211 rfl rfl
theorem lm_X3_122 : Cond.methodLink RX3 122 yX4_takeBack ∈ TB := tb_3 212 rfl rfl
theorem wi_X4_takeBack : Cond.instanceMethod yX4_takeBack ∈ TB := tb_3 213 rfl rfl
theorem wv_X4_takeBack : Cond.selects RX4 yX4_takeBack yX4_takeBack ∈ TB := tb_3 214 rfl rfl
theorem wc_X4_takeBack : Cond.code yX4_takeBack cX4_takeBack 3 (some .boolean) ∈ TB := tb_3 215 rfl rfl
theorem li_X3_126 : Cond.constant RX3 126 (2147483647) ∈ TB := tb_3 216 rfl rfl
theorem lm_L_73 : Cond.methodLink RL 73 yX8_written ∈ TB := tb_3 217 rfl rfl
theorem wi_X8_written : Cond.instanceMethod yX8_written ∈ TB := tb_3 218 rfl rfl
theorem wv_X8_written : Cond.selects RX8 yX8_written yX8_written ∈ TB := tb_3 219 rfl rfl
theorem wc_X8_written : Cond.code yX8_written cX8_written 2 (some .int) ∈ TB := tb_3 220 rfl rfl
theorem lm_X8_121 : Cond.methodLink RX8 121 yX3_loansOf ∈ TB := tb_3 221 rfl rfl
theorem lm_L_77 : Cond.methodLink RL 77 yX8_wire ∈ TB := tb_3 222 rfl rfl
theorem wi_X8_wire : Cond.instanceMethod yX8_wire ∈ TB := tb_3 223 rfl rfl
theorem wv_X8_wire : Cond.selects RX8 yX8_wire yX8_wire ∈ TB := tb_3 224 rfl rfl
theorem wc_X8_wire : Cond.code yX8_wire cX8_wire 3 (some .int) ∈ TB := tb_3 225 rfl rfl
theorem lm_X8_134 : Cond.methodLink RX8 134 yX7_byteOf ∈ TB := tb_3 226 rfl rfl
theorem wi_X7_byteOf : Cond.instanceMethod yX7_byteOf ∈ TB := tb_3 227 rfl rfl
theorem wv_X7_byteOf : Cond.selects RX7 yX7_byteOf yX7_byteOf ∈ TB := tb_3 228 rfl rfl
theorem wc_X7_byteOf : Cond.code yX7_byteOf cX7_byteOf 4 (some .int) ∈ TB := tb_3 229 rfl rfl
theorem lm_L_81 : Cond.methodLink RL 81 yX8_disk ∈ TB := tb_3 230 rfl rfl
theorem wi_X8_disk : Cond.instanceMethod yX8_disk ∈ TB := tb_3 231 rfl rfl
theorem wv_X8_disk : Cond.selects RX8 yX8_disk yX8_disk ∈ TB := tb_3 232 rfl rfl
theorem wc_X8_disk : Cond.code yX8_disk cX8_disk 3 (some .int) ∈ TB := tb_3 233 rfl rfl
theorem lm_X8_144 : Cond.methodLink RX8 144 yX2_at ∈ TB := tb_3 234 rfl rfl
theorem lm_L_85 : Cond.methodLink RL 85 yX8_told ∈ TB := tb_3 235 rfl rfl
theorem wi_X8_told : Cond.instanceMethod yX8_told ∈ TB := tb_3 236 rfl rfl
theorem wv_X8_told : Cond.selects RX8 yX8_told yX8_told ∈ TB := tb_3 237 rfl rfl
theorem wc_X8_told : Cond.code yX8_told cX8_told 5 (some .int) ∈ TB := tb_3 238 rfl rfl
theorem lm_X8_159 : Cond.methodLink RX8 159 yX4_freeOnes ∈ TB := tb_3 239 rfl rfl
theorem lm_L_89 : Cond.methodLink RL 89 yX8_count ∈ TB := tb_4 0 rfl rfl
theorem wi_X8_count : Cond.instanceMethod yX8_count ∈ TB := tb_4 1 rfl rfl
theorem wv_X8_count : Cond.selects RX8 yX8_count yX8_count ∈ TB := tb_4 2 rfl rfl
theorem wc_X8_count : Cond.code yX8_count cX8_count 2 (some .int) ∈ TB := tb_4 3 rfl rfl
theorem lm_L_36 : Cond.methodLink RL 36 yX9_poke ∈ TB := tb_4 4 rfl rfl
theorem wi_X9_poke : Cond.instanceMethod yX9_poke ∈ TB := tb_4 5 rfl rfl
theorem wv_X9_poke : Cond.selects RX9 yX9_poke yX9_poke ∈ TB := tb_4 6 rfl rfl
theorem wc_X9_poke : Cond.code yX9_poke cX9_poke 4 (some .int) ∈ TB := tb_4 7 rfl rfl
theorem lm_X9_7 : Cond.methodLink RX9 7 yX9_isIn ∈ TB := tb_4 8 rfl rfl
theorem wt_X9_isIn : Cond.static yX9_isIn ∈ TB := tb_4 9 rfl rfl
theorem wc_X9_isIn : Cond.code yX9_isIn cX9_isIn 3 (some .boolean) ∈ TB := tb_4 10 rfl rfl
theorem lm_L_41 : Cond.methodLink RL 41 yX9_peek ∈ TB := tb_4 11 rfl rfl
theorem wi_X9_peek : Cond.instanceMethod yX9_peek ∈ TB := tb_4 12 rfl rfl
theorem wv_X9_peek : Cond.selects RX9 yX9_peek yX9_peek ∈ TB := tb_4 13 rfl rfl
theorem wc_X9_peek : Cond.code yX9_peek cX9_peek 2 (some .int) ∈ TB := tb_4 14 rfl rfl
theorem lc_L_10 : Cond.classLink RL 10 RX9 ∈ TB := tb_4 15 rfl rfl
theorem wn_X9 : Cond.instantiable RX9 32 ∈ TB := tb_4 16 rfl rfl
theorem lm_L_12 : Cond.methodLink RL 12 yX9_init ∈ TB := tb_4 17 rfl rfl
theorem wi_X9_init : Cond.instanceMethod yX9_init ∈ TB := tb_4 18 rfl rfl
theorem wc_X9_init : Cond.code yX9_init cX9_init 1 none ∈ TB := tb_4 19 rfl rfl
theorem lm_X9_40 : Cond.methodLink RX9 40 objectInit ∈ TB := tb_4 20 rfl rfl
theorem lm_X9_76 : Cond.methodLink RX9 76 yX9_clear ∈ TB := tb_4 21 rfl rfl
theorem wi_X9_clear : Cond.instanceMethod yX9_clear ∈ TB := tb_4 23 rfl rfl
theorem wc_X9_clear : Cond.code yX9_clear cX9_clear 2 none ∈ TB := tb_4 24 rfl rfl
theorem lf_X9_1 : Cond.fieldLink RX9 1 "RingDevicesModel" "memory" "[B" ∈ TB := tb_4 25 rfl rfl
theorem lf_X9_46 : Cond.fieldLink RX9 46 "RingDevicesModel" "disk" "[B" ∈ TB := tb_4 26 rfl rfl
theorem lf_X9_86 : Cond.fieldLink RX9 86 "RingDevicesModel" "state" "I" ∈ TB := tb_4 27 rfl rfl
theorem lf_X9_79 : Cond.fieldLink RX9 79 "RingDevicesModel" "tables" "Z" ∈ TB := tb_4 28 rfl rfl
theorem lf_X9_83 : Cond.fieldLink RX9 83 "RingDevicesModel" "started" "Z" ∈ TB := tb_4 29 rfl rfl
theorem lf_X9_11 : Cond.fieldLink RX9 11 "RingDevicesModel" "sizes" "[I" ∈ TB := tb_4 30 rfl rfl
theorem lf_X9_49 : Cond.fieldLink RX9 49 "RingDevicesModel" "descriptors" "[I" ∈ TB := tb_4 31 rfl rfl
theorem lf_X9_52 : Cond.fieldLink RX9 52 "RingDevicesModel" "availables" "[I" ∈ TB := tb_4 32 rfl rfl
theorem lf_X9_55 : Cond.fieldLink RX9 55 "RingDevicesModel" "useds" "[I" ∈ TB := tb_4 33 rfl rfl
theorem lf_X9_15 : Cond.fieldLink RX9 15 "RingDevicesModel" "takens" "[I" ∈ TB := tb_4 34 rfl rfl
theorem lf_X9_18 : Cond.fieldLink RX9 18 "RingDevicesModel" "givens" "[I" ∈ TB := tb_4 35 rfl rfl
theorem lf_X9_21 : Cond.fieldLink RX9 21 "RingDevicesModel" "signals" "[I" ∈ TB := tb_4 36 rfl rfl
theorem lf_X9_107 : Cond.fieldLink RX9 107 "RingDevicesModel" "head" "I" ∈ TB := tb_4 37 rfl rfl
theorem lf_X9_58 : Cond.fieldLink RX9 58 "RingDevicesModel" "reads" "[I" ∈ TB := tb_4 38 rfl rfl
theorem lf_X9_61 : Cond.fieldLink RX9 61 "RingDevicesModel" "readSizes" "[I" ∈ TB := tb_4 39 rfl rfl
theorem lf_X9_95 : Cond.fieldLink RX9 95 "RingDevicesModel" "readMany" "I" ∈ TB := tb_4 40 rfl rfl
theorem lf_X9_98 : Cond.fieldLink RX9 98 "RingDevicesModel" "readAll" "I" ∈ TB := tb_4 41 rfl rfl
theorem lf_X9_64 : Cond.fieldLink RX9 64 "RingDevicesModel" "writes" "[I" ∈ TB := tb_4 42 rfl rfl
theorem lf_X9_67 : Cond.fieldLink RX9 67 "RingDevicesModel" "writeSizes" "[I" ∈ TB := tb_4 43 rfl rfl
theorem lf_X9_101 : Cond.fieldLink RX9 101 "RingDevicesModel" "writeMany" "I" ∈ TB := tb_4 44 rfl rfl
theorem lf_X9_104 : Cond.fieldLink RX9 104 "RingDevicesModel" "writeAll" "I" ∈ TB := tb_4 45 rfl rfl
theorem lf_X9_110 : Cond.fieldLink RX9 110 "RingDevicesModel" "bad" "Z" ∈ TB := tb_4 46 rfl rfl
theorem lf_X9_70 : Cond.fieldLink RX9 70 "RingDevicesModel" "wires" "[B" ∈ TB := tb_4 47 rfl rfl
theorem lf_X9_73 : Cond.fieldLink RX9 73 "RingDevicesModel" "wireSizes" "[I" ∈ TB := tb_4 48 rfl rfl
theorem lf_X9_165 : Cond.fieldLink RX9 165 "RingDevicesModel" "went" "I" ∈ TB := tb_4 49 rfl rfl
theorem lf_X9_177 : Cond.fieldLink RX9 177 "RingDevicesModel" "came" "I" ∈ TB := tb_4 50 rfl rfl
theorem lf_X9_170 : Cond.fieldLink RX9 170 "RingDevicesModel" "dropped" "I" ∈ TB := tb_4 51 rfl rfl
theorem lf_X9_33 : Cond.fieldLink RX9 33 "RingDevicesModel" "lent" "[Z" ∈ TB := tb_4 52 rfl rfl
theorem lf_X9_37 : Cond.fieldLink RX9 37 "RingDevicesModel" "heads" "[I" ∈ TB := tb_4 53 rfl rfl
theorem lf_X9_24 : Cond.fieldLink RX9 24 "RingDevicesModel" "counts" "[I" ∈ TB := tb_4 54 rfl rfl
theorem lf_X9_27 : Cond.fieldLink RX9 27 "RingDevicesModel" "saws" "[I" ∈ TB := tb_4 55 rfl rfl
theorem lf_X9_30 : Cond.fieldLink RX9 30 "RingDevicesModel" "written" "[I" ∈ TB := tb_4 56 rfl rfl
theorem wa_boolean : Cond.arrayClass .boolean ∈ TB := tb_4 122 rfl rfl
theorem lm_L_17 : Cond.methodLink RL 17 yX9_start ∈ TB := tb_4 123 rfl rfl
theorem wi_X9_start : Cond.instanceMethod yX9_start ∈ TB := tb_4 124 rfl rfl
theorem wv_X9_start : Cond.selects RX9 yX9_start yX9_start ∈ TB := tb_4 125 rfl rfl
theorem wc_X9_start : Cond.code yX9_start cX9_start 3 (some .int) ∈ TB := tb_4 126 rfl rfl
theorem lm_L_21 : Cond.methodLink RL 21 yX9_reset ∈ TB := tb_4 127 rfl rfl
theorem wi_X9_reset : Cond.instanceMethod yX9_reset ∈ TB := tb_4 128 rfl rfl
theorem wv_X9_reset : Cond.selects RX9 yX9_reset yX9_reset ∈ TB := tb_4 129 rfl rfl
theorem wc_X9_reset : Cond.code yX9_reset cX9_reset 2 (some .int) ∈ TB := tb_4 130 rfl rfl
theorem lm_L_26 : Cond.methodLink RL 26 yX9_queue ∈ TB := tb_4 131 rfl rfl
theorem wi_X9_queue : Cond.instanceMethod yX9_queue ∈ TB := tb_4 132 rfl rfl
theorem wv_X9_queue : Cond.selects RX9 yX9_queue yX9_queue ∈ TB := tb_4 133 rfl rfl
theorem wc_X9_queue : Cond.code yX9_queue cX9_queue 6 (some .int) ∈ TB := tb_4 134 rfl rfl
theorem lm_L_31 : Cond.methodLink RL 31 yX9_run ∈ TB := tb_4 135 rfl rfl
theorem wi_X9_run : Cond.instanceMethod yX9_run ∈ TB := tb_4 136 rfl rfl
theorem wv_X9_run : Cond.selects RX9 yX9_run yX9_run ∈ TB := tb_4 137 rfl rfl
theorem wc_X9_run : Cond.code yX9_run cX9_run 1 (some .int) ∈ TB := tb_4 138 rfl rfl
theorem lm_L_45 : Cond.methodLink RL 45 yX9_step ∈ TB := tb_4 139 rfl rfl
theorem wi_X9_step : Cond.instanceMethod yX9_step ∈ TB := tb_4 140 rfl rfl
theorem wv_X9_step : Cond.selects RX9 yX9_step yX9_step ∈ TB := tb_4 141 rfl rfl
theorem wc_X9_step : Cond.code yX9_step cX9_step 2 (some .int) ∈ TB := tb_4 142 rfl rfl
theorem lm_X9_131 : Cond.methodLink RX9 131 yX9_hasSomething ∈ TB := tb_4 143 rfl rfl
theorem wi_X9_hasSomething : Cond.instanceMethod yX9_hasSomething ∈ TB := tb_4 145 rfl rfl
theorem wc_X9_hasSomething : Cond.code yX9_hasSomething cX9_hasSomething 4 (some .boolean) ∈ TB := tb_4 146 rfl rfl
theorem lm_X9_90 : Cond.methodLink RX9 90 yX9_number ∈ TB := tb_4 147 rfl rfl
theorem wi_X9_number : Cond.instanceMethod yX9_number ∈ TB := tb_4 149 rfl rfl
theorem wc_X9_number : Cond.code yX9_number cX9_number 6 (some .long) ∈ TB := tb_4 150 rfl rfl
theorem li_X9_94 : Cond.constant RX9 94 (65535) ∈ TB := tb_4 151 rfl rfl
theorem lm_X9_135 : Cond.methodLink RX9 135 yX9_take ∈ TB := tb_4 152 rfl rfl
theorem wi_X9_take : Cond.instanceMethod yX9_take ∈ TB := tb_4 154 rfl rfl
theorem wc_X9_take : Cond.code yX9_take cX9_take 21 (some .boolean) ∈ TB := tb_4 155 rfl rfl
theorem ll_X9_113 : Cond.constantLong RX9 113 (4096) ∈ TB := tb_4 156 rfl rfl
theorem ll_X9_115 : Cond.constantLong RX9 115 (16) ∈ TB := tb_4 157 rfl rfl
theorem ll_X9_117 : Cond.constantLong RX9 117 (256) ∈ TB := tb_4 158 rfl rfl
theorem lm_X9_119 : Cond.methodLink RX9 119 yX9_keep ∈ TB := tb_4 159 rfl rfl
theorem wi_X9_keep : Cond.instanceMethod yX9_keep ∈ TB := tb_4 161 rfl rfl
theorem wc_X9_keep : Cond.code yX9_keep cX9_keep 4 none ∈ TB := tb_4 162 rfl rfl
theorem lm_X9_138 : Cond.methodLink RX9 138 yX9_doDisk ∈ TB := tb_4 163 rfl rfl
theorem wi_X9_doDisk : Cond.instanceMethod yX9_doDisk ∈ TB := tb_4 165 rfl rfl
theorem wc_X9_doDisk : Cond.code yX9_doDisk cX9_doDisk 11 (some .int) ∈ TB := tb_4 166 rfl rfl
theorem lm_X9_149 : Cond.methodLink RX9 149 yX9_readNumber ∈ TB := tb_4 167 rfl rfl
theorem wi_X9_readNumber : Cond.instanceMethod yX9_readNumber ∈ TB := tb_4 169 rfl rfl
theorem wc_X9_readNumber : Cond.code yX9_readNumber cX9_readNumber 6 (some .long) ∈ TB := tb_4 170 rfl rfl
theorem lm_X9_123 : Cond.methodLink RX9 123 yX9_readByte ∈ TB := tb_4 171 rfl rfl
theorem wi_X9_readByte : Cond.instanceMethod yX9_readByte ∈ TB := tb_4 173 rfl rfl
theorem wc_X9_readByte : Cond.code yX9_readByte cX9_readByte 4 (some .int) ∈ TB := tb_4 174 rfl rfl
theorem lm_X9_152 : Cond.methodLink RX9 152 yX9_writeByte ∈ TB := tb_4 175 rfl rfl
theorem wi_X9_writeByte : Cond.instanceMethod yX9_writeByte ∈ TB := tb_4 177 rfl rfl
theorem wc_X9_writeByte : Cond.code yX9_writeByte cX9_writeByte 5 none ∈ TB := tb_4 178 rfl rfl
theorem ll_X9_155 : Cond.constantLong RX9 155 (8) ∈ TB := tb_4 179 rfl rfl
theorem lm_X9_157 : Cond.methodLink RX9 157 yJ9_min_7cf53 ∈ TB := tb_4 180 rfl rfl
theorem ll_X9_163 : Cond.constantLong RX9 163 (4) ∈ TB := tb_4 181 rfl rfl
theorem lm_X9_142 : Cond.methodLink RX9 142 yX9_give ∈ TB := tb_4 182 rfl rfl
theorem wi_X9_give : Cond.instanceMethod yX9_give ∈ TB := tb_4 184 rfl rfl
theorem wc_X9_give : Cond.code yX9_give cX9_give 4 none ∈ TB := tb_4 185 rfl rfl
theorem lm_X9_127 : Cond.methodLink RX9 127 yX9_put ∈ TB := tb_4 186 rfl rfl
theorem wi_X9_put : Cond.instanceMethod yX9_put ∈ TB := tb_4 188 rfl rfl
theorem wc_X9_put : Cond.code yX9_put cX9_put 6 none ∈ TB := tb_4 189 rfl rfl
theorem lm_X9_146 : Cond.methodLink RX9 146 yX9_doWire ∈ TB := tb_4 190 rfl rfl
theorem wi_X9_doWire : Cond.instanceMethod yX9_doWire ∈ TB := tb_4 192 rfl rfl
theorem wc_X9_doWire : Cond.code yX9_doWire cX9_doWire 4 none ∈ TB := tb_4 193 rfl rfl
theorem lm_L_52 : Cond.methodLink RL 52 yX9_arrive ∈ TB := tb_4 194 rfl rfl
theorem wi_X9_arrive : Cond.instanceMethod yX9_arrive ∈ TB := tb_4 195 rfl rfl
theorem wv_X9_arrive : Cond.selects RX9 yX9_arrive yX9_arrive ∈ TB := tb_4 196 rfl rfl
theorem wc_X9_arrive : Cond.code yX9_arrive cX9_arrive 6 (some .int) ∈ TB := tb_4 197 rfl rfl
theorem lm_X9_173 : Cond.methodLink RX9 173 yX9_frameByte ∈ TB := tb_4 198 rfl rfl
theorem wt_X9_frameByte : Cond.static yX9_frameByte ∈ TB := tb_4 199 rfl rfl
theorem wc_X9_frameByte : Cond.code yX9_frameByte cX9_frameByte 3 (some .int) ∈ TB := tb_4 200 rfl rfl
theorem ll_X9_168 : Cond.constantLong RX9 168 (255) ∈ TB := tb_4 201 rfl rfl
theorem lm_L_56 : Cond.methodLink RL 56 yX9_read ∈ TB := tb_4 202 rfl rfl
theorem wi_X9_read : Cond.instanceMethod yX9_read ∈ TB := tb_4 203 rfl rfl
theorem wv_X9_read : Cond.selects RX9 yX9_read yX9_read ∈ TB := tb_4 204 rfl rfl
theorem wc_X9_read : Cond.code yX9_read cX9_read 2 (some .int) ∈ TB := tb_4 205 rfl rfl
theorem lm_X9_193 : Cond.methodLink RX9 193 yX9_ask ∈ TB := tb_4 206 rfl rfl
theorem wi_X9_ask : Cond.instanceMethod yX9_ask ∈ TB := tb_4 208 rfl rfl
theorem wc_X9_ask : Cond.code yX9_ask cX9_ask 12 (some .int) ∈ TB := tb_4 209 rfl rfl
theorem lm_X9_180 : Cond.methodLink RX9 180 yX9_freeOnes ∈ TB := tb_4 210 rfl rfl
theorem wi_X9_freeOnes : Cond.instanceMethod yX9_freeOnes ∈ TB := tb_4 212 rfl rfl
theorem wc_X9_freeOnes : Cond.code yX9_freeOnes cX9_freeOnes 4 (some .int) ∈ TB := tb_4 213 rfl rfl
theorem lm_X9_183 : Cond.methodLink RX9 183 yX9_lend ∈ TB := tb_4 214 rfl rfl
theorem wi_X9_lend : Cond.instanceMethod yX9_lend ∈ TB := tb_4 216 rfl rfl
theorem wc_X9_lend : Cond.code yX9_lend cX9_lend 4 (some .int) ∈ TB := tb_4 217 rfl rfl
theorem lm_X9_186 : Cond.methodLink RX9 186 yX9_describe ∈ TB := tb_4 218 rfl rfl
theorem wi_X9_describe : Cond.instanceMethod yX9_describe ∈ TB := tb_4 220 rfl rfl
theorem wc_X9_describe : Cond.code yX9_describe cX9_describe 6 none ∈ TB := tb_4 221 rfl rfl
theorem lm_X9_190 : Cond.methodLink RX9 190 yX9_offer ∈ TB := tb_4 222 rfl rfl
theorem wi_X9_offer : Cond.instanceMethod yX9_offer ∈ TB := tb_4 224 rfl rfl
theorem wc_X9_offer : Cond.code yX9_offer cX9_offer 3 none ∈ TB := tb_4 225 rfl rfl
theorem lm_L_60 : Cond.methodLink RL 60 yX9_write ∈ TB := tb_4 226 rfl rfl
theorem wi_X9_write : Cond.instanceMethod yX9_write ∈ TB := tb_4 227 rfl rfl
theorem wv_X9_write : Cond.selects RX9 yX9_write yX9_write ∈ TB := tb_4 228 rfl rfl
theorem wc_X9_write : Cond.code yX9_write cX9_write 4 (some .int) ∈ TB := tb_4 229 rfl rfl
theorem lm_L_64 : Cond.methodLink RL 64 yX9_send ∈ TB := tb_4 230 rfl rfl
theorem wi_X9_send : Cond.instanceMethod yX9_send ∈ TB := tb_4 231 rfl rfl
theorem wv_X9_send : Cond.selects RX9 yX9_send yX9_send ∈ TB := tb_4 232 rfl rfl
theorem wc_X9_send : Cond.code yX9_send cX9_send 8 (some .int) ∈ TB := tb_4 233 rfl rfl
theorem lm_L_68 : Cond.methodLink RL 68 yX9_post ∈ TB := tb_4 234 rfl rfl
theorem wi_X9_post : Cond.instanceMethod yX9_post ∈ TB := tb_4 235 rfl rfl
theorem wv_X9_post : Cond.selects RX9 yX9_post yX9_post ∈ TB := tb_4 236 rfl rfl
theorem wc_X9_post : Cond.code yX9_post cX9_post 2 (some .int) ∈ TB := tb_4 237 rfl rfl
theorem lm_L_72 : Cond.methodLink RL 72 yX9_collect ∈ TB := tb_4 238 rfl rfl
theorem wi_X9_collect : Cond.instanceMethod yX9_collect ∈ TB := tb_4 239 rfl rfl
theorem wv_X9_collect : Cond.selects RX9 yX9_collect yX9_collect ∈ TB := tb_5 0 rfl rfl
theorem wc_X9_collect : Cond.code yX9_collect cX9_collect 7 (some .int) ∈ TB := tb_5 1 rfl rfl
theorem ll_X9_197 : Cond.constantLong RX9 197 (7) ∈ TB := tb_5 2 rfl rfl
theorem ll_X9_199 : Cond.constantLong RX9 199 (2147483647) ∈ TB := tb_5 3 rfl rfl
theorem lm_L_76 : Cond.methodLink RL 76 yX9_written ∈ TB := tb_5 4 rfl rfl
theorem wi_X9_written : Cond.instanceMethod yX9_written ∈ TB := tb_5 5 rfl rfl
theorem wv_X9_written : Cond.selects RX9 yX9_written yX9_written ∈ TB := tb_5 6 rfl rfl
theorem wc_X9_written : Cond.code yX9_written cX9_written 2 (some .int) ∈ TB := tb_5 7 rfl rfl
theorem lm_L_80 : Cond.methodLink RL 80 yX9_wire ∈ TB := tb_5 8 rfl rfl
theorem wi_X9_wire : Cond.instanceMethod yX9_wire ∈ TB := tb_5 9 rfl rfl
theorem wv_X9_wire : Cond.selects RX9 yX9_wire yX9_wire ∈ TB := tb_5 10 rfl rfl
theorem wc_X9_wire : Cond.code yX9_wire cX9_wire 4 (some .int) ∈ TB := tb_5 11 rfl rfl
theorem lm_L_84 : Cond.methodLink RL 84 yX9_disk ∈ TB := tb_5 12 rfl rfl
theorem wi_X9_disk : Cond.instanceMethod yX9_disk ∈ TB := tb_5 13 rfl rfl
theorem wv_X9_disk : Cond.selects RX9 yX9_disk yX9_disk ∈ TB := tb_5 14 rfl rfl
theorem wc_X9_disk : Cond.code yX9_disk cX9_disk 3 (some .int) ∈ TB := tb_5 15 rfl rfl
theorem lm_L_88 : Cond.methodLink RL 88 yX9_told ∈ TB := tb_5 16 rfl rfl
theorem wi_X9_told : Cond.instanceMethod yX9_told ∈ TB := tb_5 17 rfl rfl
theorem wv_X9_told : Cond.selects RX9 yX9_told yX9_told ∈ TB := tb_5 18 rfl rfl
theorem wc_X9_told : Cond.code yX9_told cX9_told 3 (some .int) ∈ TB := tb_5 19 rfl rfl
theorem lm_L_92 : Cond.methodLink RL 92 yX9_count ∈ TB := tb_5 20 rfl rfl
theorem wi_X9_count : Cond.instanceMethod yX9_count ∈ TB := tb_5 21 rfl rfl
theorem wv_X9_count : Cond.selects RX9 yX9_count yX9_count ∈ TB := tb_5 22 rfl rfl
theorem wc_X9_count : Cond.code yX9_count cX9_count 2 (some .int) ∈ TB := tb_5 23 rfl rfl
theorem ll_L_46 : Cond.constantLong RL 46 (4294967295) ∈ TB := tb_5 24 rfl rfl
theorem lf_J0_9 : Cond.fieldLink RJ0 9 "java/lang/String" "value" "[B" ∈ TB := tb_5 25 rfl rfl
theorem lf_J0_15 : Cond.fieldLink RJ0 15 "java/lang/String" "coder" "B" ∈ TB := tb_5 26 rfl rfl
theorem wv_X1_takeFrom : Cond.selects RX1 yX1_takeFrom yX1_takeFrom ∈ TB := tb_s 0 rfl rfl
theorem wv_X0_forget : Cond.selects RX0 yX0_forget yX0_forget ∈ TB := tb_s 1 rfl rfl
theorem wv_X6_placeOf : Cond.selects RX6 yX6_placeOf yX6_placeOf ∈ TB := tb_s 2 rfl rfl
theorem wv_X0_isTable : Cond.selects RX0 yX0_isTable yX0_isTable ∈ TB := tb_s 3 rfl rfl
theorem wv_X0_addPart : Cond.selects RX0 yX0_addPart yX0_addPart ∈ TB := tb_s 4 rfl rfl
theorem wv_X0_nextPlace : Cond.selects RX0 yX0_nextPlace yX0_nextPlace ∈ TB := tb_s 5 rfl rfl
theorem wv_X2_resultOf : Cond.selects RX2 yX2_resultOf yX2_resultOf ∈ TB := tb_s 6 rfl rfl
theorem wv_X2_areThere : Cond.selects RX2 yX2_areThere yX2_areThere ∈ TB := tb_s 7 rfl rfl
theorem wv_X2_carryOut : Cond.selects RX2 yX2_carryOut yX2_carryOut ∈ TB := tb_s 8 rfl rfl
theorem wv_X2_copyOut : Cond.selects RX2 yX2_copyOut yX2_copyOut ∈ TB := tb_s 9 rfl rfl
theorem wv_X2_copyIn : Cond.selects RX2 yX2_copyIn yX2_copyIn ∈ TB := tb_s 10 rfl rfl
theorem wv_X2_set : Cond.selects RX2 yX2_set yX2_set ∈ TB := tb_s 11 rfl rfl
theorem wv_X2_tellName : Cond.selects RX2 yX2_tellName yX2_tellName ∈ TB := tb_s 12 rfl rfl
theorem wv_X1_deliver : Cond.selects RX1 yX1_deliver yX1_deliver ∈ TB := tb_s 13 rfl rfl
theorem wv_X3_refusal : Cond.selects RX3 yX3_refusal yX3_refusal ∈ TB := tb_s 14 rfl rfl
theorem wv_X4_leastFree : Cond.selects RX4 yX4_leastFree yX4_leastFree ∈ TB := tb_s 15 rfl rfl
theorem wv_X4_lend : Cond.selects RX4 yX4_lend yX4_lend ∈ TB := tb_s 16 rfl rfl
theorem wv_X3_descriptorAt : Cond.selects RX3 yX3_descriptorAt yX3_descriptorAt ∈ TB := tb_s 17 rfl rfl
theorem wv_X3_layRequest : Cond.selects RX3 yX3_layRequest yX3_layRequest ∈ TB := tb_s 18 rfl rfl
theorem wv_X3_fillRequest : Cond.selects RX3 yX3_fillRequest yX3_fillRequest ∈ TB := tb_s 19 rfl rfl
theorem wv_X3_fillPattern : Cond.selects RX3 yX3_fillPattern yX3_fillPattern ∈ TB := tb_s 20 rfl rfl
theorem wv_X3_offer : Cond.selects RX3 yX3_offer yX3_offer ∈ TB := tb_s 21 rfl rfl
theorem wv_X9_clear : Cond.selects RX9 yX9_clear yX9_clear ∈ TB := tb_s 22 rfl rfl
theorem wv_X9_hasSomething : Cond.selects RX9 yX9_hasSomething yX9_hasSomething ∈ TB := tb_s 23 rfl rfl
theorem wv_X9_number : Cond.selects RX9 yX9_number yX9_number ∈ TB := tb_s 24 rfl rfl
theorem wv_X9_take : Cond.selects RX9 yX9_take yX9_take ∈ TB := tb_s 25 rfl rfl
theorem wv_X9_keep : Cond.selects RX9 yX9_keep yX9_keep ∈ TB := tb_s 26 rfl rfl
theorem wv_X9_doDisk : Cond.selects RX9 yX9_doDisk yX9_doDisk ∈ TB := tb_s 27 rfl rfl
theorem wv_X9_readNumber : Cond.selects RX9 yX9_readNumber yX9_readNumber ∈ TB := tb_s 28 rfl rfl
theorem wv_X9_readByte : Cond.selects RX9 yX9_readByte yX9_readByte ∈ TB := tb_s 29 rfl rfl
theorem wv_X9_writeByte : Cond.selects RX9 yX9_writeByte yX9_writeByte ∈ TB := tb_s 30 rfl rfl
theorem wv_X9_give : Cond.selects RX9 yX9_give yX9_give ∈ TB := tb_s 31 rfl rfl
theorem wv_X9_put : Cond.selects RX9 yX9_put yX9_put ∈ TB := tb_s 32 rfl rfl
theorem wv_X9_doWire : Cond.selects RX9 yX9_doWire yX9_doWire ∈ TB := tb_s 33 rfl rfl
theorem wv_X9_ask : Cond.selects RX9 yX9_ask yX9_ask ∈ TB := tb_s 34 rfl rfl
theorem wv_X9_freeOnes : Cond.selects RX9 yX9_freeOnes yX9_freeOnes ∈ TB := tb_s 35 rfl rfl
theorem wv_X9_lend : Cond.selects RX9 yX9_lend yX9_lend ∈ TB := tb_s 36 rfl rfl
theorem wv_X9_describe : Cond.selects RX9 yX9_describe yX9_describe ∈ TB := tb_s 37 rfl rfl
theorem wv_X9_offer : Cond.selects RX9 yX9_offer yX9_offer ∈ TB := tb_s 38 rfl rfl
theorem ly_X0_0 : u_lay RX0 TX0 0 ∈ TB := tb_1 110 rfl rfl
theorem ly_X0_1 : u_lay RX0 TX0 1 ∈ TB := tb_1 112 rfl rfl
theorem ly_X0_2 : u_lay RX0 TX0 2 ∈ TB := tb_1 114 rfl rfl
theorem ly_X0_3 : u_lay RX0 TX0 3 ∈ TB := tb_1 116 rfl rfl
theorem ly_X0_4 : u_lay RX0 TX0 4 ∈ TB := tb_1 118 rfl rfl
theorem ly_X0_5 : u_lay RX0 TX0 5 ∈ TB := tb_1 120 rfl rfl
theorem ly_X0_6 : u_lay RX0 TX0 6 ∈ TB := tb_1 122 rfl rfl
theorem ly_X0_7 : u_lay RX0 TX0 7 ∈ TB := tb_1 124 rfl rfl
theorem ly_X0_8 : u_lay RX0 TX0 8 ∈ TB := tb_1 126 rfl rfl
theorem ly_X0_9 : u_lay RX0 TX0 9 ∈ TB := tb_1 128 rfl rfl
theorem ly_X0_10 : u_lay RX0 TX0 10 ∈ TB := tb_1 130 rfl rfl
theorem ly_X0_11 : u_lay RX0 TX0 11 ∈ TB := tb_1 132 rfl rfl
theorem inX0 : ∀ w ∈ wsX00, w ∈ TB := by
  intro w h
  obtain ⟨k, hk, rfl⟩ := List.mem_map.mp h
  have hk := List.mem_range.mp hk
  match k, hk with
  | 0, _ => exact ly_X0_0
  | 1, _ => exact ly_X0_1
  | 2, _ => exact ly_X0_2
  | 3, _ => exact ly_X0_3
  | 4, _ => exact ly_X0_4
  | 5, _ => exact ly_X0_5
  | 6, _ => exact ly_X0_6
  | 7, _ => exact ly_X0_7
  | 8, _ => exact ly_X0_8
  | 9, _ => exact ly_X0_9
  | 10, _ => exact ly_X0_10
  | 11, _ => exact ly_X0_11
  | k + 12, hk => omega
theorem ly_X1_0 : u_lay RX1 TX1 0 ∈ TB := tb_1 182 rfl rfl
theorem ly_X1_1 : u_lay RX1 TX1 1 ∈ TB := tb_1 184 rfl rfl
theorem ly_X1_2 : u_lay RX1 TX1 2 ∈ TB := tb_1 186 rfl rfl
theorem ly_X1_3 : u_lay RX1 TX1 3 ∈ TB := tb_1 188 rfl rfl
theorem ly_X1_4 : u_lay RX1 TX1 4 ∈ TB := tb_1 190 rfl rfl
theorem ly_X1_5 : u_lay RX1 TX1 5 ∈ TB := tb_1 192 rfl rfl
theorem ly_X1_6 : u_lay RX1 TX1 6 ∈ TB := tb_1 194 rfl rfl
theorem ly_X1_7 : u_lay RX1 TX1 7 ∈ TB := tb_1 196 rfl rfl
theorem ly_X1_8 : u_lay RX1 TX1 8 ∈ TB := tb_1 198 rfl rfl
theorem ly_X1_9 : u_lay RX1 TX1 9 ∈ TB := tb_1 200 rfl rfl
theorem inX1 : ∀ w ∈ wsX10, w ∈ TB := by
  intro w h
  obtain ⟨k, hk, rfl⟩ := List.mem_map.mp h
  have hk := List.mem_range.mp hk
  match k, hk with
  | 0, _ => exact ly_X1_0
  | 1, _ => exact ly_X1_1
  | 2, _ => exact ly_X1_2
  | 3, _ => exact ly_X1_3
  | 4, _ => exact ly_X1_4
  | 5, _ => exact ly_X1_5
  | 6, _ => exact ly_X1_6
  | 7, _ => exact ly_X1_7
  | 8, _ => exact ly_X1_8
  | 9, _ => exact ly_X1_9
  | k + 10, hk => omega
theorem ly_X2_0 : u_lay RX2 TX2 0 ∈ TB := tb_1 143 rfl rfl
theorem inX2 : ∀ w ∈ wsX20, w ∈ TB := by
  intro w h
  obtain ⟨k, hk, rfl⟩ := List.mem_map.mp h
  have hk := List.mem_range.mp hk
  match k, hk with
  | 0, _ => exact ly_X2_0
  | k + 1, hk => omega
theorem ly_X3_0 : u_lay RX3 TX3 0 ∈ TB := tb_2 2 rfl rfl
theorem ly_X3_1 : u_lay RX3 TX3 1 ∈ TB := tb_2 4 rfl rfl
theorem ly_X3_2 : u_lay RX3 TX3 2 ∈ TB := tb_2 6 rfl rfl
theorem ly_X3_3 : u_lay RX3 TX3 3 ∈ TB := tb_2 8 rfl rfl
theorem ly_X3_4 : u_lay RX3 TX3 4 ∈ TB := tb_2 10 rfl rfl
theorem ly_X3_5 : u_lay RX3 TX3 5 ∈ TB := tb_2 12 rfl rfl
theorem inX3 : ∀ w ∈ wsX30, w ∈ TB := by
  intro w h
  obtain ⟨k, hk, rfl⟩ := List.mem_map.mp h
  have hk := List.mem_range.mp hk
  match k, hk with
  | 0, _ => exact ly_X3_0
  | 1, _ => exact ly_X3_1
  | 2, _ => exact ly_X3_2
  | 3, _ => exact ly_X3_3
  | 4, _ => exact ly_X3_4
  | 5, _ => exact ly_X3_5
  | k + 6, hk => omega
theorem ly_X4_0 : u_lay RX4 TX4 0 ∈ TB := tb_1 225 rfl rfl
theorem ly_X4_1 : u_lay RX4 TX4 1 ∈ TB := tb_1 227 rfl rfl
theorem ly_X4_2 : u_lay RX4 TX4 2 ∈ TB := tb_1 229 rfl rfl
theorem ly_X4_3 : u_lay RX4 TX4 3 ∈ TB := tb_1 231 rfl rfl
theorem ly_X4_4 : u_lay RX4 TX4 4 ∈ TB := tb_1 233 rfl rfl
theorem inX4 : ∀ w ∈ wsX40, w ∈ TB := by
  intro w h
  obtain ⟨k, hk, rfl⟩ := List.mem_map.mp h
  have hk := List.mem_range.mp hk
  match k, hk with
  | 0, _ => exact ly_X4_0
  | 1, _ => exact ly_X4_1
  | 2, _ => exact ly_X4_2
  | 3, _ => exact ly_X4_3
  | 4, _ => exact ly_X4_4
  | k + 5, hk => omega
theorem ly_X5_0 : u_lay RX5 TX5 0 ∈ TB := tb_1 33 rfl rfl
theorem inX5 : ∀ w ∈ wsX50, w ∈ TB := by
  intro w h
  obtain ⟨k, hk, rfl⟩ := List.mem_map.mp h
  have hk := List.mem_range.mp hk
  match k, hk with
  | 0, _ => exact ly_X5_0
  | k + 1, hk => omega
theorem ly_X6_0 : u_lay RX6 TX6 0 ∈ TB := tb_1 67 rfl rfl
theorem ly_X6_1 : u_lay RX6 TX6 1 ∈ TB := tb_1 69 rfl rfl
theorem ly_X6_2 : u_lay RX6 TX6 2 ∈ TB := tb_1 71 rfl rfl
theorem ly_X6_3 : u_lay RX6 TX6 3 ∈ TB := tb_1 73 rfl rfl
theorem ly_X6_4 : u_lay RX6 TX6 4 ∈ TB := tb_1 75 rfl rfl
theorem ly_X6_5 : u_lay RX6 TX6 5 ∈ TB := tb_1 77 rfl rfl
theorem ly_X6_6 : u_lay RX6 TX6 6 ∈ TB := tb_1 79 rfl rfl
theorem ly_X6_7 : u_lay RX6 TX6 7 ∈ TB := tb_1 81 rfl rfl
theorem ly_X6_8 : u_lay RX6 TX6 8 ∈ TB := tb_1 83 rfl rfl
theorem inX6 : ∀ w ∈ wsX60, w ∈ TB := by
  intro w h
  obtain ⟨k, hk, rfl⟩ := List.mem_map.mp h
  have hk := List.mem_range.mp hk
  match k, hk with
  | 0, _ => exact ly_X6_0
  | 1, _ => exact ly_X6_1
  | 2, _ => exact ly_X6_2
  | 3, _ => exact ly_X6_3
  | 4, _ => exact ly_X6_4
  | 5, _ => exact ly_X6_5
  | 6, _ => exact ly_X6_6
  | 7, _ => exact ly_X6_7
  | 8, _ => exact ly_X6_8
  | k + 9, hk => omega
theorem ly_X7_0 : u_lay RX7 TX7 0 ∈ TB := tb_1 157 rfl rfl
theorem ly_X7_1 : u_lay RX7 TX7 1 ∈ TB := tb_1 159 rfl rfl
theorem ly_X7_2 : u_lay RX7 TX7 2 ∈ TB := tb_1 161 rfl rfl
theorem ly_X7_3 : u_lay RX7 TX7 3 ∈ TB := tb_1 163 rfl rfl
theorem inX7 : ∀ w ∈ wsX70, w ∈ TB := by
  intro w h
  obtain ⟨k, hk, rfl⟩ := List.mem_map.mp h
  have hk := List.mem_range.mp hk
  match k, hk with
  | 0, _ => exact ly_X7_0
  | 1, _ => exact ly_X7_1
  | 2, _ => exact ly_X7_2
  | 3, _ => exact ly_X7_3
  | k + 4, hk => omega
theorem ly_X8_0 : u_lay RX8 TX8 0 ∈ TB := tb_2 18 rfl rfl
theorem ly_X8_1 : u_lay RX8 TX8 1 ∈ TB := tb_2 20 rfl rfl
theorem ly_X8_2 : u_lay RX8 TX8 2 ∈ TB := tb_2 22 rfl rfl
theorem inX8 : ∀ w ∈ wsX80, w ∈ TB := by
  intro w h
  obtain ⟨k, hk, rfl⟩ := List.mem_map.mp h
  have hk := List.mem_range.mp hk
  match k, hk with
  | 0, _ => exact ly_X8_0
  | 1, _ => exact ly_X8_1
  | 2, _ => exact ly_X8_2
  | k + 3, hk => omega
theorem ly_X9_0 : u_lay RX9 TX9 0 ∈ TB := tb_4 57 rfl rfl
theorem ly_X9_1 : u_lay RX9 TX9 1 ∈ TB := tb_4 59 rfl rfl
theorem ly_X9_2 : u_lay RX9 TX9 2 ∈ TB := tb_4 61 rfl rfl
theorem ly_X9_3 : u_lay RX9 TX9 3 ∈ TB := tb_4 63 rfl rfl
theorem ly_X9_4 : u_lay RX9 TX9 4 ∈ TB := tb_4 65 rfl rfl
theorem ly_X9_5 : u_lay RX9 TX9 5 ∈ TB := tb_4 67 rfl rfl
theorem ly_X9_6 : u_lay RX9 TX9 6 ∈ TB := tb_4 69 rfl rfl
theorem ly_X9_7 : u_lay RX9 TX9 7 ∈ TB := tb_4 71 rfl rfl
theorem ly_X9_8 : u_lay RX9 TX9 8 ∈ TB := tb_4 73 rfl rfl
theorem ly_X9_9 : u_lay RX9 TX9 9 ∈ TB := tb_4 75 rfl rfl
theorem ly_X9_10 : u_lay RX9 TX9 10 ∈ TB := tb_4 77 rfl rfl
theorem ly_X9_11 : u_lay RX9 TX9 11 ∈ TB := tb_4 79 rfl rfl
theorem ly_X9_12 : u_lay RX9 TX9 12 ∈ TB := tb_4 81 rfl rfl
theorem ly_X9_13 : u_lay RX9 TX9 13 ∈ TB := tb_4 83 rfl rfl
theorem ly_X9_14 : u_lay RX9 TX9 14 ∈ TB := tb_4 85 rfl rfl
theorem ly_X9_15 : u_lay RX9 TX9 15 ∈ TB := tb_4 87 rfl rfl
theorem ly_X9_16 : u_lay RX9 TX9 16 ∈ TB := tb_4 89 rfl rfl
theorem ly_X9_17 : u_lay RX9 TX9 17 ∈ TB := tb_4 91 rfl rfl
theorem ly_X9_18 : u_lay RX9 TX9 18 ∈ TB := tb_4 93 rfl rfl
theorem ly_X9_19 : u_lay RX9 TX9 19 ∈ TB := tb_4 95 rfl rfl
theorem ly_X9_20 : u_lay RX9 TX9 20 ∈ TB := tb_4 97 rfl rfl
theorem ly_X9_21 : u_lay RX9 TX9 21 ∈ TB := tb_4 99 rfl rfl
theorem ly_X9_22 : u_lay RX9 TX9 22 ∈ TB := tb_4 101 rfl rfl
theorem ly_X9_23 : u_lay RX9 TX9 23 ∈ TB := tb_4 103 rfl rfl
theorem ly_X9_24 : u_lay RX9 TX9 24 ∈ TB := tb_4 105 rfl rfl
theorem ly_X9_25 : u_lay RX9 TX9 25 ∈ TB := tb_4 107 rfl rfl
theorem ly_X9_26 : u_lay RX9 TX9 26 ∈ TB := tb_4 109 rfl rfl
theorem ly_X9_27 : u_lay RX9 TX9 27 ∈ TB := tb_4 111 rfl rfl
theorem ly_X9_28 : u_lay RX9 TX9 28 ∈ TB := tb_4 113 rfl rfl
theorem ly_X9_29 : u_lay RX9 TX9 29 ∈ TB := tb_4 115 rfl rfl
theorem ly_X9_30 : u_lay RX9 TX9 30 ∈ TB := tb_4 117 rfl rfl
theorem ly_X9_31 : u_lay RX9 TX9 31 ∈ TB := tb_4 119 rfl rfl
theorem inX9 : ∀ w ∈ wsX90, w ∈ TB := by
  intro w h
  obtain ⟨k, hk, rfl⟩ := List.mem_map.mp h
  have hk := List.mem_range.mp hk
  match k, hk with
  | 0, _ => exact ly_X9_0
  | 1, _ => exact ly_X9_1
  | 2, _ => exact ly_X9_2
  | 3, _ => exact ly_X9_3
  | 4, _ => exact ly_X9_4
  | 5, _ => exact ly_X9_5
  | 6, _ => exact ly_X9_6
  | 7, _ => exact ly_X9_7
  | 8, _ => exact ly_X9_8
  | 9, _ => exact ly_X9_9
  | 10, _ => exact ly_X9_10
  | 11, _ => exact ly_X9_11
  | 12, _ => exact ly_X9_12
  | 13, _ => exact ly_X9_13
  | 14, _ => exact ly_X9_14
  | 15, _ => exact ly_X9_15
  | 16, _ => exact ly_X9_16
  | 17, _ => exact ly_X9_17
  | 18, _ => exact ly_X9_18
  | 19, _ => exact ly_X9_19
  | 20, _ => exact ly_X9_20
  | 21, _ => exact ly_X9_21
  | 22, _ => exact ly_X9_22
  | 23, _ => exact ly_X9_23
  | 24, _ => exact ly_X9_24
  | 25, _ => exact ly_X9_25
  | 26, _ => exact ly_X9_26
  | 27, _ => exact ly_X9_27
  | 28, _ => exact ly_X9_28
  | 29, _ => exact ly_X9_29
  | 30, _ => exact ly_X9_30
  | 31, _ => exact ly_X9_31
  | k + 32, hk => omega
end
section
theorem dX0_init_0 : decode cX0_init 0 = .ok (.aload_n 0, 1) := by decide +kernel
theorem dX0_init_1 : decode cX0_init 1 = .ok (.invokespecial 3, 3) := by decide +kernel
theorem dX0_init_4 : decode cX0_init 4 = .ok (.aload_n 0, 1) := by decide +kernel
theorem dX0_init_5 : decode cX0_init 5 = .ok (.aload_n 1, 1) := by decide +kernel
theorem dX0_init_6 : decode cX0_init 6 = .ok (.putfield 9, 3) := by decide +kernel
theorem dX0_init_9 : decode cX0_init 9 = .ok (.aload_n 0, 1) := by decide +kernel
theorem dX0_init_10 : decode cX0_init 10 = .ok (.bipush 16, 2) := by decide +kernel
theorem dX0_init_12 : decode cX0_init 12 = .ok (.newarray .int, 2) := by decide +kernel
theorem dX0_init_14 : decode cX0_init 14 = .ok (.putfield 15, 3) := by decide +kernel
theorem dX0_init_17 : decode cX0_init 17 = .ok (.aload_n 0, 1) := by decide +kernel
theorem dX0_init_18 : decode cX0_init 18 = .ok (.bipush 16, 2) := by decide +kernel
theorem dX0_init_20 : decode cX0_init 20 = .ok (.newarray .int, 2) := by decide +kernel
theorem dX0_init_22 : decode cX0_init 22 = .ok (.putfield 19, 3) := by decide +kernel
theorem dX0_init_25 : decode cX0_init 25 = .ok (.return_, 1) := by decide +kernel
theorem dX0_forget_0 : decode cX0_forget 0 = .ok (.aload_n 0, 1) := by decide +kernel
theorem dX0_forget_1 : decode cX0_forget 1 = .ok (.iconst 0, 1) := by decide +kernel
theorem dX0_forget_2 : decode cX0_forget 2 = .ok (.putfield 22, 3) := by decide +kernel
theorem dX0_forget_5 : decode cX0_forget 5 = .ok (.aload_n 0, 1) := by decide +kernel
theorem dX0_forget_6 : decode cX0_forget 6 = .ok (.iconst 0, 1) := by decide +kernel
theorem dX0_forget_7 : decode cX0_forget 7 = .ok (.putfield 26, 3) := by decide +kernel
theorem dX0_forget_10 : decode cX0_forget 10 = .ok (.aload_n 0, 1) := by decide +kernel
theorem dX0_forget_11 : decode cX0_forget 11 = .ok (.iconst 0, 1) := by decide +kernel
theorem dX0_forget_12 : decode cX0_forget 12 = .ok (.putfield 29, 3) := by decide +kernel
theorem dX0_forget_15 : decode cX0_forget 15 = .ok (.aload_n 0, 1) := by decide +kernel
theorem dX0_forget_16 : decode cX0_forget 16 = .ok (.iconst 0, 1) := by decide +kernel
theorem dX0_forget_17 : decode cX0_forget 17 = .ok (.putfield 32, 3) := by decide +kernel
theorem dX0_forget_20 : decode cX0_forget 20 = .ok (.aload_n 0, 1) := by decide +kernel
theorem dX0_forget_21 : decode cX0_forget 21 = .ok (.iconst (-1), 1) := by decide +kernel
theorem dX0_forget_22 : decode cX0_forget 22 = .ok (.putfield 35, 3) := by decide +kernel
theorem dX0_forget_25 : decode cX0_forget 25 = .ok (.return_, 1) := by decide +kernel
theorem dX0_gather_0 : decode cX0_gather 0 = .ok (.aload_n 0, 1) := by decide +kernel
theorem dX0_gather_1 : decode cX0_gather 1 = .ok (.invokevirtual 38, 3) := by decide +kernel
theorem dX0_gather_4 : decode cX0_gather 4 = .ok (.aload_n 0, 1) := by decide +kernel
theorem dX0_gather_5 : decode cX0_gather 5 = .ok (.aload_n 1, 1) := by decide +kernel
theorem dX0_gather_6 : decode cX0_gather 6 = .ok (.invokevirtual 41, 3) := by decide +kernel
theorem dX0_gather_9 : decode cX0_gather 9 = .ok (.putfield 47, 3) := by decide +kernel
theorem dX0_gather_12 : decode cX0_gather 12 = .ok (.aload_n 1, 1) := by decide +kernel
theorem dX0_gather_13 : decode cX0_gather 13 = .ok (.getfield 50, 3) := by decide +kernel
theorem dX0_gather_16 : decode cX0_gather 16 = .ok (.istore_n 3, 1) := by decide +kernel
theorem dX0_gather_17 : decode cX0_gather 17 = .ok (.aload_n 1, 1) := by decide +kernel
theorem dX0_gather_18 : decode cX0_gather 18 = .ok (.getfield 53, 3) := by decide +kernel
theorem dX0_gather_21 : decode cX0_gather 21 = .ok (.istore 4, 2) := by decide +kernel
theorem dX0_gather_23 : decode cX0_gather 23 = .ok (.aload_n 0, 1) := by decide +kernel
theorem dX0_gather_24 : decode cX0_gather 24 = .ok (.getfield 47, 3) := by decide +kernel
theorem dX0_gather_27 : decode cX0_gather 27 = .ok (.istore 5, 2) := by decide +kernel
theorem dX0_gather_29 : decode cX0_gather 29 = .ok (.iconst 0, 1) := by decide +kernel
theorem dX0_gather_30 : decode cX0_gather 30 = .ok (.istore 6, 2) := by decide +kernel
theorem dX0_gather_32 : decode cX0_gather 32 = .ok (.iconst 0, 1) := by decide +kernel
theorem dX0_gather_33 : decode cX0_gather 33 = .ok (.istore 7, 2) := by decide +kernel
theorem dX0_gather_35 : decode cX0_gather 35 = .ok (.iload 7, 2) := by decide +kernel
theorem dX0_gather_37 : decode cX0_gather 37 = .ok (.bipush 16, 2) := by decide +kernel
theorem dX0_gather_39 : decode cX0_gather 39 = .ok (.if_icmp .gt 157, 3) := by decide +kernel
theorem dX0_gather_42 : decode cX0_gather 42 = .ok (.iload 5, 2) := by decide +kernel
theorem dX0_gather_44 : decode cX0_gather 44 = .ok (.iload 4, 2) := by decide +kernel
theorem dX0_gather_46 : decode cX0_gather 46 = .ok (.if_icmp .lt 5, 3) := by decide +kernel
theorem dX0_gather_49 : decode cX0_gather 49 = .ok (.iconst 0, 1) := by decide +kernel
theorem dX0_gather_50 : decode cX0_gather 50 = .ok (.ireturn, 1) := by decide +kernel
theorem dX0_gather_51 : decode cX0_gather 51 = .ok (.iload_n 3, 1) := by decide +kernel
theorem dX0_gather_52 : decode cX0_gather 52 = .ok (.bipush 16, 2) := by decide +kernel
theorem dX0_gather_54 : decode cX0_gather 54 = .ok (.iload 5, 2) := by decide +kernel
theorem dX0_gather_56 : decode cX0_gather 56 = .ok (.imul, 1) := by decide +kernel
theorem dX0_gather_57 : decode cX0_gather 57 = .ok (.iadd, 1) := by decide +kernel
theorem dX0_gather_58 : decode cX0_gather 58 = .ok (.istore 8, 2) := by decide +kernel
theorem dX0_gather_60 : decode cX0_gather 60 = .ok (.aload_n 0, 1) := by decide +kernel
theorem dX0_gather_61 : decode cX0_gather 61 = .ok (.getfield 9, 3) := by decide +kernel
theorem dX0_gather_64 : decode cX0_gather 64 = .ok (.iload 8, 2) := by decide +kernel
theorem dX0_gather_66 : decode cX0_gather 66 = .ok (.bipush 12, 2) := by decide +kernel
theorem dX0_gather_68 : decode cX0_gather 68 = .ok (.iadd, 1) := by decide +kernel
theorem dX0_gather_69 : decode cX0_gather 69 = .ok (.invokevirtual 56, 3) := by decide +kernel
theorem dX0_gather_72 : decode cX0_gather 72 = .ok (.istore 9, 2) := by decide +kernel
theorem dX0_gather_74 : decode cX0_gather 74 = .ok (.iload 9, 2) := by decide +kernel
theorem dX0_gather_76 : decode cX0_gather 76 = .ok (.iconst 4, 1) := by decide +kernel
theorem dX0_gather_77 : decode cX0_gather 77 = .ok (.iand, 1) := by decide +kernel
theorem dX0_gather_78 : decode cX0_gather 78 = .ok (.ifCond .eq 66, 3) := by decide +kernel
theorem dX0_gather_81 : decode cX0_gather 81 = .ok (.iload_n 2, 1) := by decide +kernel
theorem dX0_gather_82 : decode cX0_gather 82 = .ok (.ifCond .eq 19, 3) := by decide +kernel
theorem dX0_gather_85 : decode cX0_gather 85 = .ok (.iload 6, 2) := by decide +kernel
theorem dX0_gather_87 : decode cX0_gather 87 = .ok (.ifCond .ne 14, 3) := by decide +kernel
theorem dX0_gather_90 : decode cX0_gather 90 = .ok (.aload_n 0, 1) := by decide +kernel
theorem dX0_gather_91 : decode cX0_gather 91 = .ok (.iload 8, 2) := by decide +kernel
theorem dX0_gather_93 : decode cX0_gather 93 = .ok (.iload 9, 2) := by decide +kernel
theorem dX0_gather_95 : decode cX0_gather 95 = .ok (.invokevirtual 62, 3) := by decide +kernel
theorem dX0_gather_98 : decode cX0_gather 98 = .ok (.ifCond .ne 5, 3) := by decide +kernel
theorem dX0_gather_101 : decode cX0_gather 101 = .ok (.iconst 0, 1) := by decide +kernel
theorem dX0_gather_102 : decode cX0_gather 102 = .ok (.ireturn, 1) := by decide +kernel
theorem dX0_gather_103 : decode cX0_gather 103 = .ok (.iconst 1, 1) := by decide +kernel
theorem dX0_gather_104 : decode cX0_gather 104 = .ok (.istore 6, 2) := by decide +kernel
theorem dX0_gather_106 : decode cX0_gather 106 = .ok (.aload_n 0, 1) := by decide +kernel
theorem dX0_gather_107 : decode cX0_gather 107 = .ok (.getfield 9, 3) := by decide +kernel
theorem dX0_gather_110 : decode cX0_gather 110 = .ok (.iload 8, 2) := by decide +kernel
theorem dX0_gather_112 : decode cX0_gather 112 = .ok (.bipush 8, 2) := by decide +kernel
theorem dX0_gather_114 : decode cX0_gather 114 = .ok (.invokevirtual 66, 3) := by decide +kernel
theorem dX0_gather_117 : decode cX0_gather 117 = .ok (.l2i, 1) := by decide +kernel
theorem dX0_gather_118 : decode cX0_gather 118 = .ok (.istore_n 3, 1) := by decide +kernel
theorem dX0_gather_119 : decode cX0_gather 119 = .ok (.aload_n 0, 1) := by decide +kernel
theorem dX0_gather_120 : decode cX0_gather 120 = .ok (.getfield 9, 3) := by decide +kernel
theorem dX0_gather_123 : decode cX0_gather 123 = .ok (.iload 8, 2) := by decide +kernel
theorem dX0_gather_125 : decode cX0_gather 125 = .ok (.bipush 8, 2) := by decide +kernel
theorem dX0_gather_127 : decode cX0_gather 127 = .ok (.iadd, 1) := by decide +kernel
theorem dX0_gather_128 : decode cX0_gather 128 = .ok (.iconst 4, 1) := by decide +kernel
theorem dX0_gather_129 : decode cX0_gather 129 = .ok (.invokevirtual 66, 3) := by decide +kernel
theorem dX0_gather_132 : decode cX0_gather 132 = .ok (.l2i, 1) := by decide +kernel
theorem dX0_gather_133 : decode cX0_gather 133 = .ok (.bipush 16, 2) := by decide +kernel
theorem dX0_gather_135 : decode cX0_gather 135 = .ok (.idiv, 1) := by decide +kernel
theorem dX0_gather_136 : decode cX0_gather 136 = .ok (.istore 4, 2) := by decide +kernel
theorem dX0_gather_138 : decode cX0_gather 138 = .ok (.iconst 0, 1) := by decide +kernel
theorem dX0_gather_139 : decode cX0_gather 139 = .ok (.istore 5, 2) := by decide +kernel
theorem dX0_gather_141 : decode cX0_gather 141 = .ok (.goto 49, 3) := by decide +kernel
theorem dX0_gather_144 : decode cX0_gather 144 = .ok (.aload_n 0, 1) := by decide +kernel
theorem dX0_gather_145 : decode cX0_gather 145 = .ok (.iload 8, 2) := by decide +kernel
theorem dX0_gather_147 : decode cX0_gather 147 = .ok (.iload 9, 2) := by decide +kernel
theorem dX0_gather_149 : decode cX0_gather 149 = .ok (.iconst 2, 1) := by decide +kernel
theorem dX0_gather_150 : decode cX0_gather 150 = .ok (.iand, 1) := by decide +kernel
theorem dX0_gather_151 : decode cX0_gather 151 = .ok (.ifCond .eq 7, 3) := by decide +kernel
theorem dX0_gather_154 : decode cX0_gather 154 = .ok (.iconst 1, 1) := by decide +kernel
theorem dX0_gather_155 : decode cX0_gather 155 = .ok (.goto 4, 3) := by decide +kernel
theorem dX0_gather_158 : decode cX0_gather 158 = .ok (.iconst 0, 1) := by decide +kernel
theorem dX0_gather_159 : decode cX0_gather 159 = .ok (.invokevirtual 70, 3) := by decide +kernel
theorem dX0_gather_162 : decode cX0_gather 162 = .ok (.ifCond .ne 5, 3) := by decide +kernel
theorem dX0_gather_165 : decode cX0_gather 165 = .ok (.iconst 0, 1) := by decide +kernel
theorem dX0_gather_166 : decode cX0_gather 166 = .ok (.ireturn, 1) := by decide +kernel
theorem dX0_gather_167 : decode cX0_gather 167 = .ok (.iload 9, 2) := by decide +kernel
theorem dX0_gather_169 : decode cX0_gather 169 = .ok (.iconst 1, 1) := by decide +kernel
theorem dX0_gather_170 : decode cX0_gather 170 = .ok (.iand, 1) := by decide +kernel
theorem dX0_gather_171 : decode cX0_gather 171 = .ok (.ifCond .ne 5, 3) := by decide +kernel
theorem dX0_gather_174 : decode cX0_gather 174 = .ok (.iconst 1, 1) := by decide +kernel
theorem dX0_gather_175 : decode cX0_gather 175 = .ok (.ireturn, 1) := by decide +kernel
theorem dX0_gather_176 : decode cX0_gather 176 = .ok (.aload_n 0, 1) := by decide +kernel
theorem dX0_gather_177 : decode cX0_gather 177 = .ok (.getfield 9, 3) := by decide +kernel
theorem dX0_gather_180 : decode cX0_gather 180 = .ok (.iload 8, 2) := by decide +kernel
theorem dX0_gather_182 : decode cX0_gather 182 = .ok (.bipush 14, 2) := by decide +kernel
theorem dX0_gather_184 : decode cX0_gather 184 = .ok (.iadd, 1) := by decide +kernel
theorem dX0_gather_185 : decode cX0_gather 185 = .ok (.invokevirtual 56, 3) := by decide +kernel
theorem dX0_gather_188 : decode cX0_gather 188 = .ok (.istore 5, 2) := by decide +kernel
theorem dX0_gather_190 : decode cX0_gather 190 = .ok (.iinc 7 1, 3) := by decide +kernel
theorem dX0_gather_193 : decode cX0_gather 193 = .ok (.goto (-158), 3) := by decide +kernel
theorem dX0_gather_196 : decode cX0_gather 196 = .ok (.iconst 0, 1) := by decide +kernel
theorem dX0_gather_197 : decode cX0_gather 197 = .ok (.ireturn, 1) := by decide +kernel
theorem dX0_isTable_0 : decode cX0_isTable 0 = .ok (.aload_n 0, 1) := by decide +kernel
theorem dX0_isTable_1 : decode cX0_isTable 1 = .ok (.getfield 9, 3) := by decide +kernel
theorem dX0_isTable_4 : decode cX0_isTable 4 = .ok (.iload_n 1, 1) := by decide +kernel
theorem dX0_isTable_5 : decode cX0_isTable 5 = .ok (.bipush 8, 2) := by decide +kernel
theorem dX0_isTable_7 : decode cX0_isTable 7 = .ok (.iadd, 1) := by decide +kernel
theorem dX0_isTable_8 : decode cX0_isTable 8 = .ok (.iconst 4, 1) := by decide +kernel
theorem dX0_isTable_9 : decode cX0_isTable 9 = .ok (.invokevirtual 66, 3) := by decide +kernel
theorem dX0_isTable_12 : decode cX0_isTable 12 = .ok (.lstore_n 3, 1) := by decide +kernel
theorem dX0_isTable_13 : decode cX0_isTable 13 = .ok (.aload_n 0, 1) := by decide +kernel
theorem dX0_isTable_14 : decode cX0_isTable 14 = .ok (.getfield 22, 3) := by decide +kernel
theorem dX0_isTable_17 : decode cX0_isTable 17 = .ok (.bipush 16, 2) := by decide +kernel
theorem dX0_isTable_19 : decode cX0_isTable 19 = .ok (.if_icmp .ge 54, 3) := by decide +kernel
theorem dX0_isTable_22 : decode cX0_isTable 22 = .ok (.iload_n 2, 1) := by decide +kernel
theorem dX0_isTable_23 : decode cX0_isTable 23 = .ok (.iconst 1, 1) := by decide +kernel
theorem dX0_isTable_24 : decode cX0_isTable 24 = .ok (.iand, 1) := by decide +kernel
theorem dX0_isTable_25 : decode cX0_isTable 25 = .ok (.ifCond .ne 48, 3) := by decide +kernel
theorem dX0_isTable_28 : decode cX0_isTable 28 = .ok (.lload_n 3, 1) := by decide +kernel
theorem dX0_isTable_29 : decode cX0_isTable 29 = .ok (.lconst 0, 1) := by decide +kernel
theorem dX0_isTable_30 : decode cX0_isTable 30 = .ok (.lcmp, 1) := by decide +kernel
theorem dX0_isTable_31 : decode cX0_isTable 31 = .ok (.ifCond .le 42, 3) := by decide +kernel
theorem dX0_isTable_34 : decode cX0_isTable 34 = .ok (.lload_n 3, 1) := by decide +kernel
theorem dX0_isTable_35 : decode cX0_isTable 35 = .ok (.ldc2_w 74, 3) := by decide +kernel
theorem dX0_isTable_38 : decode cX0_isTable 38 = .ok (.lcmp, 1) := by decide +kernel
theorem dX0_isTable_39 : decode cX0_isTable 39 = .ok (.ifCond .gt 34, 3) := by decide +kernel
theorem dX0_isTable_42 : decode cX0_isTable 42 = .ok (.lload_n 3, 1) := by decide +kernel
theorem dX0_isTable_43 : decode cX0_isTable 43 = .ok (.ldc2_w 76, 3) := by decide +kernel
theorem dX0_isTable_46 : decode cX0_isTable 46 = .ok (.lrem, 1) := by decide +kernel
theorem dX0_isTable_47 : decode cX0_isTable 47 = .ok (.lconst 0, 1) := by decide +kernel
theorem dX0_isTable_48 : decode cX0_isTable 48 = .ok (.lcmp, 1) := by decide +kernel
theorem dX0_isTable_49 : decode cX0_isTable 49 = .ok (.ifCond .ne 24, 3) := by decide +kernel
theorem dX0_isTable_52 : decode cX0_isTable 52 = .ok (.aload_n 0, 1) := by decide +kernel
theorem dX0_isTable_53 : decode cX0_isTable 53 = .ok (.getfield 9, 3) := by decide +kernel
theorem dX0_isTable_56 : decode cX0_isTable 56 = .ok (.iload_n 1, 1) := by decide +kernel
theorem dX0_isTable_57 : decode cX0_isTable 57 = .ok (.bipush 8, 2) := by decide +kernel
theorem dX0_isTable_59 : decode cX0_isTable 59 = .ok (.invokevirtual 66, 3) := by decide +kernel
theorem dX0_isTable_62 : decode cX0_isTable 62 = .ok (.lload_n 3, 1) := by decide +kernel
theorem dX0_isTable_63 : decode cX0_isTable 63 = .ok (.invokestatic 78, 3) := by decide +kernel
theorem dX0_isTable_66 : decode cX0_isTable 66 = .ok (.ifCond .eq 7, 3) := by decide +kernel
theorem dX0_isTable_69 : decode cX0_isTable 69 = .ok (.iconst 1, 1) := by decide +kernel
theorem dX0_isTable_70 : decode cX0_isTable 70 = .ok (.goto 4, 3) := by decide +kernel
theorem dX0_isTable_73 : decode cX0_isTable 73 = .ok (.iconst 0, 1) := by decide +kernel
theorem dX0_isTable_74 : decode cX0_isTable 74 = .ok (.ireturn, 1) := by decide +kernel
theorem dX0_addPart_0 : decode cX0_addPart 0 = .ok (.aload_n 0, 1) := by decide +kernel
theorem dX0_addPart_1 : decode cX0_addPart 1 = .ok (.getfield 9, 3) := by decide +kernel
theorem dX0_addPart_4 : decode cX0_addPart 4 = .ok (.iload_n 1, 1) := by decide +kernel
theorem dX0_addPart_5 : decode cX0_addPart 5 = .ok (.bipush 8, 2) := by decide +kernel
theorem dX0_addPart_7 : decode cX0_addPart 7 = .ok (.invokevirtual 66, 3) := by decide +kernel
theorem dX0_addPart_10 : decode cX0_addPart 10 = .ok (.lstore_n 3, 1) := by decide +kernel
theorem dX0_addPart_11 : decode cX0_addPart 11 = .ok (.aload_n 0, 1) := by decide +kernel
theorem dX0_addPart_12 : decode cX0_addPart 12 = .ok (.getfield 9, 3) := by decide +kernel
theorem dX0_addPart_15 : decode cX0_addPart 15 = .ok (.iload_n 1, 1) := by decide +kernel
theorem dX0_addPart_16 : decode cX0_addPart 16 = .ok (.bipush 8, 2) := by decide +kernel
theorem dX0_addPart_18 : decode cX0_addPart 18 = .ok (.iadd, 1) := by decide +kernel
theorem dX0_addPart_19 : decode cX0_addPart 19 = .ok (.iconst 4, 1) := by decide +kernel
theorem dX0_addPart_20 : decode cX0_addPart 20 = .ok (.invokevirtual 66, 3) := by decide +kernel
theorem dX0_addPart_23 : decode cX0_addPart 23 = .ok (.lstore 5, 2) := by decide +kernel
theorem dX0_addPart_25 : decode cX0_addPart 25 = .ok (.aload_n 0, 1) := by decide +kernel
theorem dX0_addPart_26 : decode cX0_addPart 26 = .ok (.getfield 22, 3) := by decide +kernel
theorem dX0_addPart_29 : decode cX0_addPart 29 = .ok (.bipush 16, 2) := by decide +kernel
theorem dX0_addPart_31 : decode cX0_addPart 31 = .ok (.if_icmp .ge 19, 3) := by decide +kernel
theorem dX0_addPart_34 : decode cX0_addPart 34 = .ok (.lload 5, 2) := by decide +kernel
theorem dX0_addPart_36 : decode cX0_addPart 36 = .ok (.lconst 0, 1) := by decide +kernel
theorem dX0_addPart_37 : decode cX0_addPart 37 = .ok (.lcmp, 1) := by decide +kernel
theorem dX0_addPart_38 : decode cX0_addPart 38 = .ok (.ifCond .le 14, 3) := by decide +kernel
theorem dX0_addPart_41 : decode cX0_addPart 41 = .ok (.lload_n 3, 1) := by decide +kernel
theorem dX0_addPart_42 : decode cX0_addPart 42 = .ok (.lload 5, 2) := by decide +kernel
theorem dX0_addPart_44 : decode cX0_addPart 44 = .ok (.invokestatic 78, 3) := by decide +kernel
theorem dX0_addPart_47 : decode cX0_addPart 47 = .ok (.ifCond .ne 5, 3) := by decide +kernel
theorem dX0_addPart_50 : decode cX0_addPart 50 = .ok (.iconst 0, 1) := by decide +kernel
theorem dX0_addPart_51 : decode cX0_addPart 51 = .ok (.ireturn, 1) := by decide +kernel
theorem dX0_addPart_52 : decode cX0_addPart 52 = .ok (.iload_n 2, 1) := by decide +kernel
theorem dX0_addPart_53 : decode cX0_addPart 53 = .ok (.ifCond .ne 16, 3) := by decide +kernel
theorem dX0_addPart_56 : decode cX0_addPart 56 = .ok (.aload_n 0, 1) := by decide +kernel
theorem dX0_addPart_57 : decode cX0_addPart 57 = .ok (.getfield 26, 3) := by decide +kernel
theorem dX0_addPart_60 : decode cX0_addPart 60 = .ok (.aload_n 0, 1) := by decide +kernel
theorem dX0_addPart_61 : decode cX0_addPart 61 = .ok (.getfield 22, 3) := by decide +kernel
theorem dX0_addPart_64 : decode cX0_addPart 64 = .ok (.if_icmp .ge 5, 3) := by decide +kernel
theorem dX0_addPart_67 : decode cX0_addPart 67 = .ok (.iconst 0, 1) := by decide +kernel
theorem dX0_addPart_68 : decode cX0_addPart 68 = .ok (.ireturn, 1) := by decide +kernel
theorem dX0_addPart_69 : decode cX0_addPart 69 = .ok (.aload_n 0, 1) := by decide +kernel
theorem dX0_addPart_70 : decode cX0_addPart 70 = .ok (.getfield 15, 3) := by decide +kernel
theorem dX0_addPart_73 : decode cX0_addPart 73 = .ok (.aload_n 0, 1) := by decide +kernel
theorem dX0_addPart_74 : decode cX0_addPart 74 = .ok (.getfield 22, 3) := by decide +kernel
theorem dX0_addPart_77 : decode cX0_addPart 77 = .ok (.lload_n 3, 1) := by decide +kernel
theorem dX0_addPart_78 : decode cX0_addPart 78 = .ok (.l2i, 1) := by decide +kernel
theorem dX0_addPart_79 : decode cX0_addPart 79 = .ok (.iastore, 1) := by decide +kernel
theorem dX0_addPart_80 : decode cX0_addPart 80 = .ok (.aload_n 0, 1) := by decide +kernel
theorem dX0_addPart_81 : decode cX0_addPart 81 = .ok (.getfield 19, 3) := by decide +kernel
theorem dX0_addPart_84 : decode cX0_addPart 84 = .ok (.aload_n 0, 1) := by decide +kernel
theorem dX0_addPart_85 : decode cX0_addPart 85 = .ok (.getfield 22, 3) := by decide +kernel
theorem dX0_addPart_88 : decode cX0_addPart 88 = .ok (.lload 5, 2) := by decide +kernel
theorem dX0_addPart_90 : decode cX0_addPart 90 = .ok (.l2i, 1) := by decide +kernel
theorem dX0_addPart_91 : decode cX0_addPart 91 = .ok (.iastore, 1) := by decide +kernel
theorem dX0_addPart_92 : decode cX0_addPart 92 = .ok (.aload_n 0, 1) := by decide +kernel
theorem dX0_addPart_93 : decode cX0_addPart 93 = .ok (.dup, 1) := by decide +kernel
theorem dX0_addPart_94 : decode cX0_addPart 94 = .ok (.getfield 22, 3) := by decide +kernel
theorem dX0_addPart_97 : decode cX0_addPart 97 = .ok (.iconst 1, 1) := by decide +kernel
theorem dX0_addPart_98 : decode cX0_addPart 98 = .ok (.iadd, 1) := by decide +kernel
theorem dX0_addPart_99 : decode cX0_addPart 99 = .ok (.putfield 22, 3) := by decide +kernel
theorem dX0_addPart_102 : decode cX0_addPart 102 = .ok (.iload_n 2, 1) := by decide +kernel
theorem dX0_addPart_103 : decode cX0_addPart 103 = .ok (.ifCond .ne 26, 3) := by decide +kernel
theorem dX0_addPart_106 : decode cX0_addPart 106 = .ok (.aload_n 0, 1) := by decide +kernel
theorem dX0_addPart_107 : decode cX0_addPart 107 = .ok (.aload_n 0, 1) := by decide +kernel
theorem dX0_addPart_108 : decode cX0_addPart 108 = .ok (.getfield 22, 3) := by decide +kernel
theorem dX0_addPart_111 : decode cX0_addPart 111 = .ok (.putfield 26, 3) := by decide +kernel
theorem dX0_addPart_114 : decode cX0_addPart 114 = .ok (.aload_n 0, 1) := by decide +kernel
theorem dX0_addPart_115 : decode cX0_addPart 115 = .ok (.dup, 1) := by decide +kernel
theorem dX0_addPart_116 : decode cX0_addPart 116 = .ok (.getfield 29, 3) := by decide +kernel
theorem dX0_addPart_119 : decode cX0_addPart 119 = .ok (.lload 5, 2) := by decide +kernel
theorem dX0_addPart_121 : decode cX0_addPart 121 = .ok (.l2i, 1) := by decide +kernel
theorem dX0_addPart_122 : decode cX0_addPart 122 = .ok (.iadd, 1) := by decide +kernel
theorem dX0_addPart_123 : decode cX0_addPart 123 = .ok (.putfield 29, 3) := by decide +kernel
theorem dX0_addPart_126 : decode cX0_addPart 126 = .ok (.goto 33, 3) := by decide +kernel
theorem dX0_addPart_129 : decode cX0_addPart 129 = .ok (.lload 5, 2) := by decide +kernel
theorem dX0_addPart_131 : decode cX0_addPart 131 = .ok (.lconst 0, 1) := by decide +kernel
theorem dX0_addPart_132 : decode cX0_addPart 132 = .ok (.lcmp, 1) := by decide +kernel
theorem dX0_addPart_133 : decode cX0_addPart 133 = .ok (.ifCond .le 26, 3) := by decide +kernel
theorem dX0_addPart_136 : decode cX0_addPart 136 = .ok (.aload_n 0, 1) := by decide +kernel
theorem dX0_addPart_137 : decode cX0_addPart 137 = .ok (.dup, 1) := by decide +kernel
theorem dX0_addPart_138 : decode cX0_addPart 138 = .ok (.getfield 32, 3) := by decide +kernel
theorem dX0_addPart_141 : decode cX0_addPart 141 = .ok (.lload 5, 2) := by decide +kernel
theorem dX0_addPart_143 : decode cX0_addPart 143 = .ok (.l2i, 1) := by decide +kernel
theorem dX0_addPart_144 : decode cX0_addPart 144 = .ok (.iadd, 1) := by decide +kernel
theorem dX0_addPart_145 : decode cX0_addPart 145 = .ok (.putfield 32, 3) := by decide +kernel
theorem dX0_addPart_148 : decode cX0_addPart 148 = .ok (.aload_n 0, 1) := by decide +kernel
theorem dX0_addPart_149 : decode cX0_addPart 149 = .ok (.lload_n 3, 1) := by decide +kernel
theorem dX0_addPart_150 : decode cX0_addPart 150 = .ok (.lload 5, 2) := by decide +kernel
theorem dX0_addPart_152 : decode cX0_addPart 152 = .ok (.ladd, 1) := by decide +kernel
theorem dX0_addPart_153 : decode cX0_addPart 153 = .ok (.l2i, 1) := by decide +kernel
theorem dX0_addPart_154 : decode cX0_addPart 154 = .ok (.iconst 1, 1) := by decide +kernel
theorem dX0_addPart_155 : decode cX0_addPart 155 = .ok (.isub, 1) := by decide +kernel
theorem dX0_addPart_156 : decode cX0_addPart 156 = .ok (.putfield 35, 3) := by decide +kernel
theorem dX0_addPart_159 : decode cX0_addPart 159 = .ok (.iconst 1, 1) := by decide +kernel
theorem dX0_addPart_160 : decode cX0_addPart 160 = .ok (.ireturn, 1) := by decide +kernel
theorem dX0_toReads_0 : decode cX0_toReads 0 = .ok (.aload_n 0, 1) := by decide +kernel
theorem dX0_toReads_1 : decode cX0_toReads 1 = .ok (.iconst 0, 1) := by decide +kernel
theorem dX0_toReads_2 : decode cX0_toReads 2 = .ok (.putfield 82, 3) := by decide +kernel
theorem dX0_toReads_5 : decode cX0_toReads 5 = .ok (.aload_n 0, 1) := by decide +kernel
theorem dX0_toReads_6 : decode cX0_toReads 6 = .ok (.iconst 0, 1) := by decide +kernel
theorem dX0_toReads_7 : decode cX0_toReads 7 = .ok (.putfield 85, 3) := by decide +kernel
theorem dX0_toReads_10 : decode cX0_toReads 10 = .ok (.aload_n 0, 1) := by decide +kernel
theorem dX0_toReads_11 : decode cX0_toReads 11 = .ok (.aload_n 0, 1) := by decide +kernel
theorem dX0_toReads_12 : decode cX0_toReads 12 = .ok (.getfield 26, 3) := by decide +kernel
theorem dX0_toReads_15 : decode cX0_toReads 15 = .ok (.putfield 88, 3) := by decide +kernel
theorem dX0_toReads_18 : decode cX0_toReads 18 = .ok (.return_, 1) := by decide +kernel
theorem dX0_toWrites_0 : decode cX0_toWrites 0 = .ok (.aload_n 0, 1) := by decide +kernel
theorem dX0_toWrites_1 : decode cX0_toWrites 1 = .ok (.aload_n 0, 1) := by decide +kernel
theorem dX0_toWrites_2 : decode cX0_toWrites 2 = .ok (.getfield 26, 3) := by decide +kernel
theorem dX0_toWrites_5 : decode cX0_toWrites 5 = .ok (.putfield 82, 3) := by decide +kernel
theorem dX0_toWrites_8 : decode cX0_toWrites 8 = .ok (.aload_n 0, 1) := by decide +kernel
theorem dX0_toWrites_9 : decode cX0_toWrites 9 = .ok (.iconst 0, 1) := by decide +kernel
theorem dX0_toWrites_10 : decode cX0_toWrites 10 = .ok (.putfield 85, 3) := by decide +kernel
theorem dX0_toWrites_13 : decode cX0_toWrites 13 = .ok (.aload_n 0, 1) := by decide +kernel
theorem dX0_toWrites_14 : decode cX0_toWrites 14 = .ok (.aload_n 0, 1) := by decide +kernel
theorem dX0_toWrites_15 : decode cX0_toWrites 15 = .ok (.getfield 22, 3) := by decide +kernel
theorem dX0_toWrites_18 : decode cX0_toWrites 18 = .ok (.putfield 88, 3) := by decide +kernel
theorem dX0_toWrites_21 : decode cX0_toWrites 21 = .ok (.return_, 1) := by decide +kernel
theorem dX0_nextByte_0 : decode cX0_nextByte 0 = .ok (.aload_n 0, 1) := by decide +kernel
theorem dX0_nextByte_1 : decode cX0_nextByte 1 = .ok (.getfield 9, 3) := by decide +kernel
theorem dX0_nextByte_4 : decode cX0_nextByte 4 = .ok (.aload_n 0, 1) := by decide +kernel
theorem dX0_nextByte_5 : decode cX0_nextByte 5 = .ok (.invokevirtual 91, 3) := by decide +kernel
theorem dX0_nextByte_8 : decode cX0_nextByte 8 = .ok (.invokevirtual 94, 3) := by decide +kernel
theorem dX0_nextByte_11 : decode cX0_nextByte 11 = .ok (.ireturn, 1) := by decide +kernel
theorem dX0_nextNumber_0 : decode cX0_nextNumber 0 = .ok (.lconst 0, 1) := by decide +kernel
theorem dX0_nextNumber_1 : decode cX0_nextNumber 1 = .ok (.lstore_n 2, 1) := by decide +kernel
theorem dX0_nextNumber_2 : decode cX0_nextNumber 2 = .ok (.iconst 0, 1) := by decide +kernel
theorem dX0_nextNumber_3 : decode cX0_nextNumber 3 = .ok (.istore 4, 2) := by decide +kernel
theorem dX0_nextNumber_5 : decode cX0_nextNumber 5 = .ok (.iload 4, 2) := by decide +kernel
theorem dX0_nextNumber_7 : decode cX0_nextNumber 7 = .ok (.iload_n 1, 1) := by decide +kernel
theorem dX0_nextNumber_8 : decode cX0_nextNumber 8 = .ok (.if_icmp .ge 23, 3) := by decide +kernel
theorem dX0_nextNumber_11 : decode cX0_nextNumber 11 = .ok (.lload_n 2, 1) := by decide +kernel
theorem dX0_nextNumber_12 : decode cX0_nextNumber 12 = .ok (.aload_n 0, 1) := by decide +kernel
theorem dX0_nextNumber_13 : decode cX0_nextNumber 13 = .ok (.invokevirtual 97, 3) := by decide +kernel
theorem dX0_nextNumber_16 : decode cX0_nextNumber 16 = .ok (.i2l, 1) := by decide +kernel
theorem dX0_nextNumber_17 : decode cX0_nextNumber 17 = .ok (.bipush 8, 2) := by decide +kernel
theorem dX0_nextNumber_19 : decode cX0_nextNumber 19 = .ok (.iload 4, 2) := by decide +kernel
theorem dX0_nextNumber_21 : decode cX0_nextNumber 21 = .ok (.imul, 1) := by decide +kernel
theorem dX0_nextNumber_22 : decode cX0_nextNumber 22 = .ok (.lshl, 1) := by decide +kernel
theorem dX0_nextNumber_23 : decode cX0_nextNumber 23 = .ok (.lor, 1) := by decide +kernel
theorem dX0_nextNumber_24 : decode cX0_nextNumber 24 = .ok (.lstore_n 2, 1) := by decide +kernel
theorem dX0_nextNumber_25 : decode cX0_nextNumber 25 = .ok (.iinc 4 1, 3) := by decide +kernel
theorem dX0_nextNumber_28 : decode cX0_nextNumber 28 = .ok (.goto (-23), 3) := by decide +kernel
theorem dX0_nextNumber_31 : decode cX0_nextNumber 31 = .ok (.lload_n 2, 1) := by decide +kernel
theorem dX0_nextNumber_32 : decode cX0_nextNumber 32 = .ok (.lreturn, 1) := by decide +kernel
theorem dX0_skip_0 : decode cX0_skip 0 = .ok (.iconst 0, 1) := by decide +kernel
theorem dX0_skip_1 : decode cX0_skip 1 = .ok (.istore_n 2, 1) := by decide +kernel
theorem dX0_skip_2 : decode cX0_skip 2 = .ok (.iload_n 2, 1) := by decide +kernel
theorem dX0_skip_3 : decode cX0_skip 3 = .ok (.iload_n 1, 1) := by decide +kernel
theorem dX0_skip_4 : decode cX0_skip 4 = .ok (.if_icmp .ge 14, 3) := by decide +kernel
theorem dX0_skip_7 : decode cX0_skip 7 = .ok (.aload_n 0, 1) := by decide +kernel
theorem dX0_skip_8 : decode cX0_skip 8 = .ok (.invokevirtual 91, 3) := by decide +kernel
theorem dX0_skip_11 : decode cX0_skip 11 = .ok (.pop, 1) := by decide +kernel
theorem dX0_skip_12 : decode cX0_skip 12 = .ok (.iinc 2 1, 3) := by decide +kernel
theorem dX0_skip_15 : decode cX0_skip 15 = .ok (.goto (-13), 3) := by decide +kernel
theorem dX0_skip_18 : decode cX0_skip 18 = .ok (.return_, 1) := by decide +kernel
theorem dX0_putByte_0 : decode cX0_putByte 0 = .ok (.aload_n 0, 1) := by decide +kernel
theorem dX0_putByte_1 : decode cX0_putByte 1 = .ok (.getfield 9, 3) := by decide +kernel
theorem dX0_putByte_4 : decode cX0_putByte 4 = .ok (.aload_n 0, 1) := by decide +kernel
theorem dX0_putByte_5 : decode cX0_putByte 5 = .ok (.invokevirtual 91, 3) := by decide +kernel
theorem dX0_putByte_8 : decode cX0_putByte 8 = .ok (.iload_n 1, 1) := by decide +kernel
theorem dX0_putByte_9 : decode cX0_putByte 9 = .ok (.invokevirtual 100, 3) := by decide +kernel
theorem dX0_putByte_12 : decode cX0_putByte 12 = .ok (.return_, 1) := by decide +kernel
theorem dX0_putLast_0 : decode cX0_putLast 0 = .ok (.aload_n 0, 1) := by decide +kernel
theorem dX0_putLast_1 : decode cX0_putLast 1 = .ok (.getfield 9, 3) := by decide +kernel
theorem dX0_putLast_4 : decode cX0_putLast 4 = .ok (.aload_n 0, 1) := by decide +kernel
theorem dX0_putLast_5 : decode cX0_putLast 5 = .ok (.getfield 35, 3) := by decide +kernel
theorem dX0_putLast_8 : decode cX0_putLast 8 = .ok (.iload_n 1, 1) := by decide +kernel
theorem dX0_putLast_9 : decode cX0_putLast 9 = .ok (.invokevirtual 100, 3) := by decide +kernel
theorem dX0_putLast_12 : decode cX0_putLast 12 = .ok (.return_, 1) := by decide +kernel
theorem dX0_nextPlace_0 : decode cX0_nextPlace 0 = .ok (.aload_n 0, 1) := by decide +kernel
theorem dX0_nextPlace_1 : decode cX0_nextPlace 1 = .ok (.getfield 82, 3) := by decide +kernel
theorem dX0_nextPlace_4 : decode cX0_nextPlace 4 = .ok (.aload_n 0, 1) := by decide +kernel
theorem dX0_nextPlace_5 : decode cX0_nextPlace 5 = .ok (.getfield 88, 3) := by decide +kernel
theorem dX0_nextPlace_8 : decode cX0_nextPlace 8 = .ok (.if_icmp .ge 73, 3) := by decide +kernel
theorem dX0_nextPlace_11 : decode cX0_nextPlace 11 = .ok (.aload_n 0, 1) := by decide +kernel
theorem dX0_nextPlace_12 : decode cX0_nextPlace 12 = .ok (.getfield 82, 3) := by decide +kernel
theorem dX0_nextPlace_15 : decode cX0_nextPlace 15 = .ok (.bipush 16, 2) := by decide +kernel
theorem dX0_nextPlace_17 : decode cX0_nextPlace 17 = .ok (.if_icmp .ge 64, 3) := by decide +kernel
theorem dX0_nextPlace_20 : decode cX0_nextPlace 20 = .ok (.aload_n 0, 1) := by decide +kernel
theorem dX0_nextPlace_21 : decode cX0_nextPlace 21 = .ok (.getfield 85, 3) := by decide +kernel
theorem dX0_nextPlace_24 : decode cX0_nextPlace 24 = .ok (.aload_n 0, 1) := by decide +kernel
theorem dX0_nextPlace_25 : decode cX0_nextPlace 25 = .ok (.getfield 19, 3) := by decide +kernel
theorem dX0_nextPlace_28 : decode cX0_nextPlace 28 = .ok (.aload_n 0, 1) := by decide +kernel
theorem dX0_nextPlace_29 : decode cX0_nextPlace 29 = .ok (.getfield 82, 3) := by decide +kernel
theorem dX0_nextPlace_32 : decode cX0_nextPlace 32 = .ok (.iaload, 1) := by decide +kernel
theorem dX0_nextPlace_33 : decode cX0_nextPlace 33 = .ok (.if_icmp .ge 30, 3) := by decide +kernel
theorem dX0_nextPlace_36 : decode cX0_nextPlace 36 = .ok (.aload_n 0, 1) := by decide +kernel
theorem dX0_nextPlace_37 : decode cX0_nextPlace 37 = .ok (.dup, 1) := by decide +kernel
theorem dX0_nextPlace_38 : decode cX0_nextPlace 38 = .ok (.getfield 85, 3) := by decide +kernel
theorem dX0_nextPlace_41 : decode cX0_nextPlace 41 = .ok (.iconst 1, 1) := by decide +kernel
theorem dX0_nextPlace_42 : decode cX0_nextPlace 42 = .ok (.iadd, 1) := by decide +kernel
theorem dX0_nextPlace_43 : decode cX0_nextPlace 43 = .ok (.putfield 85, 3) := by decide +kernel
theorem dX0_nextPlace_46 : decode cX0_nextPlace 46 = .ok (.aload_n 0, 1) := by decide +kernel
theorem dX0_nextPlace_47 : decode cX0_nextPlace 47 = .ok (.getfield 15, 3) := by decide +kernel
theorem dX0_nextPlace_50 : decode cX0_nextPlace 50 = .ok (.aload_n 0, 1) := by decide +kernel
theorem dX0_nextPlace_51 : decode cX0_nextPlace 51 = .ok (.getfield 82, 3) := by decide +kernel
theorem dX0_nextPlace_54 : decode cX0_nextPlace 54 = .ok (.iaload, 1) := by decide +kernel
theorem dX0_nextPlace_55 : decode cX0_nextPlace 55 = .ok (.aload_n 0, 1) := by decide +kernel
theorem dX0_nextPlace_56 : decode cX0_nextPlace 56 = .ok (.getfield 85, 3) := by decide +kernel
theorem dX0_nextPlace_59 : decode cX0_nextPlace 59 = .ok (.iadd, 1) := by decide +kernel
theorem dX0_nextPlace_60 : decode cX0_nextPlace 60 = .ok (.iconst 1, 1) := by decide +kernel
theorem dX0_nextPlace_61 : decode cX0_nextPlace 61 = .ok (.isub, 1) := by decide +kernel
theorem dX0_nextPlace_62 : decode cX0_nextPlace 62 = .ok (.ireturn, 1) := by decide +kernel
theorem dX0_nextPlace_63 : decode cX0_nextPlace 63 = .ok (.aload_n 0, 1) := by decide +kernel
theorem dX0_nextPlace_64 : decode cX0_nextPlace 64 = .ok (.dup, 1) := by decide +kernel
theorem dX0_nextPlace_65 : decode cX0_nextPlace 65 = .ok (.getfield 82, 3) := by decide +kernel
theorem dX0_nextPlace_68 : decode cX0_nextPlace 68 = .ok (.iconst 1, 1) := by decide +kernel
theorem dX0_nextPlace_69 : decode cX0_nextPlace 69 = .ok (.iadd, 1) := by decide +kernel
theorem dX0_nextPlace_70 : decode cX0_nextPlace 70 = .ok (.putfield 82, 3) := by decide +kernel
theorem dX0_nextPlace_73 : decode cX0_nextPlace 73 = .ok (.aload_n 0, 1) := by decide +kernel
theorem dX0_nextPlace_74 : decode cX0_nextPlace 74 = .ok (.iconst 0, 1) := by decide +kernel
theorem dX0_nextPlace_75 : decode cX0_nextPlace 75 = .ok (.putfield 85, 3) := by decide +kernel
theorem dX0_nextPlace_78 : decode cX0_nextPlace 78 = .ok (.goto (-78), 3) := by decide +kernel
theorem dX0_nextPlace_81 : decode cX0_nextPlace 81 = .ok (.iconst (-1), 1) := by decide +kernel
theorem dX0_nextPlace_82 : decode cX0_nextPlace 82 = .ok (.ireturn, 1) := by decide +kernel
theorem dX1_init_0 : decode cX1_init 0 = .ok (.aload_n 0, 1) := by decide +kernel
theorem dX1_init_1 : decode cX1_init 1 = .ok (.invokespecial 3, 3) := by decide +kernel
theorem dX1_init_4 : decode cX1_init 4 = .ok (.aload_n 0, 1) := by decide +kernel
theorem dX1_init_5 : decode cX1_init 5 = .ok (.new 9, 3) := by decide +kernel
theorem dX1_init_8 : decode cX1_init 8 = .ok (.dup, 1) := by decide +kernel
theorem dX1_init_9 : decode cX1_init 9 = .ok (.aload_n 1, 1) := by decide +kernel
theorem dX1_init_10 : decode cX1_init 10 = .ok (.invokespecial 11, 3) := by decide +kernel
theorem dX1_init_13 : decode cX1_init 13 = .ok (.putfield 14, 3) := by decide +kernel
theorem dX1_init_16 : decode cX1_init 16 = .ok (.aload_n 0, 1) := by decide +kernel
theorem dX1_init_17 : decode cX1_init 17 = .ok (.new 9, 3) := by decide +kernel
theorem dX1_init_20 : decode cX1_init 20 = .ok (.dup, 1) := by decide +kernel
theorem dX1_init_21 : decode cX1_init 21 = .ok (.aload_n 1, 1) := by decide +kernel
theorem dX1_init_22 : decode cX1_init 22 = .ok (.invokespecial 11, 3) := by decide +kernel
theorem dX1_init_25 : decode cX1_init 25 = .ok (.putfield 20, 3) := by decide +kernel
theorem dX1_init_28 : decode cX1_init 28 = .ok (.aload_n 0, 1) := by decide +kernel
theorem dX1_init_29 : decode cX1_init 29 = .ok (.new 9, 3) := by decide +kernel
theorem dX1_init_32 : decode cX1_init 32 = .ok (.dup, 1) := by decide +kernel
theorem dX1_init_33 : decode cX1_init 33 = .ok (.aload_n 1, 1) := by decide +kernel
theorem dX1_init_34 : decode cX1_init 34 = .ok (.invokespecial 11, 3) := by decide +kernel
theorem dX1_init_37 : decode cX1_init 37 = .ok (.putfield 23, 3) := by decide +kernel
theorem dX1_init_40 : decode cX1_init 40 = .ok (.aload_n 0, 1) := by decide +kernel
theorem dX1_init_41 : decode cX1_init 41 = .ok (.new 26, 3) := by decide +kernel
theorem dX1_init_44 : decode cX1_init 44 = .ok (.dup, 1) := by decide +kernel
theorem dX1_init_45 : decode cX1_init 45 = .ok (.aload_n 1, 1) := by decide +kernel
theorem dX1_init_46 : decode cX1_init 46 = .ok (.invokespecial 28, 3) := by decide +kernel
theorem dX1_init_49 : decode cX1_init 49 = .ok (.putfield 29, 3) := by decide +kernel
theorem dX1_init_52 : decode cX1_init 52 = .ok (.aload_n 0, 1) := by decide +kernel
theorem dX1_init_53 : decode cX1_init 53 = .ok (.new 33, 3) := by decide +kernel
theorem dX1_init_56 : decode cX1_init 56 = .ok (.dup, 1) := by decide +kernel
theorem dX1_init_57 : decode cX1_init 57 = .ok (.invokespecial 35, 3) := by decide +kernel
theorem dX1_init_60 : decode cX1_init 60 = .ok (.putfield 36, 3) := by decide +kernel
theorem dX1_init_63 : decode cX1_init 63 = .ok (.aload_n 0, 1) := by decide +kernel
theorem dX1_init_64 : decode cX1_init 64 = .ok (.new 40, 3) := by decide +kernel
theorem dX1_init_67 : decode cX1_init 67 = .ok (.dup, 1) := by decide +kernel
theorem dX1_init_68 : decode cX1_init 68 = .ok (.invokespecial 42, 3) := by decide +kernel
theorem dX1_init_71 : decode cX1_init 71 = .ok (.putfield 43, 3) := by decide +kernel
theorem dX1_init_74 : decode cX1_init 74 = .ok (.return_, 1) := by decide +kernel
theorem dX1_ringOf_0 : decode cX1_ringOf 0 = .ok (.iload_n 1, 1) := by decide +kernel
theorem dX1_ringOf_1 : decode cX1_ringOf 1 = .ok (.ifCond .ne 10, 3) := by decide +kernel
theorem dX1_ringOf_4 : decode cX1_ringOf 4 = .ok (.aload_n 0, 1) := by decide +kernel
theorem dX1_ringOf_5 : decode cX1_ringOf 5 = .ok (.getfield 14, 3) := by decide +kernel
theorem dX1_ringOf_8 : decode cX1_ringOf 8 = .ok (.goto 19, 3) := by decide +kernel
theorem dX1_ringOf_11 : decode cX1_ringOf 11 = .ok (.iload_n 1, 1) := by decide +kernel
theorem dX1_ringOf_12 : decode cX1_ringOf 12 = .ok (.iconst 1, 1) := by decide +kernel
theorem dX1_ringOf_13 : decode cX1_ringOf 13 = .ok (.if_icmp .ne 10, 3) := by decide +kernel
theorem dX1_ringOf_16 : decode cX1_ringOf 16 = .ok (.aload_n 0, 1) := by decide +kernel
theorem dX1_ringOf_17 : decode cX1_ringOf 17 = .ok (.getfield 20, 3) := by decide +kernel
theorem dX1_ringOf_20 : decode cX1_ringOf 20 = .ok (.goto 7, 3) := by decide +kernel
theorem dX1_ringOf_23 : decode cX1_ringOf 23 = .ok (.aload_n 0, 1) := by decide +kernel
theorem dX1_ringOf_24 : decode cX1_ringOf 24 = .ok (.getfield 23, 3) := by decide +kernel
theorem dX1_ringOf_27 : decode cX1_ringOf 27 = .ok (.areturn, 1) := by decide +kernel
theorem dX1_switchOff_0 : decode cX1_switchOff 0 = .ok (.aload_n 0, 1) := by decide +kernel
theorem dX1_switchOff_1 : decode cX1_switchOff 1 = .ok (.iconst 0, 1) := by decide +kernel
theorem dX1_switchOff_2 : decode cX1_switchOff 2 = .ok (.putfield 47, 3) := by decide +kernel
theorem dX1_switchOff_5 : decode cX1_switchOff 5 = .ok (.aload_n 0, 1) := by decide +kernel
theorem dX1_switchOff_6 : decode cX1_switchOff 6 = .ok (.iload_n 1, 1) := by decide +kernel
theorem dX1_switchOff_7 : decode cX1_switchOff 7 = .ok (.putfield 51, 3) := by decide +kernel
theorem dX1_switchOff_10 : decode cX1_switchOff 10 = .ok (.aload_n 0, 1) := by decide +kernel
theorem dX1_switchOff_11 : decode cX1_switchOff 11 = .ok (.getfield 14, 3) := by decide +kernel
theorem dX1_switchOff_14 : decode cX1_switchOff 14 = .ok (.invokevirtual 55, 3) := by decide +kernel
theorem dX1_switchOff_17 : decode cX1_switchOff 17 = .ok (.aload_n 0, 1) := by decide +kernel
theorem dX1_switchOff_18 : decode cX1_switchOff 18 = .ok (.getfield 20, 3) := by decide +kernel
theorem dX1_switchOff_21 : decode cX1_switchOff 21 = .ok (.invokevirtual 55, 3) := by decide +kernel
theorem dX1_switchOff_24 : decode cX1_switchOff 24 = .ok (.aload_n 0, 1) := by decide +kernel
theorem dX1_switchOff_25 : decode cX1_switchOff 25 = .ok (.getfield 23, 3) := by decide +kernel
theorem dX1_switchOff_28 : decode cX1_switchOff 28 = .ok (.invokevirtual 55, 3) := by decide +kernel
theorem dX1_switchOff_31 : decode cX1_switchOff 31 = .ok (.return_, 1) := by decide +kernel
theorem dX1_doChain_0 : decode cX1_doChain 0 = .ok (.aload_n 0, 1) := by decide +kernel
theorem dX1_doChain_1 : decode cX1_doChain 1 = .ok (.iload_n 1, 1) := by decide +kernel
theorem dX1_doChain_2 : decode cX1_doChain 2 = .ok (.invokevirtual 58, 3) := by decide +kernel
theorem dX1_doChain_5 : decode cX1_doChain 5 = .ok (.astore_n 2, 1) := by decide +kernel
theorem dX1_doChain_6 : decode cX1_doChain 6 = .ok (.aload_n 0, 1) := by decide +kernel
theorem dX1_doChain_7 : decode cX1_doChain 7 = .ok (.aload_n 2, 1) := by decide +kernel
theorem dX1_doChain_8 : decode cX1_doChain 8 = .ok (.invokevirtual 62, 3) := by decide +kernel
theorem dX1_doChain_11 : decode cX1_doChain 11 = .ok (.istore_n 3, 1) := by decide +kernel
theorem dX1_doChain_12 : decode cX1_doChain 12 = .ok (.iload_n 3, 1) := by decide +kernel
theorem dX1_doChain_13 : decode cX1_doChain 13 = .ok (.iconst 1, 1) := by decide +kernel
theorem dX1_doChain_14 : decode cX1_doChain 14 = .ok (.if_icmp .eq 5, 3) := by decide +kernel
theorem dX1_doChain_17 : decode cX1_doChain 17 = .ok (.iload_n 3, 1) := by decide +kernel
theorem dX1_doChain_18 : decode cX1_doChain 18 = .ok (.ireturn, 1) := by decide +kernel
theorem dX1_doChain_19 : decode cX1_doChain 19 = .ok (.iconst 0, 1) := by decide +kernel
theorem dX1_doChain_20 : decode cX1_doChain 20 = .ok (.istore 4, 2) := by decide +kernel
theorem dX1_doChain_22 : decode cX1_doChain 22 = .ok (.iload_n 1, 1) := by decide +kernel
theorem dX1_doChain_23 : decode cX1_doChain 23 = .ok (.ifCond .ne 19, 3) := by decide +kernel
theorem dX1_doChain_26 : decode cX1_doChain 26 = .ok (.aload_n 0, 1) := by decide +kernel
theorem dX1_doChain_27 : decode cX1_doChain 27 = .ok (.getfield 36, 3) := by decide +kernel
theorem dX1_doChain_30 : decode cX1_doChain 30 = .ok (.aload_n 0, 1) := by decide +kernel
theorem dX1_doChain_31 : decode cX1_doChain 31 = .ok (.getfield 29, 3) := by decide +kernel
theorem dX1_doChain_34 : decode cX1_doChain 34 = .ok (.invokevirtual 66, 3) := by decide +kernel
theorem dX1_doChain_37 : decode cX1_doChain 37 = .ok (.istore 4, 2) := by decide +kernel
theorem dX1_doChain_39 : decode cX1_doChain 39 = .ok (.goto 14, 3) := by decide +kernel
theorem dX1_doChain_42 : decode cX1_doChain 42 = .ok (.aload_n 0, 1) := by decide +kernel
theorem dX1_doChain_43 : decode cX1_doChain 43 = .ok (.getfield 43, 3) := by decide +kernel
theorem dX1_doChain_46 : decode cX1_doChain 46 = .ok (.aload_n 0, 1) := by decide +kernel
theorem dX1_doChain_47 : decode cX1_doChain 47 = .ok (.getfield 29, 3) := by decide +kernel
theorem dX1_doChain_50 : decode cX1_doChain 50 = .ok (.invokevirtual 70, 3) := by decide +kernel
theorem dX1_doChain_53 : decode cX1_doChain 53 = .ok (.aload_n 2, 1) := by decide +kernel
theorem dX1_doChain_54 : decode cX1_doChain 54 = .ok (.aload_n 0, 1) := by decide +kernel
theorem dX1_doChain_55 : decode cX1_doChain 55 = .ok (.getfield 29, 3) := by decide +kernel
theorem dX1_doChain_58 : decode cX1_doChain 58 = .ok (.getfield 74, 3) := by decide +kernel
theorem dX1_doChain_61 : decode cX1_doChain 61 = .ok (.iload 4, 2) := by decide +kernel
theorem dX1_doChain_63 : decode cX1_doChain 63 = .ok (.invokevirtual 77, 3) := by decide +kernel
theorem dX1_doChain_66 : decode cX1_doChain 66 = .ok (.iconst 1, 1) := by decide +kernel
theorem dX1_doChain_67 : decode cX1_doChain 67 = .ok (.ireturn, 1) := by decide +kernel
theorem dX1_frameComes_0 : decode cX1_frameComes 0 = .ok (.aload_n 0, 1) := by decide +kernel
theorem dX1_frameComes_1 : decode cX1_frameComes 1 = .ok (.aload_n 0, 1) := by decide +kernel
theorem dX1_frameComes_2 : decode cX1_frameComes 2 = .ok (.getfield 20, 3) := by decide +kernel
theorem dX1_frameComes_5 : decode cX1_frameComes 5 = .ok (.invokevirtual 62, 3) := by decide +kernel
theorem dX1_frameComes_8 : decode cX1_frameComes 8 = .ok (.istore 4, 2) := by decide +kernel
theorem dX1_frameComes_10 : decode cX1_frameComes 10 = .ok (.iload 4, 2) := by decide +kernel
theorem dX1_frameComes_12 : decode cX1_frameComes 12 = .ok (.ifCond .ge 6, 3) := by decide +kernel
theorem dX1_frameComes_15 : decode cX1_frameComes 15 = .ok (.iload 4, 2) := by decide +kernel
theorem dX1_frameComes_17 : decode cX1_frameComes 17 = .ok (.ireturn, 1) := by decide +kernel
theorem dX1_frameComes_18 : decode cX1_frameComes 18 = .ok (.iload 4, 2) := by decide +kernel
theorem dX1_frameComes_20 : decode cX1_frameComes 20 = .ok (.iconst 1, 1) := by decide +kernel
theorem dX1_frameComes_21 : decode cX1_frameComes 21 = .ok (.if_icmp .ne 24, 3) := by decide +kernel
theorem dX1_frameComes_24 : decode cX1_frameComes 24 = .ok (.aload_n 0, 1) := by decide +kernel
theorem dX1_frameComes_25 : decode cX1_frameComes 25 = .ok (.iload_n 1, 1) := by decide +kernel
theorem dX1_frameComes_26 : decode cX1_frameComes 26 = .ok (.lload_n 2, 1) := by decide +kernel
theorem dX1_frameComes_27 : decode cX1_frameComes 27 = .ok (.invokevirtual 81, 3) := by decide +kernel
theorem dX1_frameComes_30 : decode cX1_frameComes 30 = .ok (.ifCond .eq 15, 3) := by decide +kernel
theorem dX1_frameComes_33 : decode cX1_frameComes 33 = .ok (.aload_n 0, 1) := by decide +kernel
theorem dX1_frameComes_34 : decode cX1_frameComes 34 = .ok (.dup, 1) := by decide +kernel
theorem dX1_frameComes_35 : decode cX1_frameComes 35 = .ok (.getfield 85, 3) := by decide +kernel
theorem dX1_frameComes_38 : decode cX1_frameComes 38 = .ok (.iconst 1, 1) := by decide +kernel
theorem dX1_frameComes_39 : decode cX1_frameComes 39 = .ok (.iadd, 1) := by decide +kernel
theorem dX1_frameComes_40 : decode cX1_frameComes 40 = .ok (.putfield 85, 3) := by decide +kernel
theorem dX1_frameComes_43 : decode cX1_frameComes 43 = .ok (.iconst 1, 1) := by decide +kernel
theorem dX1_frameComes_44 : decode cX1_frameComes 44 = .ok (.ireturn, 1) := by decide +kernel
theorem dX1_frameComes_45 : decode cX1_frameComes 45 = .ok (.aload_n 0, 1) := by decide +kernel
theorem dX1_frameComes_46 : decode cX1_frameComes 46 = .ok (.dup, 1) := by decide +kernel
theorem dX1_frameComes_47 : decode cX1_frameComes 47 = .ok (.getfield 88, 3) := by decide +kernel
theorem dX1_frameComes_50 : decode cX1_frameComes 50 = .ok (.iconst 1, 1) := by decide +kernel
theorem dX1_frameComes_51 : decode cX1_frameComes 51 = .ok (.iadd, 1) := by decide +kernel
theorem dX1_frameComes_52 : decode cX1_frameComes 52 = .ok (.putfield 88, 3) := by decide +kernel
theorem dX1_frameComes_55 : decode cX1_frameComes 55 = .ok (.iconst 0, 1) := by decide +kernel
theorem dX1_frameComes_56 : decode cX1_frameComes 56 = .ok (.ireturn, 1) := by decide +kernel
theorem dX1_deliver_0 : decode cX1_deliver 0 = .ok (.aload_n 0, 1) := by decide +kernel
theorem dX1_deliver_1 : decode cX1_deliver 1 = .ok (.getfield 29, 3) := by decide +kernel
theorem dX1_deliver_4 : decode cX1_deliver 4 = .ok (.getfield 91, 3) := by decide +kernel
theorem dX1_deliver_7 : decode cX1_deliver 7 = .ok (.ifCond .ne 21, 3) := by decide +kernel
theorem dX1_deliver_10 : decode cX1_deliver 10 = .ok (.aload_n 0, 1) := by decide +kernel
theorem dX1_deliver_11 : decode cX1_deliver 11 = .ok (.getfield 29, 3) := by decide +kernel
theorem dX1_deliver_14 : decode cX1_deliver 14 = .ok (.getfield 94, 3) := by decide +kernel
theorem dX1_deliver_17 : decode cX1_deliver 17 = .ok (.bipush 12, 2) := by decide +kernel
theorem dX1_deliver_19 : decode cX1_deliver 19 = .ok (.iload_n 1, 1) := by decide +kernel
theorem dX1_deliver_20 : decode cX1_deliver 20 = .ok (.iadd, 1) := by decide +kernel
theorem dX1_deliver_21 : decode cX1_deliver 21 = .ok (.if_icmp .lt 7, 3) := by decide +kernel
theorem dX1_deliver_24 : decode cX1_deliver 24 = .ok (.iconst 1, 1) := by decide +kernel
theorem dX1_deliver_25 : decode cX1_deliver 25 = .ok (.goto 4, 3) := by decide +kernel
theorem dX1_deliver_28 : decode cX1_deliver 28 = .ok (.iconst 0, 1) := by decide +kernel
theorem dX1_deliver_29 : decode cX1_deliver 29 = .ok (.istore 4, 2) := by decide +kernel
theorem dX1_deliver_31 : decode cX1_deliver 31 = .ok (.iload 4, 2) := by decide +kernel
theorem dX1_deliver_33 : decode cX1_deliver 33 = .ok (.ifCond .eq 62, 3) := by decide +kernel
theorem dX1_deliver_36 : decode cX1_deliver 36 = .ok (.aload_n 0, 1) := by decide +kernel
theorem dX1_deliver_37 : decode cX1_deliver 37 = .ok (.getfield 29, 3) := by decide +kernel
theorem dX1_deliver_40 : decode cX1_deliver 40 = .ok (.invokevirtual 97, 3) := by decide +kernel
theorem dX1_deliver_43 : decode cX1_deliver 43 = .ok (.iconst 0, 1) := by decide +kernel
theorem dX1_deliver_44 : decode cX1_deliver 44 = .ok (.istore 5, 2) := by decide +kernel
theorem dX1_deliver_46 : decode cX1_deliver 46 = .ok (.iload 5, 2) := by decide +kernel
theorem dX1_deliver_48 : decode cX1_deliver 48 = .ok (.bipush 12, 2) := by decide +kernel
theorem dX1_deliver_50 : decode cX1_deliver 50 = .ok (.if_icmp .ge 17, 3) := by decide +kernel
theorem dX1_deliver_53 : decode cX1_deliver 53 = .ok (.aload_n 0, 1) := by decide +kernel
theorem dX1_deliver_54 : decode cX1_deliver 54 = .ok (.getfield 29, 3) := by decide +kernel
theorem dX1_deliver_57 : decode cX1_deliver 57 = .ok (.iconst 0, 1) := by decide +kernel
theorem dX1_deliver_58 : decode cX1_deliver 58 = .ok (.invokevirtual 100, 3) := by decide +kernel
theorem dX1_deliver_61 : decode cX1_deliver 61 = .ok (.iinc 5 1, 3) := by decide +kernel
theorem dX1_deliver_64 : decode cX1_deliver 64 = .ok (.goto (-18), 3) := by decide +kernel
theorem dX1_deliver_67 : decode cX1_deliver 67 = .ok (.iconst 0, 1) := by decide +kernel
theorem dX1_deliver_68 : decode cX1_deliver 68 = .ok (.istore 5, 2) := by decide +kernel
theorem dX1_deliver_70 : decode cX1_deliver 70 = .ok (.iload 5, 2) := by decide +kernel
theorem dX1_deliver_72 : decode cX1_deliver 72 = .ok (.iload_n 1, 1) := by decide +kernel
theorem dX1_deliver_73 : decode cX1_deliver 73 = .ok (.if_icmp .ge 22, 3) := by decide +kernel
theorem dX1_deliver_76 : decode cX1_deliver 76 = .ok (.aload_n 0, 1) := by decide +kernel
theorem dX1_deliver_77 : decode cX1_deliver 77 = .ok (.getfield 29, 3) := by decide +kernel
theorem dX1_deliver_80 : decode cX1_deliver 80 = .ok (.lload_n 2, 1) := by decide +kernel
theorem dX1_deliver_81 : decode cX1_deliver 81 = .ok (.iload 5, 2) := by decide +kernel
theorem dX1_deliver_83 : decode cX1_deliver 83 = .ok (.invokestatic 104, 3) := by decide +kernel
theorem dX1_deliver_86 : decode cX1_deliver 86 = .ok (.invokevirtual 100, 3) := by decide +kernel
theorem dX1_deliver_89 : decode cX1_deliver 89 = .ok (.iinc 5 1, 3) := by decide +kernel
theorem dX1_deliver_92 : decode cX1_deliver 92 = .ok (.goto (-22), 3) := by decide +kernel
theorem dX1_deliver_95 : decode cX1_deliver 95 = .ok (.aload_n 0, 1) := by decide +kernel
theorem dX1_deliver_96 : decode cX1_deliver 96 = .ok (.getfield 20, 3) := by decide +kernel
theorem dX1_deliver_99 : decode cX1_deliver 99 = .ok (.aload_n 0, 1) := by decide +kernel
theorem dX1_deliver_100 : decode cX1_deliver 100 = .ok (.getfield 29, 3) := by decide +kernel
theorem dX1_deliver_103 : decode cX1_deliver 103 = .ok (.getfield 74, 3) := by decide +kernel
theorem dX1_deliver_106 : decode cX1_deliver 106 = .ok (.iload 4, 2) := by decide +kernel
theorem dX1_deliver_108 : decode cX1_deliver 108 = .ok (.ifCond .eq 10, 3) := by decide +kernel
theorem dX1_deliver_111 : decode cX1_deliver 111 = .ok (.bipush 12, 2) := by decide +kernel
theorem dX1_deliver_113 : decode cX1_deliver 113 = .ok (.iload_n 1, 1) := by decide +kernel
theorem dX1_deliver_114 : decode cX1_deliver 114 = .ok (.iadd, 1) := by decide +kernel
theorem dX1_deliver_115 : decode cX1_deliver 115 = .ok (.goto 4, 3) := by decide +kernel
theorem dX1_deliver_118 : decode cX1_deliver 118 = .ok (.iconst 0, 1) := by decide +kernel
theorem dX1_deliver_119 : decode cX1_deliver 119 = .ok (.invokevirtual 77, 3) := by decide +kernel
theorem dX1_deliver_122 : decode cX1_deliver 122 = .ok (.iload 4, 2) := by decide +kernel
theorem dX1_deliver_124 : decode cX1_deliver 124 = .ok (.ireturn, 1) := by decide +kernel
theorem dX1_takeFrom_0 : decode cX1_takeFrom 0 = .ok (.aload_n 0, 1) := by decide +kernel
theorem dX1_takeFrom_1 : decode cX1_takeFrom 1 = .ok (.getfield 47, 3) := by decide +kernel
theorem dX1_takeFrom_4 : decode cX1_takeFrom 4 = .ok (.iconst 1, 1) := by decide +kernel
theorem dX1_takeFrom_5 : decode cX1_takeFrom 5 = .ok (.if_icmp .eq 18, 3) := by decide +kernel
theorem dX1_takeFrom_8 : decode cX1_takeFrom 8 = .ok (.aload_n 0, 1) := by decide +kernel
theorem dX1_takeFrom_9 : decode cX1_takeFrom 9 = .ok (.getfield 47, 3) := by decide +kernel
theorem dX1_takeFrom_12 : decode cX1_takeFrom 12 = .ok (.ifCond .ne 8, 3) := by decide +kernel
theorem dX1_takeFrom_15 : decode cX1_takeFrom 15 = .ok (.bipush (-4), 2) := by decide +kernel
theorem dX1_takeFrom_17 : decode cX1_takeFrom 17 = .ok (.goto 5, 3) := by decide +kernel
theorem dX1_takeFrom_20 : decode cX1_takeFrom 20 = .ok (.bipush (-5), 2) := by decide +kernel
theorem dX1_takeFrom_22 : decode cX1_takeFrom 22 = .ok (.ireturn, 1) := by decide +kernel
theorem dX1_takeFrom_23 : decode cX1_takeFrom 23 = .ok (.aload_n 1, 1) := by decide +kernel
theorem dX1_takeFrom_24 : decode cX1_takeFrom 24 = .ok (.invokevirtual 108, 3) := by decide +kernel
theorem dX1_takeFrom_27 : decode cX1_takeFrom 27 = .ok (.istore_n 2, 1) := by decide +kernel
theorem dX1_takeFrom_28 : decode cX1_takeFrom 28 = .ok (.iload_n 2, 1) := by decide +kernel
theorem dX1_takeFrom_29 : decode cX1_takeFrom 29 = .ok (.ifCond .ne 5, 3) := by decide +kernel
theorem dX1_takeFrom_32 : decode cX1_takeFrom 32 = .ok (.iconst 0, 1) := by decide +kernel
theorem dX1_takeFrom_33 : decode cX1_takeFrom 33 = .ok (.ireturn, 1) := by decide +kernel
theorem dX1_takeFrom_34 : decode cX1_takeFrom 34 = .ok (.iload_n 2, 1) := by decide +kernel
theorem dX1_takeFrom_35 : decode cX1_takeFrom 35 = .ok (.aload_n 1, 1) := by decide +kernel
theorem dX1_takeFrom_36 : decode cX1_takeFrom 36 = .ok (.getfield 112, 3) := by decide +kernel
theorem dX1_takeFrom_39 : decode cX1_takeFrom 39 = .ok (.if_icmp .gt 18, 3) := by decide +kernel
theorem dX1_takeFrom_42 : decode cX1_takeFrom 42 = .ok (.aload_n 0, 1) := by decide +kernel
theorem dX1_takeFrom_43 : decode cX1_takeFrom 43 = .ok (.getfield 29, 3) := by decide +kernel
theorem dX1_takeFrom_46 : decode cX1_takeFrom 46 = .ok (.aload_n 1, 1) := by decide +kernel
theorem dX1_takeFrom_47 : decode cX1_takeFrom 47 = .ok (.aload_n 0, 1) := by decide +kernel
theorem dX1_takeFrom_48 : decode cX1_takeFrom 48 = .ok (.getfield 51, 3) := by decide +kernel
theorem dX1_takeFrom_51 : decode cX1_takeFrom 51 = .ok (.invokevirtual 115, 3) := by decide +kernel
theorem dX1_takeFrom_54 : decode cX1_takeFrom 54 = .ok (.ifCond .ne 11, 3) := by decide +kernel
theorem dX1_takeFrom_57 : decode cX1_takeFrom 57 = .ok (.aload_n 0, 1) := by decide +kernel
theorem dX1_takeFrom_58 : decode cX1_takeFrom 58 = .ok (.iconst 2, 1) := by decide +kernel
theorem dX1_takeFrom_59 : decode cX1_takeFrom 59 = .ok (.putfield 47, 3) := by decide +kernel
theorem dX1_takeFrom_62 : decode cX1_takeFrom 62 = .ok (.bipush (-5), 2) := by decide +kernel
theorem dX1_takeFrom_64 : decode cX1_takeFrom 64 = .ok (.ireturn, 1) := by decide +kernel
theorem dX1_takeFrom_65 : decode cX1_takeFrom 65 = .ok (.aload_n 1, 1) := by decide +kernel
theorem dX1_takeFrom_66 : decode cX1_takeFrom 66 = .ok (.aload_n 1, 1) := by decide +kernel
theorem dX1_takeFrom_67 : decode cX1_takeFrom 67 = .ok (.getfield 119, 3) := by decide +kernel
theorem dX1_takeFrom_70 : decode cX1_takeFrom 70 = .ok (.invokestatic 122, 3) := by decide +kernel
theorem dX1_takeFrom_73 : decode cX1_takeFrom 73 = .ok (.putfield 119, 3) := by decide +kernel
theorem dX1_takeFrom_76 : decode cX1_takeFrom 76 = .ok (.iconst 1, 1) := by decide +kernel
theorem dX1_takeFrom_77 : decode cX1_takeFrom 77 = .ok (.ireturn, 1) := by decide +kernel
theorem dX2_init_0 : decode cX2_init 0 = .ok (.aload_n 0, 1) := by decide +kernel
theorem dX2_init_1 : decode cX2_init 1 = .ok (.invokespecial 3, 3) := by decide +kernel
theorem dX2_init_4 : decode cX2_init 4 = .ok (.aload_n 0, 1) := by decide +kernel
theorem dX2_init_5 : decode cX2_init 5 = .ok (.sipush 2048, 3) := by decide +kernel
theorem dX2_init_8 : decode cX2_init 8 = .ok (.newarray .byte, 2) := by decide +kernel
theorem dX2_init_10 : decode cX2_init 10 = .ok (.putfield 9, 3) := by decide +kernel
theorem dX2_init_13 : decode cX2_init 13 = .ok (.return_, 1) := by decide +kernel
theorem dX2_at_0 : decode cX2_at 0 = .ok (.iload_n 1, 1) := by decide +kernel
theorem dX2_at_1 : decode cX2_at 1 = .ok (.ifCond .lt 25, 3) := by decide +kernel
theorem dX2_at_4 : decode cX2_at 4 = .ok (.iload_n 1, 1) := by decide +kernel
theorem dX2_at_5 : decode cX2_at 5 = .ok (.aload_n 0, 1) := by decide +kernel
theorem dX2_at_6 : decode cX2_at 6 = .ok (.getfield 9, 3) := by decide +kernel
theorem dX2_at_9 : decode cX2_at 9 = .ok (.arraylength, 1) := by decide +kernel
theorem dX2_at_10 : decode cX2_at 10 = .ok (.if_icmp .ge 16, 3) := by decide +kernel
theorem dX2_at_13 : decode cX2_at 13 = .ok (.aload_n 0, 1) := by decide +kernel
theorem dX2_at_14 : decode cX2_at 14 = .ok (.getfield 9, 3) := by decide +kernel
theorem dX2_at_17 : decode cX2_at 17 = .ok (.iload_n 1, 1) := by decide +kernel
theorem dX2_at_18 : decode cX2_at 18 = .ok (.baload, 1) := by decide +kernel
theorem dX2_at_19 : decode cX2_at 19 = .ok (.sipush 255, 3) := by decide +kernel
theorem dX2_at_22 : decode cX2_at 22 = .ok (.iand, 1) := by decide +kernel
theorem dX2_at_23 : decode cX2_at 23 = .ok (.goto 4, 3) := by decide +kernel
theorem dX2_at_26 : decode cX2_at 26 = .ok (.iconst 0, 1) := by decide +kernel
theorem dX2_at_27 : decode cX2_at 27 = .ok (.ireturn, 1) := by decide +kernel
theorem dX2_set_0 : decode cX2_set 0 = .ok (.iload_n 1, 1) := by decide +kernel
theorem dX2_set_1 : decode cX2_set 1 = .ok (.ifCond .lt 20, 3) := by decide +kernel
theorem dX2_set_4 : decode cX2_set 4 = .ok (.iload_n 1, 1) := by decide +kernel
theorem dX2_set_5 : decode cX2_set 5 = .ok (.aload_n 0, 1) := by decide +kernel
theorem dX2_set_6 : decode cX2_set 6 = .ok (.getfield 9, 3) := by decide +kernel
theorem dX2_set_9 : decode cX2_set 9 = .ok (.arraylength, 1) := by decide +kernel
theorem dX2_set_10 : decode cX2_set 10 = .ok (.if_icmp .ge 11, 3) := by decide +kernel
theorem dX2_set_13 : decode cX2_set 13 = .ok (.aload_n 0, 1) := by decide +kernel
theorem dX2_set_14 : decode cX2_set 14 = .ok (.getfield 9, 3) := by decide +kernel
theorem dX2_set_17 : decode cX2_set 17 = .ok (.iload_n 1, 1) := by decide +kernel
theorem dX2_set_18 : decode cX2_set 18 = .ok (.iload_n 2, 1) := by decide +kernel
theorem dX2_set_19 : decode cX2_set 19 = .ok (.i2b, 1) := by decide +kernel
theorem dX2_set_20 : decode cX2_set 20 = .ok (.bastore, 1) := by decide +kernel
theorem dX2_set_21 : decode cX2_set 21 = .ok (.return_, 1) := by decide +kernel
theorem dX2_answer_0 : decode cX2_answer 0 = .ok (.aload_n 1, 1) := by decide +kernel
theorem dX2_answer_1 : decode cX2_answer 1 = .ok (.getfield 15, 3) := by decide +kernel
theorem dX2_answer_4 : decode cX2_answer 4 = .ok (.bipush 16, 2) := by decide +kernel
theorem dX2_answer_6 : decode cX2_answer 6 = .ok (.if_icmp .lt 11, 3) := by decide +kernel
theorem dX2_answer_9 : decode cX2_answer 9 = .ok (.aload_n 1, 1) := by decide +kernel
theorem dX2_answer_10 : decode cX2_answer 10 = .ok (.getfield 21, 3) := by decide +kernel
theorem dX2_answer_13 : decode cX2_answer 13 = .ok (.iconst 1, 1) := by decide +kernel
theorem dX2_answer_14 : decode cX2_answer 14 = .ok (.if_icmp .ge 5, 3) := by decide +kernel
theorem dX2_answer_17 : decode cX2_answer 17 = .ok (.iconst 0, 1) := by decide +kernel
theorem dX2_answer_18 : decode cX2_answer 18 = .ok (.ireturn, 1) := by decide +kernel
theorem dX2_answer_19 : decode cX2_answer 19 = .ok (.aload_n 1, 1) := by decide +kernel
theorem dX2_answer_20 : decode cX2_answer 20 = .ok (.invokevirtual 24, 3) := by decide +kernel
theorem dX2_answer_23 : decode cX2_answer 23 = .ok (.aload_n 1, 1) := by decide +kernel
theorem dX2_answer_24 : decode cX2_answer 24 = .ok (.iconst 4, 1) := by decide +kernel
theorem dX2_answer_25 : decode cX2_answer 25 = .ok (.invokevirtual 27, 3) := by decide +kernel
theorem dX2_answer_28 : decode cX2_answer 28 = .ok (.l2i, 1) := by decide +kernel
theorem dX2_answer_29 : decode cX2_answer 29 = .ok (.istore_n 2, 1) := by decide +kernel
theorem dX2_answer_30 : decode cX2_answer 30 = .ok (.aload_n 1, 1) := by decide +kernel
theorem dX2_answer_31 : decode cX2_answer 31 = .ok (.iconst 4, 1) := by decide +kernel
theorem dX2_answer_32 : decode cX2_answer 32 = .ok (.invokevirtual 31, 3) := by decide +kernel
theorem dX2_answer_35 : decode cX2_answer 35 = .ok (.aload_n 1, 1) := by decide +kernel
theorem dX2_answer_36 : decode cX2_answer 36 = .ok (.bipush 8, 2) := by decide +kernel
theorem dX2_answer_38 : decode cX2_answer 38 = .ok (.invokevirtual 27, 3) := by decide +kernel
theorem dX2_answer_41 : decode cX2_answer 41 = .ok (.lstore_n 3, 1) := by decide +kernel
theorem dX2_answer_42 : decode cX2_answer 42 = .ok (.aload_n 0, 1) := by decide +kernel
theorem dX2_answer_43 : decode cX2_answer 43 = .ok (.iload_n 2, 1) := by decide +kernel
theorem dX2_answer_44 : decode cX2_answer 44 = .ok (.lload_n 3, 1) := by decide +kernel
theorem dX2_answer_45 : decode cX2_answer 45 = .ok (.aload_n 1, 1) := by decide +kernel
theorem dX2_answer_46 : decode cX2_answer 46 = .ok (.invokevirtual 35, 3) := by decide +kernel
theorem dX2_answer_49 : decode cX2_answer 49 = .ok (.istore 5, 2) := by decide +kernel
theorem dX2_answer_51 : decode cX2_answer 51 = .ok (.iload 5, 2) := by decide +kernel
theorem dX2_answer_53 : decode cX2_answer 53 = .ok (.ifCond .ne 14, 3) := by decide +kernel
theorem dX2_answer_56 : decode cX2_answer 56 = .ok (.aload_n 0, 1) := by decide +kernel
theorem dX2_answer_57 : decode cX2_answer 57 = .ok (.iload_n 2, 1) := by decide +kernel
theorem dX2_answer_58 : decode cX2_answer 58 = .ok (.lload_n 3, 1) := by decide +kernel
theorem dX2_answer_59 : decode cX2_answer 59 = .ok (.l2i, 1) := by decide +kernel
theorem dX2_answer_60 : decode cX2_answer 60 = .ok (.aload_n 1, 1) := by decide +kernel
theorem dX2_answer_61 : decode cX2_answer 61 = .ok (.invokevirtual 39, 3) := by decide +kernel
theorem dX2_answer_64 : decode cX2_answer 64 = .ok (.goto 4, 3) := by decide +kernel
theorem dX2_answer_67 : decode cX2_answer 67 = .ok (.iconst 0, 1) := by decide +kernel
theorem dX2_answer_68 : decode cX2_answer 68 = .ok (.istore 6, 2) := by decide +kernel
theorem dX2_answer_70 : decode cX2_answer 70 = .ok (.aload_n 1, 1) := by decide +kernel
theorem dX2_answer_71 : decode cX2_answer 71 = .ok (.iload 5, 2) := by decide +kernel
theorem dX2_answer_73 : decode cX2_answer 73 = .ok (.invokevirtual 43, 3) := by decide +kernel
theorem dX2_answer_76 : decode cX2_answer 76 = .ok (.iload 6, 2) := by decide +kernel
theorem dX2_answer_78 : decode cX2_answer 78 = .ok (.iconst 1, 1) := by decide +kernel
theorem dX2_answer_79 : decode cX2_answer 79 = .ok (.iadd, 1) := by decide +kernel
theorem dX2_answer_80 : decode cX2_answer 80 = .ok (.ireturn, 1) := by decide +kernel
theorem dX2_resultOf_0 : decode cX2_resultOf 0 = .ok (.iload_n 1, 1) := by decide +kernel
theorem dX2_resultOf_1 : decode cX2_resultOf 1 = .ok (.tableswitch 98 0 8 #[51, 72, 98, 98, 94, 98, 98, 98, 96], 51) := by decide +kernel
theorem dX2_resultOf_52 : decode cX2_resultOf 52 = .ok (.aload_n 0, 1) := by decide +kernel
theorem dX2_resultOf_53 : decode cX2_resultOf 53 = .ok (.lload_n 2, 1) := by decide +kernel
theorem dX2_resultOf_54 : decode cX2_resultOf 54 = .ok (.aload 4, 2) := by decide +kernel
theorem dX2_resultOf_56 : decode cX2_resultOf 56 = .ok (.getfield 21, 3) := by decide +kernel
theorem dX2_resultOf_59 : decode cX2_resultOf 59 = .ok (.iconst 1, 1) := by decide +kernel
theorem dX2_resultOf_60 : decode cX2_resultOf 60 = .ok (.isub, 1) := by decide +kernel
theorem dX2_resultOf_61 : decode cX2_resultOf 61 = .ok (.invokevirtual 46, 3) := by decide +kernel
theorem dX2_resultOf_64 : decode cX2_resultOf 64 = .ok (.ifCond .eq 7, 3) := by decide +kernel
theorem dX2_resultOf_67 : decode cX2_resultOf 67 = .ok (.iconst 0, 1) := by decide +kernel
theorem dX2_resultOf_68 : decode cX2_resultOf 68 = .ok (.goto 4, 3) := by decide +kernel
theorem dX2_resultOf_71 : decode cX2_resultOf 71 = .ok (.iconst 1, 1) := by decide +kernel
theorem dX2_resultOf_72 : decode cX2_resultOf 72 = .ok (.ireturn, 1) := by decide +kernel
theorem dX2_resultOf_73 : decode cX2_resultOf 73 = .ok (.aload_n 0, 1) := by decide +kernel
theorem dX2_resultOf_74 : decode cX2_resultOf 74 = .ok (.lload_n 2, 1) := by decide +kernel
theorem dX2_resultOf_75 : decode cX2_resultOf 75 = .ok (.aload 4, 2) := by decide +kernel
theorem dX2_resultOf_77 : decode cX2_resultOf 77 = .ok (.getfield 15, 3) := by decide +kernel
theorem dX2_resultOf_80 : decode cX2_resultOf 80 = .ok (.bipush 16, 2) := by decide +kernel
theorem dX2_resultOf_82 : decode cX2_resultOf 82 = .ok (.isub, 1) := by decide +kernel
theorem dX2_resultOf_83 : decode cX2_resultOf 83 = .ok (.invokevirtual 46, 3) := by decide +kernel
theorem dX2_resultOf_86 : decode cX2_resultOf 86 = .ok (.ifCond .eq 7, 3) := by decide +kernel
theorem dX2_resultOf_89 : decode cX2_resultOf 89 = .ok (.iconst 0, 1) := by decide +kernel
theorem dX2_resultOf_90 : decode cX2_resultOf 90 = .ok (.goto 4, 3) := by decide +kernel
theorem dX2_resultOf_93 : decode cX2_resultOf 93 = .ok (.iconst 1, 1) := by decide +kernel
theorem dX2_resultOf_94 : decode cX2_resultOf 94 = .ok (.ireturn, 1) := by decide +kernel
theorem dX2_resultOf_95 : decode cX2_resultOf 95 = .ok (.iconst 0, 1) := by decide +kernel
theorem dX2_resultOf_96 : decode cX2_resultOf 96 = .ok (.ireturn, 1) := by decide +kernel
theorem dX2_resultOf_97 : decode cX2_resultOf 97 = .ok (.iconst 0, 1) := by decide +kernel
theorem dX2_resultOf_98 : decode cX2_resultOf 98 = .ok (.ireturn, 1) := by decide +kernel
theorem dX2_resultOf_99 : decode cX2_resultOf 99 = .ok (.iconst 2, 1) := by decide +kernel
theorem dX2_resultOf_100 : decode cX2_resultOf 100 = .ok (.ireturn, 1) := by decide +kernel
theorem dX2_areThere_0 : decode cX2_areThere 0 = .ok (.iload_n 3, 1) := by decide +kernel
theorem dX2_areThere_1 : decode cX2_areThere 1 = .ok (.ifCond .ne 5, 3) := by decide +kernel
theorem dX2_areThere_4 : decode cX2_areThere 4 = .ok (.iconst 1, 1) := by decide +kernel
theorem dX2_areThere_5 : decode cX2_areThere 5 = .ok (.ireturn, 1) := by decide +kernel
theorem dX2_areThere_6 : decode cX2_areThere 6 = .ok (.iload_n 3, 1) := by decide +kernel
theorem dX2_areThere_7 : decode cX2_areThere 7 = .ok (.bipush 64, 2) := by decide +kernel
theorem dX2_areThere_9 : decode cX2_areThere 9 = .ok (.irem, 1) := by decide +kernel
theorem dX2_areThere_10 : decode cX2_areThere 10 = .ok (.ifCond .ne 26, 3) := by decide +kernel
theorem dX2_areThere_13 : decode cX2_areThere 13 = .ok (.lload_n 1, 1) := by decide +kernel
theorem dX2_areThere_14 : decode cX2_areThere 14 = .ok (.lconst 0, 1) := by decide +kernel
theorem dX2_areThere_15 : decode cX2_areThere 15 = .ok (.lcmp, 1) := by decide +kernel
theorem dX2_areThere_16 : decode cX2_areThere 16 = .ok (.ifCond .lt 20, 3) := by decide +kernel
theorem dX2_areThere_19 : decode cX2_areThere 19 = .ok (.lload_n 1, 1) := by decide +kernel
theorem dX2_areThere_20 : decode cX2_areThere 20 = .ok (.bipush 32, 2) := by decide +kernel
theorem dX2_areThere_22 : decode cX2_areThere 22 = .ok (.iload_n 3, 1) := by decide +kernel
theorem dX2_areThere_23 : decode cX2_areThere 23 = .ok (.bipush 64, 2) := by decide +kernel
theorem dX2_areThere_25 : decode cX2_areThere 25 = .ok (.idiv, 1) := by decide +kernel
theorem dX2_areThere_26 : decode cX2_areThere 26 = .ok (.isub, 1) := by decide +kernel
theorem dX2_areThere_27 : decode cX2_areThere 27 = .ok (.i2l, 1) := by decide +kernel
theorem dX2_areThere_28 : decode cX2_areThere 28 = .ok (.lcmp, 1) := by decide +kernel
theorem dX2_areThere_29 : decode cX2_areThere 29 = .ok (.ifCond .gt 7, 3) := by decide +kernel
theorem dX2_areThere_32 : decode cX2_areThere 32 = .ok (.iconst 1, 1) := by decide +kernel
theorem dX2_areThere_33 : decode cX2_areThere 33 = .ok (.goto 4, 3) := by decide +kernel
theorem dX2_areThere_36 : decode cX2_areThere 36 = .ok (.iconst 0, 1) := by decide +kernel
theorem dX2_areThere_37 : decode cX2_areThere 37 = .ok (.ireturn, 1) := by decide +kernel
theorem dX2_carryOut_0 : decode cX2_carryOut 0 = .ok (.iload_n 1, 1) := by decide +kernel
theorem dX2_carryOut_1 : decode cX2_carryOut 1 = .ok (.lookupswitch 61 #[(0, 35), (1, 45), (8, 55)], 35) := by decide +kernel
theorem dX2_carryOut_36 : decode cX2_carryOut 36 = .ok (.aload_n 0, 1) := by decide +kernel
theorem dX2_carryOut_37 : decode cX2_carryOut 37 = .ok (.bipush 64, 2) := by decide +kernel
theorem dX2_carryOut_39 : decode cX2_carryOut 39 = .ok (.iload_n 2, 1) := by decide +kernel
theorem dX2_carryOut_40 : decode cX2_carryOut 40 = .ok (.imul, 1) := by decide +kernel
theorem dX2_carryOut_41 : decode cX2_carryOut 41 = .ok (.aload_n 3, 1) := by decide +kernel
theorem dX2_carryOut_42 : decode cX2_carryOut 42 = .ok (.invokevirtual 50, 3) := by decide +kernel
theorem dX2_carryOut_45 : decode cX2_carryOut 45 = .ok (.ireturn, 1) := by decide +kernel
theorem dX2_carryOut_46 : decode cX2_carryOut 46 = .ok (.aload_n 0, 1) := by decide +kernel
theorem dX2_carryOut_47 : decode cX2_carryOut 47 = .ok (.bipush 64, 2) := by decide +kernel
theorem dX2_carryOut_49 : decode cX2_carryOut 49 = .ok (.iload_n 2, 1) := by decide +kernel
theorem dX2_carryOut_50 : decode cX2_carryOut 50 = .ok (.imul, 1) := by decide +kernel
theorem dX2_carryOut_51 : decode cX2_carryOut 51 = .ok (.aload_n 3, 1) := by decide +kernel
theorem dX2_carryOut_52 : decode cX2_carryOut 52 = .ok (.invokevirtual 54, 3) := by decide +kernel
theorem dX2_carryOut_55 : decode cX2_carryOut 55 = .ok (.ireturn, 1) := by decide +kernel
theorem dX2_carryOut_56 : decode cX2_carryOut 56 = .ok (.aload_n 0, 1) := by decide +kernel
theorem dX2_carryOut_57 : decode cX2_carryOut 57 = .ok (.aload_n 3, 1) := by decide +kernel
theorem dX2_carryOut_58 : decode cX2_carryOut 58 = .ok (.invokevirtual 57, 3) := by decide +kernel
theorem dX2_carryOut_61 : decode cX2_carryOut 61 = .ok (.ireturn, 1) := by decide +kernel
theorem dX2_carryOut_62 : decode cX2_carryOut 62 = .ok (.iconst 0, 1) := by decide +kernel
theorem dX2_carryOut_63 : decode cX2_carryOut 63 = .ok (.ireturn, 1) := by decide +kernel
theorem dX2_copyOut_0 : decode cX2_copyOut 0 = .ok (.aload_n 2, 1) := by decide +kernel
theorem dX2_copyOut_1 : decode cX2_copyOut 1 = .ok (.getfield 21, 3) := by decide +kernel
theorem dX2_copyOut_4 : decode cX2_copyOut 4 = .ok (.iconst 1, 1) := by decide +kernel
theorem dX2_copyOut_5 : decode cX2_copyOut 5 = .ok (.isub, 1) := by decide +kernel
theorem dX2_copyOut_6 : decode cX2_copyOut 6 = .ok (.istore_n 3, 1) := by decide +kernel
theorem dX2_copyOut_7 : decode cX2_copyOut 7 = .ok (.aload_n 2, 1) := by decide +kernel
theorem dX2_copyOut_8 : decode cX2_copyOut 8 = .ok (.invokevirtual 61, 3) := by decide +kernel
theorem dX2_copyOut_11 : decode cX2_copyOut 11 = .ok (.iconst 0, 1) := by decide +kernel
theorem dX2_copyOut_12 : decode cX2_copyOut 12 = .ok (.istore 4, 2) := by decide +kernel
theorem dX2_copyOut_14 : decode cX2_copyOut 14 = .ok (.iload 4, 2) := by decide +kernel
theorem dX2_copyOut_16 : decode cX2_copyOut 16 = .ok (.iload_n 3, 1) := by decide +kernel
theorem dX2_copyOut_17 : decode cX2_copyOut 17 = .ok (.if_icmp .ge 21, 3) := by decide +kernel
theorem dX2_copyOut_20 : decode cX2_copyOut 20 = .ok (.aload_n 2, 1) := by decide +kernel
theorem dX2_copyOut_21 : decode cX2_copyOut 21 = .ok (.aload_n 0, 1) := by decide +kernel
theorem dX2_copyOut_22 : decode cX2_copyOut 22 = .ok (.iload_n 1, 1) := by decide +kernel
theorem dX2_copyOut_23 : decode cX2_copyOut 23 = .ok (.iload 4, 2) := by decide +kernel
theorem dX2_copyOut_25 : decode cX2_copyOut 25 = .ok (.iadd, 1) := by decide +kernel
theorem dX2_copyOut_26 : decode cX2_copyOut 26 = .ok (.invokevirtual 64, 3) := by decide +kernel
theorem dX2_copyOut_29 : decode cX2_copyOut 29 = .ok (.invokevirtual 68, 3) := by decide +kernel
theorem dX2_copyOut_32 : decode cX2_copyOut 32 = .ok (.iinc 4 1, 3) := by decide +kernel
theorem dX2_copyOut_35 : decode cX2_copyOut 35 = .ok (.goto (-21), 3) := by decide +kernel
theorem dX2_copyOut_38 : decode cX2_copyOut 38 = .ok (.iload_n 3, 1) := by decide +kernel
theorem dX2_copyOut_39 : decode cX2_copyOut 39 = .ok (.ireturn, 1) := by decide +kernel
theorem dX2_copyIn_0 : decode cX2_copyIn 0 = .ok (.aload_n 2, 1) := by decide +kernel
theorem dX2_copyIn_1 : decode cX2_copyIn 1 = .ok (.getfield 15, 3) := by decide +kernel
theorem dX2_copyIn_4 : decode cX2_copyIn 4 = .ok (.bipush 16, 2) := by decide +kernel
theorem dX2_copyIn_6 : decode cX2_copyIn 6 = .ok (.isub, 1) := by decide +kernel
theorem dX2_copyIn_7 : decode cX2_copyIn 7 = .ok (.istore_n 3, 1) := by decide +kernel
theorem dX2_copyIn_8 : decode cX2_copyIn 8 = .ok (.iconst 0, 1) := by decide +kernel
theorem dX2_copyIn_9 : decode cX2_copyIn 9 = .ok (.istore 4, 2) := by decide +kernel
theorem dX2_copyIn_11 : decode cX2_copyIn 11 = .ok (.iload 4, 2) := by decide +kernel
theorem dX2_copyIn_13 : decode cX2_copyIn 13 = .ok (.iload_n 3, 1) := by decide +kernel
theorem dX2_copyIn_14 : decode cX2_copyIn 14 = .ok (.if_icmp .ge 21, 3) := by decide +kernel
theorem dX2_copyIn_17 : decode cX2_copyIn 17 = .ok (.aload_n 0, 1) := by decide +kernel
theorem dX2_copyIn_18 : decode cX2_copyIn 18 = .ok (.iload_n 1, 1) := by decide +kernel
theorem dX2_copyIn_19 : decode cX2_copyIn 19 = .ok (.iload 4, 2) := by decide +kernel
theorem dX2_copyIn_21 : decode cX2_copyIn 21 = .ok (.iadd, 1) := by decide +kernel
theorem dX2_copyIn_22 : decode cX2_copyIn 22 = .ok (.aload_n 2, 1) := by decide +kernel
theorem dX2_copyIn_23 : decode cX2_copyIn 23 = .ok (.invokevirtual 71, 3) := by decide +kernel
theorem dX2_copyIn_26 : decode cX2_copyIn 26 = .ok (.invokevirtual 75, 3) := by decide +kernel
theorem dX2_copyIn_29 : decode cX2_copyIn 29 = .ok (.iinc 4 1, 3) := by decide +kernel
theorem dX2_copyIn_32 : decode cX2_copyIn 32 = .ok (.goto (-21), 3) := by decide +kernel
theorem dX2_copyIn_35 : decode cX2_copyIn 35 = .ok (.iconst 0, 1) := by decide +kernel
theorem dX2_copyIn_36 : decode cX2_copyIn 36 = .ok (.ireturn, 1) := by decide +kernel
theorem dX2_tellName_0 : decode cX2_tellName 0 = .ok (.bipush 20, 2) := by decide +kernel
theorem dX2_tellName_2 : decode cX2_tellName 2 = .ok (.aload_n 1, 1) := by decide +kernel
theorem dX2_tellName_3 : decode cX2_tellName 3 = .ok (.getfield 21, 3) := by decide +kernel
theorem dX2_tellName_6 : decode cX2_tellName 6 = .ok (.iconst 1, 1) := by decide +kernel
theorem dX2_tellName_7 : decode cX2_tellName 7 = .ok (.isub, 1) := by decide +kernel
theorem dX2_tellName_8 : decode cX2_tellName 8 = .ok (.invokestatic 79, 3) := by decide +kernel
theorem dX2_tellName_11 : decode cX2_tellName 11 = .ok (.istore_n 2, 1) := by decide +kernel
theorem dX2_tellName_12 : decode cX2_tellName 12 = .ok (.aload_n 1, 1) := by decide +kernel
theorem dX2_tellName_13 : decode cX2_tellName 13 = .ok (.invokevirtual 61, 3) := by decide +kernel
theorem dX2_tellName_16 : decode cX2_tellName 16 = .ok (.iconst 0, 1) := by decide +kernel
theorem dX2_tellName_17 : decode cX2_tellName 17 = .ok (.istore_n 3, 1) := by decide +kernel
theorem dX2_tellName_18 : decode cX2_tellName 18 = .ok (.iload_n 3, 1) := by decide +kernel
theorem dX2_tellName_19 : decode cX2_tellName 19 = .ok (.iload_n 2, 1) := by decide +kernel
theorem dX2_tellName_20 : decode cX2_tellName 20 = .ok (.if_icmp .ge 32, 3) := by decide +kernel
theorem dX2_tellName_23 : decode cX2_tellName 23 = .ok (.aload_n 1, 1) := by decide +kernel
theorem dX2_tellName_24 : decode cX2_tellName 24 = .ok (.iload_n 3, 1) := by decide +kernel
theorem dX2_tellName_25 : decode cX2_tellName 25 = .ok (.ldc 85, 2) := by decide +kernel
theorem dX2_tellName_27 : decode cX2_tellName 27 = .ok (.invokevirtual 87, 3) := by decide +kernel
theorem dX2_tellName_30 : decode cX2_tellName 30 = .ok (.if_icmp .ge 12, 3) := by decide +kernel
theorem dX2_tellName_33 : decode cX2_tellName 33 = .ok (.ldc 85, 2) := by decide +kernel
theorem dX2_tellName_35 : decode cX2_tellName 35 = .ok (.iload_n 3, 1) := by decide +kernel
theorem dX2_tellName_36 : decode cX2_tellName 36 = .ok (.invokevirtual 92, 3) := by decide +kernel
theorem dX2_tellName_39 : decode cX2_tellName 39 = .ok (.goto 4, 3) := by decide +kernel
theorem dX2_tellName_42 : decode cX2_tellName 42 = .ok (.iconst 0, 1) := by decide +kernel
theorem dX2_tellName_43 : decode cX2_tellName 43 = .ok (.invokevirtual 68, 3) := by decide +kernel
theorem dX2_tellName_46 : decode cX2_tellName 46 = .ok (.iinc 3 1, 3) := by decide +kernel
theorem dX2_tellName_49 : decode cX2_tellName 49 = .ok (.goto (-31), 3) := by decide +kernel
theorem dX2_tellName_52 : decode cX2_tellName 52 = .ok (.iload_n 2, 1) := by decide +kernel
theorem dX2_tellName_53 : decode cX2_tellName 53 = .ok (.ireturn, 1) := by decide +kernel
theorem dX3_init_0 : decode cX3_init 0 = .ok (.aload_n 0, 1) := by decide +kernel
theorem dX3_init_1 : decode cX3_init 1 = .ok (.invokespecial 3, 3) := by decide +kernel
theorem dX3_init_4 : decode cX3_init 4 = .ok (.aload_n 0, 1) := by decide +kernel
theorem dX3_init_5 : decode cX3_init 5 = .ok (.aload_n 1, 1) := by decide +kernel
theorem dX3_init_6 : decode cX3_init 6 = .ok (.putfield 9, 3) := by decide +kernel
theorem dX3_init_9 : decode cX3_init 9 = .ok (.aload_n 0, 1) := by decide +kernel
theorem dX3_init_10 : decode cX3_init 10 = .ok (.new 15, 3) := by decide +kernel
theorem dX3_init_13 : decode cX3_init 13 = .ok (.dup, 1) := by decide +kernel
theorem dX3_init_14 : decode cX3_init 14 = .ok (.invokespecial 17, 3) := by decide +kernel
theorem dX3_init_17 : decode cX3_init 17 = .ok (.putfield 18, 3) := by decide +kernel
theorem dX3_init_20 : decode cX3_init 20 = .ok (.aload_n 0, 1) := by decide +kernel
theorem dX3_init_21 : decode cX3_init 21 = .ok (.new 15, 3) := by decide +kernel
theorem dX3_init_24 : decode cX3_init 24 = .ok (.dup, 1) := by decide +kernel
theorem dX3_init_25 : decode cX3_init 25 = .ok (.invokespecial 17, 3) := by decide +kernel
theorem dX3_init_28 : decode cX3_init 28 = .ok (.putfield 22, 3) := by decide +kernel
theorem dX3_init_31 : decode cX3_init 31 = .ok (.aload_n 0, 1) := by decide +kernel
theorem dX3_init_32 : decode cX3_init 32 = .ok (.new 15, 3) := by decide +kernel
theorem dX3_init_35 : decode cX3_init 35 = .ok (.dup, 1) := by decide +kernel
theorem dX3_init_36 : decode cX3_init 36 = .ok (.invokespecial 17, 3) := by decide +kernel
theorem dX3_init_39 : decode cX3_init 39 = .ok (.putfield 25, 3) := by decide +kernel
theorem dX3_init_42 : decode cX3_init 42 = .ok (.return_, 1) := by decide +kernel
theorem dX3_begin_0 : decode cX3_begin 0 = .ok (.aload_n 0, 1) := by decide +kernel
theorem dX3_begin_1 : decode cX3_begin 1 = .ok (.iconst 1, 1) := by decide +kernel
theorem dX3_begin_2 : decode cX3_begin 2 = .ok (.putfield 28, 3) := by decide +kernel
theorem dX3_begin_5 : decode cX3_begin 5 = .ok (.aload_n 0, 1) := by decide +kernel
theorem dX3_begin_6 : decode cX3_begin 6 = .ok (.iload_n 1, 1) := by decide +kernel
theorem dX3_begin_7 : decode cX3_begin 7 = .ok (.putfield 32, 3) := by decide +kernel
theorem dX3_begin_10 : decode cX3_begin 10 = .ok (.aload_n 0, 1) := by decide +kernel
theorem dX3_begin_11 : decode cX3_begin 11 = .ok (.getfield 18, 3) := by decide +kernel
theorem dX3_begin_14 : decode cX3_begin 14 = .ok (.invokevirtual 35, 3) := by decide +kernel
theorem dX3_begin_17 : decode cX3_begin 17 = .ok (.aload_n 0, 1) := by decide +kernel
theorem dX3_begin_18 : decode cX3_begin 18 = .ok (.getfield 22, 3) := by decide +kernel
theorem dX3_begin_21 : decode cX3_begin 21 = .ok (.invokevirtual 35, 3) := by decide +kernel
theorem dX3_begin_24 : decode cX3_begin 24 = .ok (.aload_n 0, 1) := by decide +kernel
theorem dX3_begin_25 : decode cX3_begin 25 = .ok (.getfield 25, 3) := by decide +kernel
theorem dX3_begin_28 : decode cX3_begin 28 = .ok (.invokevirtual 35, 3) := by decide +kernel
theorem dX3_begin_31 : decode cX3_begin 31 = .ok (.return_, 1) := by decide +kernel
theorem dX3_stop_0 : decode cX3_stop 0 = .ok (.aload_n 0, 1) := by decide +kernel
theorem dX3_stop_1 : decode cX3_stop 1 = .ok (.iconst 0, 1) := by decide +kernel
theorem dX3_stop_2 : decode cX3_stop 2 = .ok (.putfield 28, 3) := by decide +kernel
theorem dX3_stop_5 : decode cX3_stop 5 = .ok (.aload_n 0, 1) := by decide +kernel
theorem dX3_stop_6 : decode cX3_stop 6 = .ok (.getfield 18, 3) := by decide +kernel
theorem dX3_stop_9 : decode cX3_stop 9 = .ok (.invokevirtual 38, 3) := by decide +kernel
theorem dX3_stop_12 : decode cX3_stop 12 = .ok (.aload_n 0, 1) := by decide +kernel
theorem dX3_stop_13 : decode cX3_stop 13 = .ok (.getfield 22, 3) := by decide +kernel
theorem dX3_stop_16 : decode cX3_stop 16 = .ok (.invokevirtual 38, 3) := by decide +kernel
theorem dX3_stop_19 : decode cX3_stop 19 = .ok (.aload_n 0, 1) := by decide +kernel
theorem dX3_stop_20 : decode cX3_stop 20 = .ok (.getfield 25, 3) := by decide +kernel
theorem dX3_stop_23 : decode cX3_stop 23 = .ok (.invokevirtual 38, 3) := by decide +kernel
theorem dX3_stop_26 : decode cX3_stop 26 = .ok (.return_, 1) := by decide +kernel
theorem dX3_loansOf_0 : decode cX3_loansOf 0 = .ok (.iload_n 1, 1) := by decide +kernel
theorem dX3_loansOf_1 : decode cX3_loansOf 1 = .ok (.ifCond .ne 10, 3) := by decide +kernel
theorem dX3_loansOf_4 : decode cX3_loansOf 4 = .ok (.aload_n 0, 1) := by decide +kernel
theorem dX3_loansOf_5 : decode cX3_loansOf 5 = .ok (.getfield 18, 3) := by decide +kernel
theorem dX3_loansOf_8 : decode cX3_loansOf 8 = .ok (.goto 19, 3) := by decide +kernel
theorem dX3_loansOf_11 : decode cX3_loansOf 11 = .ok (.iload_n 1, 1) := by decide +kernel
theorem dX3_loansOf_12 : decode cX3_loansOf 12 = .ok (.iconst 1, 1) := by decide +kernel
theorem dX3_loansOf_13 : decode cX3_loansOf 13 = .ok (.if_icmp .ne 10, 3) := by decide +kernel
theorem dX3_loansOf_16 : decode cX3_loansOf 16 = .ok (.aload_n 0, 1) := by decide +kernel
theorem dX3_loansOf_17 : decode cX3_loansOf 17 = .ok (.getfield 22, 3) := by decide +kernel
theorem dX3_loansOf_20 : decode cX3_loansOf 20 = .ok (.goto 7, 3) := by decide +kernel
theorem dX3_loansOf_23 : decode cX3_loansOf 23 = .ok (.aload_n 0, 1) := by decide +kernel
theorem dX3_loansOf_24 : decode cX3_loansOf 24 = .ok (.getfield 25, 3) := by decide +kernel
theorem dX3_loansOf_27 : decode cX3_loansOf 27 = .ok (.areturn, 1) := by decide +kernel
theorem dX3_refusal_0 : decode cX3_refusal 0 = .ok (.aload_n 0, 1) := by decide +kernel
theorem dX3_refusal_1 : decode cX3_refusal 1 = .ok (.getfield 28, 3) := by decide +kernel
theorem dX3_refusal_4 : decode cX3_refusal 4 = .ok (.ifCond .ne 6, 3) := by decide +kernel
theorem dX3_refusal_7 : decode cX3_refusal 7 = .ok (.bipush (-4), 2) := by decide +kernel
theorem dX3_refusal_9 : decode cX3_refusal 9 = .ok (.ireturn, 1) := by decide +kernel
theorem dX3_refusal_10 : decode cX3_refusal 10 = .ok (.aload_n 1, 1) := by decide +kernel
theorem dX3_refusal_11 : decode cX3_refusal 11 = .ok (.invokevirtual 41, 3) := by decide +kernel
theorem dX3_refusal_14 : decode cX3_refusal 14 = .ok (.iload_n 2, 1) := by decide +kernel
theorem dX3_refusal_15 : decode cX3_refusal 15 = .ok (.if_icmp .ge 7, 3) := by decide +kernel
theorem dX3_refusal_18 : decode cX3_refusal 18 = .ok (.iconst (-1), 1) := by decide +kernel
theorem dX3_refusal_19 : decode cX3_refusal 19 = .ok (.goto 4, 3) := by decide +kernel
theorem dX3_refusal_22 : decode cX3_refusal 22 = .ok (.iconst 0, 1) := by decide +kernel
theorem dX3_refusal_23 : decode cX3_refusal 23 = .ok (.ireturn, 1) := by decide +kernel
theorem dX3_ask_0 : decode cX3_ask 0 = .ok (.aload_n 0, 1) := by decide +kernel
theorem dX3_ask_1 : decode cX3_ask 1 = .ok (.aload_n 0, 1) := by decide +kernel
theorem dX3_ask_2 : decode cX3_ask 2 = .ok (.getfield 18, 3) := by decide +kernel
theorem dX3_ask_5 : decode cX3_ask 5 = .ok (.aload_n 0, 1) := by decide +kernel
theorem dX3_ask_6 : decode cX3_ask 6 = .ok (.getfield 32, 3) := by decide +kernel
theorem dX3_ask_9 : decode cX3_ask 9 = .ok (.ifCond .eq 7, 3) := by decide +kernel
theorem dX3_ask_12 : decode cX3_ask 12 = .ok (.iconst 1, 1) := by decide +kernel
theorem dX3_ask_13 : decode cX3_ask 13 = .ok (.goto 4, 3) := by decide +kernel
theorem dX3_ask_16 : decode cX3_ask 16 = .ok (.iconst 3, 1) := by decide +kernel
theorem dX3_ask_17 : decode cX3_ask 17 = .ok (.invokevirtual 45, 3) := by decide +kernel
theorem dX3_ask_20 : decode cX3_ask 20 = .ok (.istore 5, 2) := by decide +kernel
theorem dX3_ask_22 : decode cX3_ask 22 = .ok (.iload 5, 2) := by decide +kernel
theorem dX3_ask_24 : decode cX3_ask 24 = .ok (.ifCond .eq 6, 3) := by decide +kernel
theorem dX3_ask_27 : decode cX3_ask 27 = .ok (.iload 5, 2) := by decide +kernel
theorem dX3_ask_29 : decode cX3_ask 29 = .ok (.ireturn, 1) := by decide +kernel
theorem dX3_ask_30 : decode cX3_ask 30 = .ok (.aload_n 0, 1) := by decide +kernel
theorem dX3_ask_31 : decode cX3_ask 31 = .ok (.getfield 18, 3) := by decide +kernel
theorem dX3_ask_34 : decode cX3_ask 34 = .ok (.invokevirtual 49, 3) := by decide +kernel
theorem dX3_ask_37 : decode cX3_ask 37 = .ok (.istore 6, 2) := by decide +kernel
theorem dX3_ask_39 : decode cX3_ask 39 = .ok (.sipush 1024, 3) := by decide +kernel
theorem dX3_ask_42 : decode cX3_ask 42 = .ok (.bipush 96, 2) := by decide +kernel
theorem dX3_ask_44 : decode cX3_ask 44 = .ok (.iload 6, 2) := by decide +kernel
theorem dX3_ask_46 : decode cX3_ask 46 = .ok (.imul, 1) := by decide +kernel
theorem dX3_ask_47 : decode cX3_ask 47 = .ok (.iadd, 1) := by decide +kernel
theorem dX3_ask_48 : decode cX3_ask 48 = .ok (.istore 7, 2) := by decide +kernel
theorem dX3_ask_50 : decode cX3_ask 50 = .ok (.aload_n 0, 1) := by decide +kernel
theorem dX3_ask_51 : decode cX3_ask 51 = .ok (.getfield 32, 3) := by decide +kernel
theorem dX3_ask_54 : decode cX3_ask 54 = .ok (.ifCond .eq 49, 3) := by decide +kernel
theorem dX3_ask_57 : decode cX3_ask 57 = .ok (.sipush 1792, 3) := by decide +kernel
theorem dX3_ask_60 : decode cX3_ask 60 = .ok (.bipush 64, 2) := by decide +kernel
theorem dX3_ask_62 : decode cX3_ask 62 = .ok (.iload 6, 2) := by decide +kernel
theorem dX3_ask_64 : decode cX3_ask 64 = .ok (.imul, 1) := by decide +kernel
theorem dX3_ask_65 : decode cX3_ask 65 = .ok (.iadd, 1) := by decide +kernel
theorem dX3_ask_66 : decode cX3_ask 66 = .ok (.istore 8, 2) := by decide +kernel
theorem dX3_ask_68 : decode cX3_ask 68 = .ok (.aload_n 0, 1) := by decide +kernel
theorem dX3_ask_69 : decode cX3_ask 69 = .ok (.getfield 9, 3) := by decide +kernel
theorem dX3_ask_72 : decode cX3_ask 72 = .ok (.aload_n 0, 1) := by decide +kernel
theorem dX3_ask_73 : decode cX3_ask 73 = .ok (.iconst 0, 1) := by decide +kernel
theorem dX3_ask_74 : decode cX3_ask 74 = .ok (.iload 6, 2) := by decide +kernel
theorem dX3_ask_76 : decode cX3_ask 76 = .ok (.invokevirtual 52, 3) := by decide +kernel
theorem dX3_ask_79 : decode cX3_ask 79 = .ok (.iload 8, 2) := by decide +kernel
theorem dX3_ask_81 : decode cX3_ask 81 = .ok (.bipush 48, 2) := by decide +kernel
theorem dX3_ask_83 : decode cX3_ask 83 = .ok (.iconst 4, 1) := by decide +kernel
theorem dX3_ask_84 : decode cX3_ask 84 = .ok (.iconst 0, 1) := by decide +kernel
theorem dX3_ask_85 : decode cX3_ask 85 = .ok (.invokevirtual 56, 3) := by decide +kernel
theorem dX3_ask_88 : decode cX3_ask 88 = .ok (.aload_n 0, 1) := by decide +kernel
theorem dX3_ask_89 : decode cX3_ask 89 = .ok (.iload 8, 2) := by decide +kernel
theorem dX3_ask_91 : decode cX3_ask 91 = .ok (.iconst 0, 1) := by decide +kernel
theorem dX3_ask_92 : decode cX3_ask 92 = .ok (.iconst 1, 1) := by decide +kernel
theorem dX3_ask_93 : decode cX3_ask 93 = .ok (.iconst 2, 1) := by decide +kernel
theorem dX3_ask_94 : decode cX3_ask 94 = .ok (.iload 7, 2) := by decide +kernel
theorem dX3_ask_96 : decode cX3_ask 96 = .ok (.iload_n 1, 1) := by decide +kernel
theorem dX3_ask_97 : decode cX3_ask 97 = .ok (.invokevirtual 62, 3) := by decide +kernel
theorem dX3_ask_100 : decode cX3_ask 100 = .ok (.goto 42, 3) := by decide +kernel
theorem dX3_ask_103 : decode cX3_ask 103 = .ok (.aload_n 0, 1) := by decide +kernel
theorem dX3_ask_104 : decode cX3_ask 104 = .ok (.getfield 18, 3) := by decide +kernel
theorem dX3_ask_107 : decode cX3_ask 107 = .ok (.iload 6, 2) := by decide +kernel
theorem dX3_ask_109 : decode cX3_ask 109 = .ok (.invokevirtual 66, 3) := by decide +kernel
theorem dX3_ask_112 : decode cX3_ask 112 = .ok (.istore 8, 2) := by decide +kernel
theorem dX3_ask_114 : decode cX3_ask 114 = .ok (.aload_n 0, 1) := by decide +kernel
theorem dX3_ask_115 : decode cX3_ask 115 = .ok (.getfield 18, 3) := by decide +kernel
theorem dX3_ask_118 : decode cX3_ask 118 = .ok (.iload 6, 2) := by decide +kernel
theorem dX3_ask_120 : decode cX3_ask 120 = .ok (.invokevirtual 66, 3) := by decide +kernel
theorem dX3_ask_123 : decode cX3_ask 123 = .ok (.istore 9, 2) := by decide +kernel
theorem dX3_ask_125 : decode cX3_ask 125 = .ok (.aload_n 0, 1) := by decide +kernel
theorem dX3_ask_126 : decode cX3_ask 126 = .ok (.iconst 0, 1) := by decide +kernel
theorem dX3_ask_127 : decode cX3_ask 127 = .ok (.invokestatic 70, 3) := by decide +kernel
theorem dX3_ask_130 : decode cX3_ask 130 = .ok (.iload 6, 2) := by decide +kernel
theorem dX3_ask_132 : decode cX3_ask 132 = .ok (.iload 8, 2) := by decide +kernel
theorem dX3_ask_134 : decode cX3_ask 134 = .ok (.iload 9, 2) := by decide +kernel
theorem dX3_ask_136 : decode cX3_ask 136 = .ok (.iload 7, 2) := by decide +kernel
theorem dX3_ask_138 : decode cX3_ask 138 = .ok (.iload_n 1, 1) := by decide +kernel
theorem dX3_ask_139 : decode cX3_ask 139 = .ok (.invokevirtual 62, 3) := by decide +kernel
theorem dX3_ask_142 : decode cX3_ask 142 = .ok (.aload_n 0, 1) := by decide +kernel
theorem dX3_ask_143 : decode cX3_ask 143 = .ok (.iload 7, 2) := by decide +kernel
theorem dX3_ask_145 : decode cX3_ask 145 = .ok (.iload_n 1, 1) := by decide +kernel
theorem dX3_ask_146 : decode cX3_ask 146 = .ok (.iload_n 2, 1) := by decide +kernel
theorem dX3_ask_147 : decode cX3_ask 147 = .ok (.lload_n 3, 1) := by decide +kernel
theorem dX3_ask_148 : decode cX3_ask 148 = .ok (.invokevirtual 73, 3) := by decide +kernel
theorem dX3_ask_151 : decode cX3_ask 151 = .ok (.aload_n 0, 1) := by decide +kernel
theorem dX3_ask_152 : decode cX3_ask 152 = .ok (.iconst 0, 1) := by decide +kernel
theorem dX3_ask_153 : decode cX3_ask 153 = .ok (.iload 6, 2) := by decide +kernel
theorem dX3_ask_155 : decode cX3_ask 155 = .ok (.invokevirtual 77, 3) := by decide +kernel
theorem dX3_ask_158 : decode cX3_ask 158 = .ok (.iload 6, 2) := by decide +kernel
theorem dX3_ask_160 : decode cX3_ask 160 = .ok (.ireturn, 1) := by decide +kernel
theorem dX3_layRequest_0 : decode cX3_layRequest 0 = .ok (.iload 6, 2) := by decide +kernel
theorem dX3_layRequest_2 : decode cX3_layRequest 2 = .ok (.ifCond .ne 7, 3) := by decide +kernel
theorem dX3_layRequest_5 : decode cX3_layRequest 5 = .ok (.iconst 3, 1) := by decide +kernel
theorem dX3_layRequest_6 : decode cX3_layRequest 6 = .ok (.goto 4, 3) := by decide +kernel
theorem dX3_layRequest_9 : decode cX3_layRequest 9 = .ok (.iconst 1, 1) := by decide +kernel
theorem dX3_layRequest_10 : decode cX3_layRequest 10 = .ok (.istore 7, 2) := by decide +kernel
theorem dX3_layRequest_12 : decode cX3_layRequest 12 = .ok (.aload_n 0, 1) := by decide +kernel
theorem dX3_layRequest_13 : decode cX3_layRequest 13 = .ok (.getfield 9, 3) := by decide +kernel
theorem dX3_layRequest_16 : decode cX3_layRequest 16 = .ok (.iload_n 1, 1) := by decide +kernel
theorem dX3_layRequest_17 : decode cX3_layRequest 17 = .ok (.bipush 16, 2) := by decide +kernel
theorem dX3_layRequest_19 : decode cX3_layRequest 19 = .ok (.iload_n 2, 1) := by decide +kernel
theorem dX3_layRequest_20 : decode cX3_layRequest 20 = .ok (.imul, 1) := by decide +kernel
theorem dX3_layRequest_21 : decode cX3_layRequest 21 = .ok (.iadd, 1) := by decide +kernel
theorem dX3_layRequest_22 : decode cX3_layRequest 22 = .ok (.iload 5, 2) := by decide +kernel
theorem dX3_layRequest_24 : decode cX3_layRequest 24 = .ok (.bipush 16, 2) := by decide +kernel
theorem dX3_layRequest_26 : decode cX3_layRequest 26 = .ok (.iconst 1, 1) := by decide +kernel
theorem dX3_layRequest_27 : decode cX3_layRequest 27 = .ok (.iload_n 3, 1) := by decide +kernel
theorem dX3_layRequest_28 : decode cX3_layRequest 28 = .ok (.invokevirtual 56, 3) := by decide +kernel
theorem dX3_layRequest_31 : decode cX3_layRequest 31 = .ok (.aload_n 0, 1) := by decide +kernel
theorem dX3_layRequest_32 : decode cX3_layRequest 32 = .ok (.getfield 9, 3) := by decide +kernel
theorem dX3_layRequest_35 : decode cX3_layRequest 35 = .ok (.iload_n 1, 1) := by decide +kernel
theorem dX3_layRequest_36 : decode cX3_layRequest 36 = .ok (.bipush 16, 2) := by decide +kernel
theorem dX3_layRequest_38 : decode cX3_layRequest 38 = .ok (.iload_n 3, 1) := by decide +kernel
theorem dX3_layRequest_39 : decode cX3_layRequest 39 = .ok (.imul, 1) := by decide +kernel
theorem dX3_layRequest_40 : decode cX3_layRequest 40 = .ok (.iadd, 1) := by decide +kernel
theorem dX3_layRequest_41 : decode cX3_layRequest 41 = .ok (.iload 5, 2) := by decide +kernel
theorem dX3_layRequest_43 : decode cX3_layRequest 43 = .ok (.bipush 16, 2) := by decide +kernel
theorem dX3_layRequest_45 : decode cX3_layRequest 45 = .ok (.iadd, 1) := by decide +kernel
theorem dX3_layRequest_46 : decode cX3_layRequest 46 = .ok (.bipush 64, 2) := by decide +kernel
theorem dX3_layRequest_48 : decode cX3_layRequest 48 = .ok (.iload 7, 2) := by decide +kernel
theorem dX3_layRequest_50 : decode cX3_layRequest 50 = .ok (.iload 4, 2) := by decide +kernel
theorem dX3_layRequest_52 : decode cX3_layRequest 52 = .ok (.invokevirtual 56, 3) := by decide +kernel
theorem dX3_layRequest_55 : decode cX3_layRequest 55 = .ok (.aload_n 0, 1) := by decide +kernel
theorem dX3_layRequest_56 : decode cX3_layRequest 56 = .ok (.getfield 9, 3) := by decide +kernel
theorem dX3_layRequest_59 : decode cX3_layRequest 59 = .ok (.iload_n 1, 1) := by decide +kernel
theorem dX3_layRequest_60 : decode cX3_layRequest 60 = .ok (.bipush 16, 2) := by decide +kernel
theorem dX3_layRequest_62 : decode cX3_layRequest 62 = .ok (.iload 4, 2) := by decide +kernel
theorem dX3_layRequest_64 : decode cX3_layRequest 64 = .ok (.imul, 1) := by decide +kernel
theorem dX3_layRequest_65 : decode cX3_layRequest 65 = .ok (.iadd, 1) := by decide +kernel
theorem dX3_layRequest_66 : decode cX3_layRequest 66 = .ok (.iload 5, 2) := by decide +kernel
theorem dX3_layRequest_68 : decode cX3_layRequest 68 = .ok (.bipush 80, 2) := by decide +kernel
theorem dX3_layRequest_70 : decode cX3_layRequest 70 = .ok (.iadd, 1) := by decide +kernel
theorem dX3_layRequest_71 : decode cX3_layRequest 71 = .ok (.iconst 1, 1) := by decide +kernel
theorem dX3_layRequest_72 : decode cX3_layRequest 72 = .ok (.iconst 2, 1) := by decide +kernel
theorem dX3_layRequest_73 : decode cX3_layRequest 73 = .ok (.iconst 0, 1) := by decide +kernel
theorem dX3_layRequest_74 : decode cX3_layRequest 74 = .ok (.invokevirtual 56, 3) := by decide +kernel
theorem dX3_layRequest_77 : decode cX3_layRequest 77 = .ok (.return_, 1) := by decide +kernel
theorem dX3_fillRequest_0 : decode cX3_fillRequest 0 = .ok (.aload_n 0, 1) := by decide +kernel
theorem dX3_fillRequest_1 : decode cX3_fillRequest 1 = .ok (.getfield 9, 3) := by decide +kernel
theorem dX3_fillRequest_4 : decode cX3_fillRequest 4 = .ok (.iload_n 1, 1) := by decide +kernel
theorem dX3_fillRequest_5 : decode cX3_fillRequest 5 = .ok (.bipush 8, 2) := by decide +kernel
theorem dX3_fillRequest_7 : decode cX3_fillRequest 7 = .ok (.iload_n 2, 1) := by decide +kernel
theorem dX3_fillRequest_8 : decode cX3_fillRequest 8 = .ok (.i2l, 1) := by decide +kernel
theorem dX3_fillRequest_9 : decode cX3_fillRequest 9 = .ok (.invokevirtual 81, 3) := by decide +kernel
theorem dX3_fillRequest_12 : decode cX3_fillRequest 12 = .ok (.aload_n 0, 1) := by decide +kernel
theorem dX3_fillRequest_13 : decode cX3_fillRequest 13 = .ok (.getfield 9, 3) := by decide +kernel
theorem dX3_fillRequest_16 : decode cX3_fillRequest 16 = .ok (.iload_n 1, 1) := by decide +kernel
theorem dX3_fillRequest_17 : decode cX3_fillRequest 17 = .ok (.bipush 8, 2) := by decide +kernel
theorem dX3_fillRequest_19 : decode cX3_fillRequest 19 = .ok (.iadd, 1) := by decide +kernel
theorem dX3_fillRequest_20 : decode cX3_fillRequest 20 = .ok (.bipush 8, 2) := by decide +kernel
theorem dX3_fillRequest_22 : decode cX3_fillRequest 22 = .ok (.iload_n 3, 1) := by decide +kernel
theorem dX3_fillRequest_23 : decode cX3_fillRequest 23 = .ok (.i2l, 1) := by decide +kernel
theorem dX3_fillRequest_24 : decode cX3_fillRequest 24 = .ok (.invokevirtual 81, 3) := by decide +kernel
theorem dX3_fillRequest_27 : decode cX3_fillRequest 27 = .ok (.iload_n 2, 1) := by decide +kernel
theorem dX3_fillRequest_28 : decode cX3_fillRequest 28 = .ok (.iconst 1, 1) := by decide +kernel
theorem dX3_fillRequest_29 : decode cX3_fillRequest 29 = .ok (.if_icmp .ne 15, 3) := by decide +kernel
theorem dX3_fillRequest_32 : decode cX3_fillRequest 32 = .ok (.aload_n 0, 1) := by decide +kernel
theorem dX3_fillRequest_33 : decode cX3_fillRequest 33 = .ok (.iload_n 1, 1) := by decide +kernel
theorem dX3_fillRequest_34 : decode cX3_fillRequest 34 = .ok (.bipush 16, 2) := by decide +kernel
theorem dX3_fillRequest_36 : decode cX3_fillRequest 36 = .ok (.iadd, 1) := by decide +kernel
theorem dX3_fillRequest_37 : decode cX3_fillRequest 37 = .ok (.bipush 64, 2) := by decide +kernel
theorem dX3_fillRequest_39 : decode cX3_fillRequest 39 = .ok (.lload 4, 2) := by decide +kernel
theorem dX3_fillRequest_41 : decode cX3_fillRequest 41 = .ok (.invokevirtual 85, 3) := by decide +kernel
theorem dX3_fillRequest_44 : decode cX3_fillRequest 44 = .ok (.return_, 1) := by decide +kernel
theorem dX3_fillPattern_0 : decode cX3_fillPattern 0 = .ok (.iconst 0, 1) := by decide +kernel
theorem dX3_fillPattern_1 : decode cX3_fillPattern 1 = .ok (.istore 5, 2) := by decide +kernel
theorem dX3_fillPattern_3 : decode cX3_fillPattern 3 = .ok (.iload 5, 2) := by decide +kernel
theorem dX3_fillPattern_5 : decode cX3_fillPattern 5 = .ok (.iload_n 2, 1) := by decide +kernel
theorem dX3_fillPattern_6 : decode cX3_fillPattern 6 = .ok (.if_icmp .ge 26, 3) := by decide +kernel
theorem dX3_fillPattern_9 : decode cX3_fillPattern 9 = .ok (.aload_n 0, 1) := by decide +kernel
theorem dX3_fillPattern_10 : decode cX3_fillPattern 10 = .ok (.getfield 9, 3) := by decide +kernel
theorem dX3_fillPattern_13 : decode cX3_fillPattern 13 = .ok (.iload_n 1, 1) := by decide +kernel
theorem dX3_fillPattern_14 : decode cX3_fillPattern 14 = .ok (.iload 5, 2) := by decide +kernel
theorem dX3_fillPattern_16 : decode cX3_fillPattern 16 = .ok (.iadd, 1) := by decide +kernel
theorem dX3_fillPattern_17 : decode cX3_fillPattern 17 = .ok (.lload_n 3, 1) := by decide +kernel
theorem dX3_fillPattern_18 : decode cX3_fillPattern 18 = .ok (.iload 5, 2) := by decide +kernel
theorem dX3_fillPattern_20 : decode cX3_fillPattern 20 = .ok (.invokestatic 88, 3) := by decide +kernel
theorem dX3_fillPattern_23 : decode cX3_fillPattern 23 = .ok (.invokevirtual 92, 3) := by decide +kernel
theorem dX3_fillPattern_26 : decode cX3_fillPattern 26 = .ok (.iinc 5 1, 3) := by decide +kernel
theorem dX3_fillPattern_29 : decode cX3_fillPattern 29 = .ok (.goto (-26), 3) := by decide +kernel
theorem dX3_fillPattern_32 : decode cX3_fillPattern 32 = .ok (.return_, 1) := by decide +kernel
theorem dX3_letGo_0 : decode cX3_letGo 0 = .ok (.aload_n 0, 1) := by decide +kernel
theorem dX3_letGo_1 : decode cX3_letGo 1 = .ok (.aload_n 0, 1) := by decide +kernel
theorem dX3_letGo_2 : decode cX3_letGo 2 = .ok (.getfield 25, 3) := by decide +kernel
theorem dX3_letGo_5 : decode cX3_letGo 5 = .ok (.iconst 2, 1) := by decide +kernel
theorem dX3_letGo_6 : decode cX3_letGo 6 = .ok (.invokevirtual 45, 3) := by decide +kernel
theorem dX3_letGo_9 : decode cX3_letGo 9 = .ok (.istore 4, 2) := by decide +kernel
theorem dX3_letGo_11 : decode cX3_letGo 11 = .ok (.iload 4, 2) := by decide +kernel
theorem dX3_letGo_13 : decode cX3_letGo 13 = .ok (.ifCond .eq 6, 3) := by decide +kernel
theorem dX3_letGo_16 : decode cX3_letGo 16 = .ok (.iload 4, 2) := by decide +kernel
theorem dX3_letGo_18 : decode cX3_letGo 18 = .ok (.ireturn, 1) := by decide +kernel
theorem dX3_letGo_19 : decode cX3_letGo 19 = .ok (.aload_n 0, 1) := by decide +kernel
theorem dX3_letGo_20 : decode cX3_letGo 20 = .ok (.getfield 25, 3) := by decide +kernel
theorem dX3_letGo_23 : decode cX3_letGo 23 = .ok (.invokevirtual 49, 3) := by decide +kernel
theorem dX3_letGo_26 : decode cX3_letGo 26 = .ok (.istore 5, 2) := by decide +kernel
theorem dX3_letGo_28 : decode cX3_letGo 28 = .ok (.aload_n 0, 1) := by decide +kernel
theorem dX3_letGo_29 : decode cX3_letGo 29 = .ok (.getfield 25, 3) := by decide +kernel
theorem dX3_letGo_32 : decode cX3_letGo 32 = .ok (.iload 5, 2) := by decide +kernel
theorem dX3_letGo_34 : decode cX3_letGo 34 = .ok (.invokevirtual 66, 3) := by decide +kernel
theorem dX3_letGo_37 : decode cX3_letGo 37 = .ok (.istore 6, 2) := by decide +kernel
theorem dX3_letGo_39 : decode cX3_letGo 39 = .ok (.sipush 2304, 3) := by decide +kernel
theorem dX3_letGo_42 : decode cX3_letGo 42 = .ok (.bipush 96, 2) := by decide +kernel
theorem dX3_letGo_44 : decode cX3_letGo 44 = .ok (.iload 5, 2) := by decide +kernel
theorem dX3_letGo_46 : decode cX3_letGo 46 = .ok (.imul, 1) := by decide +kernel
theorem dX3_letGo_47 : decode cX3_letGo 47 = .ok (.iadd, 1) := by decide +kernel
theorem dX3_letGo_48 : decode cX3_letGo 48 = .ok (.istore 7, 2) := by decide +kernel
theorem dX3_letGo_50 : decode cX3_letGo 50 = .ok (.aload_n 0, 1) := by decide +kernel
theorem dX3_letGo_51 : decode cX3_letGo 51 = .ok (.getfield 9, 3) := by decide +kernel
theorem dX3_letGo_54 : decode cX3_letGo 54 = .ok (.aload_n 0, 1) := by decide +kernel
theorem dX3_letGo_55 : decode cX3_letGo 55 = .ok (.iconst 2, 1) := by decide +kernel
theorem dX3_letGo_56 : decode cX3_letGo 56 = .ok (.iload 5, 2) := by decide +kernel
theorem dX3_letGo_58 : decode cX3_letGo 58 = .ok (.invokevirtual 52, 3) := by decide +kernel
theorem dX3_letGo_61 : decode cX3_letGo 61 = .ok (.iload 7, 2) := by decide +kernel
theorem dX3_letGo_63 : decode cX3_letGo 63 = .ok (.bipush 12, 2) := by decide +kernel
theorem dX3_letGo_65 : decode cX3_letGo 65 = .ok (.iconst 1, 1) := by decide +kernel
theorem dX3_letGo_66 : decode cX3_letGo 66 = .ok (.iload 6, 2) := by decide +kernel
theorem dX3_letGo_68 : decode cX3_letGo 68 = .ok (.invokevirtual 56, 3) := by decide +kernel
theorem dX3_letGo_71 : decode cX3_letGo 71 = .ok (.aload_n 0, 1) := by decide +kernel
theorem dX3_letGo_72 : decode cX3_letGo 72 = .ok (.getfield 9, 3) := by decide +kernel
theorem dX3_letGo_75 : decode cX3_letGo 75 = .ok (.aload_n 0, 1) := by decide +kernel
theorem dX3_letGo_76 : decode cX3_letGo 76 = .ok (.iconst 2, 1) := by decide +kernel
theorem dX3_letGo_77 : decode cX3_letGo 77 = .ok (.iload 6, 2) := by decide +kernel
theorem dX3_letGo_79 : decode cX3_letGo 79 = .ok (.invokevirtual 52, 3) := by decide +kernel
theorem dX3_letGo_82 : decode cX3_letGo 82 = .ok (.iload 7, 2) := by decide +kernel
theorem dX3_letGo_84 : decode cX3_letGo 84 = .ok (.bipush 12, 2) := by decide +kernel
theorem dX3_letGo_86 : decode cX3_letGo 86 = .ok (.iadd, 1) := by decide +kernel
theorem dX3_letGo_87 : decode cX3_letGo 87 = .ok (.iload_n 1, 1) := by decide +kernel
theorem dX3_letGo_88 : decode cX3_letGo 88 = .ok (.iconst 0, 1) := by decide +kernel
theorem dX3_letGo_89 : decode cX3_letGo 89 = .ok (.iconst 0, 1) := by decide +kernel
theorem dX3_letGo_90 : decode cX3_letGo 90 = .ok (.invokevirtual 56, 3) := by decide +kernel
theorem dX3_letGo_93 : decode cX3_letGo 93 = .ok (.aload_n 0, 1) := by decide +kernel
theorem dX3_letGo_94 : decode cX3_letGo 94 = .ok (.getfield 9, 3) := by decide +kernel
theorem dX3_letGo_97 : decode cX3_letGo 97 = .ok (.iload 7, 2) := by decide +kernel
theorem dX3_letGo_99 : decode cX3_letGo 99 = .ok (.bipush 8, 2) := by decide +kernel
theorem dX3_letGo_101 : decode cX3_letGo 101 = .ok (.lconst 0, 1) := by decide +kernel
theorem dX3_letGo_102 : decode cX3_letGo 102 = .ok (.invokevirtual 81, 3) := by decide +kernel
theorem dX3_letGo_105 : decode cX3_letGo 105 = .ok (.aload_n 0, 1) := by decide +kernel
theorem dX3_letGo_106 : decode cX3_letGo 106 = .ok (.getfield 9, 3) := by decide +kernel
theorem dX3_letGo_109 : decode cX3_letGo 109 = .ok (.iload 7, 2) := by decide +kernel
theorem dX3_letGo_111 : decode cX3_letGo 111 = .ok (.bipush 8, 2) := by decide +kernel
theorem dX3_letGo_113 : decode cX3_letGo 113 = .ok (.iadd, 1) := by decide +kernel
theorem dX3_letGo_114 : decode cX3_letGo 114 = .ok (.iconst 4, 1) := by decide +kernel
theorem dX3_letGo_115 : decode cX3_letGo 115 = .ok (.lconst 0, 1) := by decide +kernel
theorem dX3_letGo_116 : decode cX3_letGo 116 = .ok (.invokevirtual 81, 3) := by decide +kernel
theorem dX3_letGo_119 : decode cX3_letGo 119 = .ok (.aload_n 0, 1) := by decide +kernel
theorem dX3_letGo_120 : decode cX3_letGo 120 = .ok (.iload 7, 2) := by decide +kernel
theorem dX3_letGo_122 : decode cX3_letGo 122 = .ok (.bipush 12, 2) := by decide +kernel
theorem dX3_letGo_124 : decode cX3_letGo 124 = .ok (.iadd, 1) := by decide +kernel
theorem dX3_letGo_125 : decode cX3_letGo 125 = .ok (.iload_n 1, 1) := by decide +kernel
theorem dX3_letGo_126 : decode cX3_letGo 126 = .ok (.lload_n 2, 1) := by decide +kernel
theorem dX3_letGo_127 : decode cX3_letGo 127 = .ok (.invokevirtual 85, 3) := by decide +kernel
theorem dX3_letGo_130 : decode cX3_letGo 130 = .ok (.aload_n 0, 1) := by decide +kernel
theorem dX3_letGo_131 : decode cX3_letGo 131 = .ok (.iconst 2, 1) := by decide +kernel
theorem dX3_letGo_132 : decode cX3_letGo 132 = .ok (.iload 5, 2) := by decide +kernel
theorem dX3_letGo_134 : decode cX3_letGo 134 = .ok (.invokevirtual 77, 3) := by decide +kernel
theorem dX3_letGo_137 : decode cX3_letGo 137 = .ok (.iload 5, 2) := by decide +kernel
theorem dX3_letGo_139 : decode cX3_letGo 139 = .ok (.ireturn, 1) := by decide +kernel
theorem dX3_lendBuffer_0 : decode cX3_lendBuffer 0 = .ok (.aload_n 0, 1) := by decide +kernel
theorem dX3_lendBuffer_1 : decode cX3_lendBuffer 1 = .ok (.aload_n 0, 1) := by decide +kernel
theorem dX3_lendBuffer_2 : decode cX3_lendBuffer 2 = .ok (.getfield 22, 3) := by decide +kernel
theorem dX3_lendBuffer_5 : decode cX3_lendBuffer 5 = .ok (.iconst 1, 1) := by decide +kernel
theorem dX3_lendBuffer_6 : decode cX3_lendBuffer 6 = .ok (.invokevirtual 45, 3) := by decide +kernel
theorem dX3_lendBuffer_9 : decode cX3_lendBuffer 9 = .ok (.istore_n 1, 1) := by decide +kernel
theorem dX3_lendBuffer_10 : decode cX3_lendBuffer 10 = .ok (.iload_n 1, 1) := by decide +kernel
theorem dX3_lendBuffer_11 : decode cX3_lendBuffer 11 = .ok (.ifCond .eq 5, 3) := by decide +kernel
theorem dX3_lendBuffer_14 : decode cX3_lendBuffer 14 = .ok (.iload_n 1, 1) := by decide +kernel
theorem dX3_lendBuffer_15 : decode cX3_lendBuffer 15 = .ok (.ireturn, 1) := by decide +kernel
theorem dX3_lendBuffer_16 : decode cX3_lendBuffer 16 = .ok (.aload_n 0, 1) := by decide +kernel
theorem dX3_lendBuffer_17 : decode cX3_lendBuffer 17 = .ok (.getfield 22, 3) := by decide +kernel
theorem dX3_lendBuffer_20 : decode cX3_lendBuffer 20 = .ok (.invokevirtual 49, 3) := by decide +kernel
theorem dX3_lendBuffer_23 : decode cX3_lendBuffer 23 = .ok (.istore_n 2, 1) := by decide +kernel
theorem dX3_lendBuffer_24 : decode cX3_lendBuffer 24 = .ok (.sipush 3072, 3) := by decide +kernel
theorem dX3_lendBuffer_27 : decode cX3_lendBuffer 27 = .ok (.bipush 96, 2) := by decide +kernel
theorem dX3_lendBuffer_29 : decode cX3_lendBuffer 29 = .ok (.iload_n 2, 1) := by decide +kernel
theorem dX3_lendBuffer_30 : decode cX3_lendBuffer 30 = .ok (.imul, 1) := by decide +kernel
theorem dX3_lendBuffer_31 : decode cX3_lendBuffer 31 = .ok (.iadd, 1) := by decide +kernel
theorem dX3_lendBuffer_32 : decode cX3_lendBuffer 32 = .ok (.istore_n 3, 1) := by decide +kernel
theorem dX3_lendBuffer_33 : decode cX3_lendBuffer 33 = .ok (.aload_n 0, 1) := by decide +kernel
theorem dX3_lendBuffer_34 : decode cX3_lendBuffer 34 = .ok (.getfield 9, 3) := by decide +kernel
theorem dX3_lendBuffer_37 : decode cX3_lendBuffer 37 = .ok (.aload_n 0, 1) := by decide +kernel
theorem dX3_lendBuffer_38 : decode cX3_lendBuffer 38 = .ok (.iconst 1, 1) := by decide +kernel
theorem dX3_lendBuffer_39 : decode cX3_lendBuffer 39 = .ok (.iload_n 2, 1) := by decide +kernel
theorem dX3_lendBuffer_40 : decode cX3_lendBuffer 40 = .ok (.invokevirtual 52, 3) := by decide +kernel
theorem dX3_lendBuffer_43 : decode cX3_lendBuffer 43 = .ok (.iload_n 3, 1) := by decide +kernel
theorem dX3_lendBuffer_44 : decode cX3_lendBuffer 44 = .ok (.bipush 92, 2) := by decide +kernel
theorem dX3_lendBuffer_46 : decode cX3_lendBuffer 46 = .ok (.iconst 2, 1) := by decide +kernel
theorem dX3_lendBuffer_47 : decode cX3_lendBuffer 47 = .ok (.iconst 0, 1) := by decide +kernel
theorem dX3_lendBuffer_48 : decode cX3_lendBuffer 48 = .ok (.invokevirtual 56, 3) := by decide +kernel
theorem dX3_lendBuffer_51 : decode cX3_lendBuffer 51 = .ok (.aload_n 0, 1) := by decide +kernel
theorem dX3_lendBuffer_52 : decode cX3_lendBuffer 52 = .ok (.iconst 1, 1) := by decide +kernel
theorem dX3_lendBuffer_53 : decode cX3_lendBuffer 53 = .ok (.iload_n 2, 1) := by decide +kernel
theorem dX3_lendBuffer_54 : decode cX3_lendBuffer 54 = .ok (.invokevirtual 77, 3) := by decide +kernel
theorem dX3_lendBuffer_57 : decode cX3_lendBuffer 57 = .ok (.iload_n 2, 1) := by decide +kernel
theorem dX3_lendBuffer_58 : decode cX3_lendBuffer 58 = .ok (.ireturn, 1) := by decide +kernel
theorem dX3_descriptorAt_0 : decode cX3_descriptorAt 0 = .ok (.iload_n 1, 1) := by decide +kernel
theorem dX3_descriptorAt_1 : decode cX3_descriptorAt 1 = .ok (.invokestatic 70, 3) := by decide +kernel
theorem dX3_descriptorAt_4 : decode cX3_descriptorAt 4 = .ok (.bipush 16, 2) := by decide +kernel
theorem dX3_descriptorAt_6 : decode cX3_descriptorAt 6 = .ok (.iload_n 2, 1) := by decide +kernel
theorem dX3_descriptorAt_7 : decode cX3_descriptorAt 7 = .ok (.imul, 1) := by decide +kernel
theorem dX3_descriptorAt_8 : decode cX3_descriptorAt 8 = .ok (.iadd, 1) := by decide +kernel
theorem dX3_descriptorAt_9 : decode cX3_descriptorAt 9 = .ok (.ireturn, 1) := by decide +kernel
theorem dX3_offer_0 : decode cX3_offer 0 = .ok (.aload_n 0, 1) := by decide +kernel
theorem dX3_offer_1 : decode cX3_offer 1 = .ok (.iload_n 1, 1) := by decide +kernel
theorem dX3_offer_2 : decode cX3_offer 2 = .ok (.invokevirtual 95, 3) := by decide +kernel
theorem dX3_offer_5 : decode cX3_offer 5 = .ok (.astore_n 3, 1) := by decide +kernel
theorem dX3_offer_6 : decode cX3_offer 6 = .ok (.iload_n 1, 1) := by decide +kernel
theorem dX3_offer_7 : decode cX3_offer 7 = .ok (.invokestatic 99, 3) := by decide +kernel
theorem dX3_offer_10 : decode cX3_offer 10 = .ok (.istore 4, 2) := by decide +kernel
theorem dX3_offer_12 : decode cX3_offer 12 = .ok (.iload 4, 2) := by decide +kernel
theorem dX3_offer_14 : decode cX3_offer 14 = .ok (.iconst 4, 1) := by decide +kernel
theorem dX3_offer_15 : decode cX3_offer 15 = .ok (.iadd, 1) := by decide +kernel
theorem dX3_offer_16 : decode cX3_offer 16 = .ok (.iconst 2, 1) := by decide +kernel
theorem dX3_offer_17 : decode cX3_offer 17 = .ok (.aload_n 3, 1) := by decide +kernel
theorem dX3_offer_18 : decode cX3_offer 18 = .ok (.getfield 102, 3) := by decide +kernel
theorem dX3_offer_21 : decode cX3_offer 21 = .ok (.bipush 8, 2) := by decide +kernel
theorem dX3_offer_23 : decode cX3_offer 23 = .ok (.irem, 1) := by decide +kernel
theorem dX3_offer_24 : decode cX3_offer 24 = .ok (.imul, 1) := by decide +kernel
theorem dX3_offer_25 : decode cX3_offer 25 = .ok (.iadd, 1) := by decide +kernel
theorem dX3_offer_26 : decode cX3_offer 26 = .ok (.istore 5, 2) := by decide +kernel
theorem dX3_offer_28 : decode cX3_offer 28 = .ok (.aload_n 0, 1) := by decide +kernel
theorem dX3_offer_29 : decode cX3_offer 29 = .ok (.getfield 9, 3) := by decide +kernel
theorem dX3_offer_32 : decode cX3_offer 32 = .ok (.iload 5, 2) := by decide +kernel
theorem dX3_offer_34 : decode cX3_offer 34 = .ok (.iconst 2, 1) := by decide +kernel
theorem dX3_offer_35 : decode cX3_offer 35 = .ok (.iload_n 2, 1) := by decide +kernel
theorem dX3_offer_36 : decode cX3_offer 36 = .ok (.i2l, 1) := by decide +kernel
theorem dX3_offer_37 : decode cX3_offer 37 = .ok (.invokevirtual 81, 3) := by decide +kernel
theorem dX3_offer_40 : decode cX3_offer 40 = .ok (.aload_n 3, 1) := by decide +kernel
theorem dX3_offer_41 : decode cX3_offer 41 = .ok (.aload_n 3, 1) := by decide +kernel
theorem dX3_offer_42 : decode cX3_offer 42 = .ok (.getfield 102, 3) := by decide +kernel
theorem dX3_offer_45 : decode cX3_offer 45 = .ok (.invokestatic 106, 3) := by decide +kernel
theorem dX3_offer_48 : decode cX3_offer 48 = .ok (.putfield 102, 3) := by decide +kernel
theorem dX3_offer_51 : decode cX3_offer 51 = .ok (.aload_n 0, 1) := by decide +kernel
theorem dX3_offer_52 : decode cX3_offer 52 = .ok (.getfield 9, 3) := by decide +kernel
theorem dX3_offer_55 : decode cX3_offer 55 = .ok (.iload 4, 2) := by decide +kernel
theorem dX3_offer_57 : decode cX3_offer 57 = .ok (.iconst 2, 1) := by decide +kernel
theorem dX3_offer_58 : decode cX3_offer 58 = .ok (.iadd, 1) := by decide +kernel
theorem dX3_offer_59 : decode cX3_offer 59 = .ok (.iconst 2, 1) := by decide +kernel
theorem dX3_offer_60 : decode cX3_offer 60 = .ok (.aload_n 3, 1) := by decide +kernel
theorem dX3_offer_61 : decode cX3_offer 61 = .ok (.getfield 102, 3) := by decide +kernel
theorem dX3_offer_64 : decode cX3_offer 64 = .ok (.i2l, 1) := by decide +kernel
theorem dX3_offer_65 : decode cX3_offer 65 = .ok (.invokevirtual 81, 3) := by decide +kernel
theorem dX3_offer_68 : decode cX3_offer 68 = .ok (.return_, 1) := by decide +kernel
theorem dX3_collectOne_0 : decode cX3_collectOne 0 = .ok (.aload_n 0, 1) := by decide +kernel
theorem dX3_collectOne_1 : decode cX3_collectOne 1 = .ok (.getfield 28, 3) := by decide +kernel
theorem dX3_collectOne_4 : decode cX3_collectOne 4 = .ok (.ifCond .ne 6, 3) := by decide +kernel
theorem dX3_collectOne_7 : decode cX3_collectOne 7 = .ok (.bipush (-4), 2) := by decide +kernel
theorem dX3_collectOne_9 : decode cX3_collectOne 9 = .ok (.ireturn, 1) := by decide +kernel
theorem dX3_collectOne_10 : decode cX3_collectOne 10 = .ok (.aload_n 0, 1) := by decide +kernel
theorem dX3_collectOne_11 : decode cX3_collectOne 11 = .ok (.iload_n 1, 1) := by decide +kernel
theorem dX3_collectOne_12 : decode cX3_collectOne 12 = .ok (.invokevirtual 95, 3) := by decide +kernel
theorem dX3_collectOne_15 : decode cX3_collectOne 15 = .ok (.astore_n 2, 1) := by decide +kernel
theorem dX3_collectOne_16 : decode cX3_collectOne 16 = .ok (.iload_n 1, 1) := by decide +kernel
theorem dX3_collectOne_17 : decode cX3_collectOne 17 = .ok (.invokestatic 109, 3) := by decide +kernel
theorem dX3_collectOne_20 : decode cX3_collectOne 20 = .ok (.istore_n 3, 1) := by decide +kernel
theorem dX3_collectOne_21 : decode cX3_collectOne 21 = .ok (.aload_n 0, 1) := by decide +kernel
theorem dX3_collectOne_22 : decode cX3_collectOne 22 = .ok (.getfield 9, 3) := by decide +kernel
theorem dX3_collectOne_25 : decode cX3_collectOne 25 = .ok (.iload_n 3, 1) := by decide +kernel
theorem dX3_collectOne_26 : decode cX3_collectOne 26 = .ok (.iconst 2, 1) := by decide +kernel
theorem dX3_collectOne_27 : decode cX3_collectOne 27 = .ok (.iadd, 1) := by decide +kernel
theorem dX3_collectOne_28 : decode cX3_collectOne 28 = .ok (.invokevirtual 112, 3) := by decide +kernel
theorem dX3_collectOne_31 : decode cX3_collectOne 31 = .ok (.aload_n 2, 1) := by decide +kernel
theorem dX3_collectOne_32 : decode cX3_collectOne 32 = .ok (.getfield 115, 3) := by decide +kernel
theorem dX3_collectOne_35 : decode cX3_collectOne 35 = .ok (.if_icmp .ne 5, 3) := by decide +kernel
theorem dX3_collectOne_38 : decode cX3_collectOne 38 = .ok (.iconst (-1), 1) := by decide +kernel
theorem dX3_collectOne_39 : decode cX3_collectOne 39 = .ok (.ireturn, 1) := by decide +kernel
theorem dX3_collectOne_40 : decode cX3_collectOne 40 = .ok (.iload_n 3, 1) := by decide +kernel
theorem dX3_collectOne_41 : decode cX3_collectOne 41 = .ok (.iconst 4, 1) := by decide +kernel
theorem dX3_collectOne_42 : decode cX3_collectOne 42 = .ok (.iadd, 1) := by decide +kernel
theorem dX3_collectOne_43 : decode cX3_collectOne 43 = .ok (.bipush 8, 2) := by decide +kernel
theorem dX3_collectOne_45 : decode cX3_collectOne 45 = .ok (.aload_n 2, 1) := by decide +kernel
theorem dX3_collectOne_46 : decode cX3_collectOne 46 = .ok (.getfield 115, 3) := by decide +kernel
theorem dX3_collectOne_49 : decode cX3_collectOne 49 = .ok (.bipush 8, 2) := by decide +kernel
theorem dX3_collectOne_51 : decode cX3_collectOne 51 = .ok (.irem, 1) := by decide +kernel
theorem dX3_collectOne_52 : decode cX3_collectOne 52 = .ok (.imul, 1) := by decide +kernel
theorem dX3_collectOne_53 : decode cX3_collectOne 53 = .ok (.iadd, 1) := by decide +kernel
theorem dX3_collectOne_54 : decode cX3_collectOne 54 = .ok (.istore 4, 2) := by decide +kernel
theorem dX3_collectOne_56 : decode cX3_collectOne 56 = .ok (.aload_n 2, 1) := by decide +kernel
theorem dX3_collectOne_57 : decode cX3_collectOne 57 = .ok (.aload_n 2, 1) := by decide +kernel
theorem dX3_collectOne_58 : decode cX3_collectOne 58 = .ok (.getfield 115, 3) := by decide +kernel
theorem dX3_collectOne_61 : decode cX3_collectOne 61 = .ok (.invokestatic 106, 3) := by decide +kernel
theorem dX3_collectOne_64 : decode cX3_collectOne 64 = .ok (.putfield 115, 3) := by decide +kernel
theorem dX3_collectOne_67 : decode cX3_collectOne 67 = .ok (.aload_n 0, 1) := by decide +kernel
theorem dX3_collectOne_68 : decode cX3_collectOne 68 = .ok (.getfield 9, 3) := by decide +kernel
theorem dX3_collectOne_71 : decode cX3_collectOne 71 = .ok (.iload 4, 2) := by decide +kernel
theorem dX3_collectOne_73 : decode cX3_collectOne 73 = .ok (.iconst 4, 1) := by decide +kernel
theorem dX3_collectOne_74 : decode cX3_collectOne 74 = .ok (.invokevirtual 118, 3) := by decide +kernel
theorem dX3_collectOne_77 : decode cX3_collectOne 77 = .ok (.lstore 5, 2) := by decide +kernel
theorem dX3_collectOne_79 : decode cX3_collectOne 79 = .ok (.aload_n 2, 1) := by decide +kernel
theorem dX3_collectOne_80 : decode cX3_collectOne 80 = .ok (.lload 5, 2) := by decide +kernel
theorem dX3_collectOne_82 : decode cX3_collectOne 82 = .ok (.invokevirtual 122, 3) := by decide +kernel
theorem dX3_collectOne_85 : decode cX3_collectOne 85 = .ok (.ifCond .ne 6, 3) := by decide +kernel
theorem dX3_collectOne_88 : decode cX3_collectOne 88 = .ok (.bipush (-3), 2) := by decide +kernel
theorem dX3_collectOne_90 : decode cX3_collectOne 90 = .ok (.ireturn, 1) := by decide +kernel
theorem dX3_collectOne_91 : decode cX3_collectOne 91 = .ok (.aload_n 2, 1) := by decide +kernel
theorem dX3_collectOne_92 : decode cX3_collectOne 92 = .ok (.aload_n 0, 1) := by decide +kernel
theorem dX3_collectOne_93 : decode cX3_collectOne 93 = .ok (.getfield 9, 3) := by decide +kernel
theorem dX3_collectOne_96 : decode cX3_collectOne 96 = .ok (.iload 4, 2) := by decide +kernel
theorem dX3_collectOne_98 : decode cX3_collectOne 98 = .ok (.iconst 4, 1) := by decide +kernel
theorem dX3_collectOne_99 : decode cX3_collectOne 99 = .ok (.iadd, 1) := by decide +kernel
theorem dX3_collectOne_100 : decode cX3_collectOne 100 = .ok (.iconst 4, 1) := by decide +kernel
theorem dX3_collectOne_101 : decode cX3_collectOne 101 = .ok (.invokevirtual 118, 3) := by decide +kernel
theorem dX3_collectOne_104 : decode cX3_collectOne 104 = .ok (.l2i, 1) := by decide +kernel
theorem dX3_collectOne_105 : decode cX3_collectOne 105 = .ok (.ldc 126, 2) := by decide +kernel
theorem dX3_collectOne_107 : decode cX3_collectOne 107 = .ok (.iand, 1) := by decide +kernel
theorem dX3_collectOne_108 : decode cX3_collectOne 108 = .ok (.putfield 127, 3) := by decide +kernel
theorem dX3_collectOne_111 : decode cX3_collectOne 111 = .ok (.lload 5, 2) := by decide +kernel
theorem dX3_collectOne_113 : decode cX3_collectOne 113 = .ok (.l2i, 1) := by decide +kernel
theorem dX3_collectOne_114 : decode cX3_collectOne 114 = .ok (.ireturn, 1) := by decide +kernel
theorem dX4_init_0 : decode cX4_init 0 = .ok (.aload_n 0, 1) := by decide +kernel
theorem dX4_init_1 : decode cX4_init 1 = .ok (.invokespecial 3, 3) := by decide +kernel
theorem dX4_init_4 : decode cX4_init 4 = .ok (.aload_n 0, 1) := by decide +kernel
theorem dX4_init_5 : decode cX4_init 5 = .ok (.bipush 8, 2) := by decide +kernel
theorem dX4_init_7 : decode cX4_init 7 = .ok (.newarray .int, 2) := by decide +kernel
theorem dX4_init_9 : decode cX4_init 9 = .ok (.putfield 9, 3) := by decide +kernel
theorem dX4_init_12 : decode cX4_init 12 = .ok (.aload_n 0, 1) := by decide +kernel
theorem dX4_init_13 : decode cX4_init 13 = .ok (.iconst (-1), 1) := by decide +kernel
theorem dX4_init_14 : decode cX4_init 14 = .ok (.putfield 15, 3) := by decide +kernel
theorem dX4_init_17 : decode cX4_init 17 = .ok (.return_, 1) := by decide +kernel
theorem dX4_begin_0 : decode cX4_begin 0 = .ok (.aload_n 0, 1) := by decide +kernel
theorem dX4_begin_1 : decode cX4_begin 1 = .ok (.invokevirtual 19, 3) := by decide +kernel
theorem dX4_begin_4 : decode cX4_begin 4 = .ok (.aload_n 0, 1) := by decide +kernel
theorem dX4_begin_5 : decode cX4_begin 5 = .ok (.sipush 255, 3) := by decide +kernel
theorem dX4_begin_8 : decode cX4_begin 8 = .ok (.putfield 22, 3) := by decide +kernel
theorem dX4_begin_11 : decode cX4_begin 11 = .ok (.return_, 1) := by decide +kernel
theorem dX4_forget_0 : decode cX4_forget 0 = .ok (.aload_n 0, 1) := by decide +kernel
theorem dX4_forget_1 : decode cX4_forget 1 = .ok (.getfield 9, 3) := by decide +kernel
theorem dX4_forget_4 : decode cX4_forget 4 = .ok (.iconst 0, 1) := by decide +kernel
theorem dX4_forget_5 : decode cX4_forget 5 = .ok (.invokestatic 25, 3) := by decide +kernel
theorem dX4_forget_8 : decode cX4_forget 8 = .ok (.aload_n 0, 1) := by decide +kernel
theorem dX4_forget_9 : decode cX4_forget 9 = .ok (.iconst 0, 1) := by decide +kernel
theorem dX4_forget_10 : decode cX4_forget 10 = .ok (.putfield 22, 3) := by decide +kernel
theorem dX4_forget_13 : decode cX4_forget 13 = .ok (.aload_n 0, 1) := by decide +kernel
theorem dX4_forget_14 : decode cX4_forget 14 = .ok (.iconst 0, 1) := by decide +kernel
theorem dX4_forget_15 : decode cX4_forget 15 = .ok (.putfield 31, 3) := by decide +kernel
theorem dX4_forget_18 : decode cX4_forget 18 = .ok (.aload_n 0, 1) := by decide +kernel
theorem dX4_forget_19 : decode cX4_forget 19 = .ok (.iconst 0, 1) := by decide +kernel
theorem dX4_forget_20 : decode cX4_forget 20 = .ok (.putfield 34, 3) := by decide +kernel
theorem dX4_forget_23 : decode cX4_forget 23 = .ok (.aload_n 0, 1) := by decide +kernel
theorem dX4_forget_24 : decode cX4_forget 24 = .ok (.iconst (-1), 1) := by decide +kernel
theorem dX4_forget_25 : decode cX4_forget 25 = .ok (.putfield 15, 3) := by decide +kernel
theorem dX4_forget_28 : decode cX4_forget 28 = .ok (.return_, 1) := by decide +kernel
theorem dX4_freeOnes_0 : decode cX4_freeOnes 0 = .ok (.aload_n 0, 1) := by decide +kernel
theorem dX4_freeOnes_1 : decode cX4_freeOnes 1 = .ok (.getfield 22, 3) := by decide +kernel
theorem dX4_freeOnes_4 : decode cX4_freeOnes 4 = .ok (.invokestatic 37, 3) := by decide +kernel
theorem dX4_freeOnes_7 : decode cX4_freeOnes 7 = .ok (.ireturn, 1) := by decide +kernel
theorem dX4_lendFirst_0 : decode cX4_lendFirst 0 = .ok (.aload_n 0, 1) := by decide +kernel
theorem dX4_lendFirst_1 : decode cX4_lendFirst 1 = .ok (.invokevirtual 43, 3) := by decide +kernel
theorem dX4_lendFirst_4 : decode cX4_lendFirst 4 = .ok (.istore_n 1, 1) := by decide +kernel
theorem dX4_lendFirst_5 : decode cX4_lendFirst 5 = .ok (.aload_n 0, 1) := by decide +kernel
theorem dX4_lendFirst_6 : decode cX4_lendFirst 6 = .ok (.iload_n 1, 1) := by decide +kernel
theorem dX4_lendFirst_7 : decode cX4_lendFirst 7 = .ok (.iload_n 1, 1) := by decide +kernel
theorem dX4_lendFirst_8 : decode cX4_lendFirst 8 = .ok (.invokevirtual 47, 3) := by decide +kernel
theorem dX4_lendFirst_11 : decode cX4_lendFirst 11 = .ok (.iload_n 1, 1) := by decide +kernel
theorem dX4_lendFirst_12 : decode cX4_lendFirst 12 = .ok (.ireturn, 1) := by decide +kernel
theorem dX4_lendNext_0 : decode cX4_lendNext 0 = .ok (.aload_n 0, 1) := by decide +kernel
theorem dX4_lendNext_1 : decode cX4_lendNext 1 = .ok (.invokevirtual 43, 3) := by decide +kernel
theorem dX4_lendNext_4 : decode cX4_lendNext 4 = .ok (.istore_n 2, 1) := by decide +kernel
theorem dX4_lendNext_5 : decode cX4_lendNext 5 = .ok (.aload_n 0, 1) := by decide +kernel
theorem dX4_lendNext_6 : decode cX4_lendNext 6 = .ok (.iload_n 1, 1) := by decide +kernel
theorem dX4_lendNext_7 : decode cX4_lendNext 7 = .ok (.iload_n 2, 1) := by decide +kernel
theorem dX4_lendNext_8 : decode cX4_lendNext 8 = .ok (.invokevirtual 47, 3) := by decide +kernel
theorem dX4_lendNext_11 : decode cX4_lendNext 11 = .ok (.iload_n 2, 1) := by decide +kernel
theorem dX4_lendNext_12 : decode cX4_lendNext 12 = .ok (.ireturn, 1) := by decide +kernel
theorem dX4_leastFree_0 : decode cX4_leastFree 0 = .ok (.iconst 0, 1) := by decide +kernel
theorem dX4_leastFree_1 : decode cX4_leastFree 1 = .ok (.istore_n 1, 1) := by decide +kernel
theorem dX4_leastFree_2 : decode cX4_leastFree 2 = .ok (.iload_n 1, 1) := by decide +kernel
theorem dX4_leastFree_3 : decode cX4_leastFree 3 = .ok (.bipush 8, 2) := by decide +kernel
theorem dX4_leastFree_5 : decode cX4_leastFree 5 = .ok (.if_icmp .ge 22, 3) := by decide +kernel
theorem dX4_leastFree_8 : decode cX4_leastFree 8 = .ok (.aload_n 0, 1) := by decide +kernel
theorem dX4_leastFree_9 : decode cX4_leastFree 9 = .ok (.getfield 22, 3) := by decide +kernel
theorem dX4_leastFree_12 : decode cX4_leastFree 12 = .ok (.iconst 1, 1) := by decide +kernel
theorem dX4_leastFree_13 : decode cX4_leastFree 13 = .ok (.iload_n 1, 1) := by decide +kernel
theorem dX4_leastFree_14 : decode cX4_leastFree 14 = .ok (.ishl, 1) := by decide +kernel
theorem dX4_leastFree_15 : decode cX4_leastFree 15 = .ok (.iand, 1) := by decide +kernel
theorem dX4_leastFree_16 : decode cX4_leastFree 16 = .ok (.ifCond .eq 5, 3) := by decide +kernel
theorem dX4_leastFree_19 : decode cX4_leastFree 19 = .ok (.iload_n 1, 1) := by decide +kernel
theorem dX4_leastFree_20 : decode cX4_leastFree 20 = .ok (.ireturn, 1) := by decide +kernel
theorem dX4_leastFree_21 : decode cX4_leastFree 21 = .ok (.iinc 1 1, 3) := by decide +kernel
theorem dX4_leastFree_24 : decode cX4_leastFree 24 = .ok (.goto (-22), 3) := by decide +kernel
theorem dX4_leastFree_27 : decode cX4_leastFree 27 = .ok (.iconst (-1), 1) := by decide +kernel
theorem dX4_leastFree_28 : decode cX4_leastFree 28 = .ok (.ireturn, 1) := by decide +kernel
theorem dX4_lend_0 : decode cX4_lend 0 = .ok (.iload_n 1, 1) := by decide +kernel
theorem dX4_lend_1 : decode cX4_lend 1 = .ok (.ifCond .lt 42, 3) := by decide +kernel
theorem dX4_lend_4 : decode cX4_lend 4 = .ok (.iload_n 1, 1) := by decide +kernel
theorem dX4_lend_5 : decode cX4_lend 5 = .ok (.aload_n 0, 1) := by decide +kernel
theorem dX4_lend_6 : decode cX4_lend 6 = .ok (.getfield 9, 3) := by decide +kernel
theorem dX4_lend_9 : decode cX4_lend 9 = .ok (.arraylength, 1) := by decide +kernel
theorem dX4_lend_10 : decode cX4_lend 10 = .ok (.if_icmp .ge 33, 3) := by decide +kernel
theorem dX4_lend_13 : decode cX4_lend 13 = .ok (.iload_n 2, 1) := by decide +kernel
theorem dX4_lend_14 : decode cX4_lend 14 = .ok (.ifCond .lt 29, 3) := by decide +kernel
theorem dX4_lend_17 : decode cX4_lend 17 = .ok (.aload_n 0, 1) := by decide +kernel
theorem dX4_lend_18 : decode cX4_lend 18 = .ok (.getfield 9, 3) := by decide +kernel
theorem dX4_lend_21 : decode cX4_lend 21 = .ok (.iload_n 1, 1) := by decide +kernel
theorem dX4_lend_22 : decode cX4_lend 22 = .ok (.dup2, 1) := by decide +kernel
theorem dX4_lend_23 : decode cX4_lend 23 = .ok (.iaload, 1) := by decide +kernel
theorem dX4_lend_24 : decode cX4_lend 24 = .ok (.iconst 1, 1) := by decide +kernel
theorem dX4_lend_25 : decode cX4_lend 25 = .ok (.iload_n 2, 1) := by decide +kernel
theorem dX4_lend_26 : decode cX4_lend 26 = .ok (.ishl, 1) := by decide +kernel
theorem dX4_lend_27 : decode cX4_lend 27 = .ok (.ior, 1) := by decide +kernel
theorem dX4_lend_28 : decode cX4_lend 28 = .ok (.iastore, 1) := by decide +kernel
theorem dX4_lend_29 : decode cX4_lend 29 = .ok (.aload_n 0, 1) := by decide +kernel
theorem dX4_lend_30 : decode cX4_lend 30 = .ok (.dup, 1) := by decide +kernel
theorem dX4_lend_31 : decode cX4_lend 31 = .ok (.getfield 22, 3) := by decide +kernel
theorem dX4_lend_34 : decode cX4_lend 34 = .ok (.iconst 1, 1) := by decide +kernel
theorem dX4_lend_35 : decode cX4_lend 35 = .ok (.iload_n 2, 1) := by decide +kernel
theorem dX4_lend_36 : decode cX4_lend 36 = .ok (.ishl, 1) := by decide +kernel
theorem dX4_lend_37 : decode cX4_lend 37 = .ok (.iconst (-1), 1) := by decide +kernel
theorem dX4_lend_38 : decode cX4_lend 38 = .ok (.ixor, 1) := by decide +kernel
theorem dX4_lend_39 : decode cX4_lend 39 = .ok (.iand, 1) := by decide +kernel
theorem dX4_lend_40 : decode cX4_lend 40 = .ok (.putfield 22, 3) := by decide +kernel
theorem dX4_lend_43 : decode cX4_lend 43 = .ok (.return_, 1) := by decide +kernel
theorem dX4_takeBack_0 : decode cX4_takeBack 0 = .ok (.lload_n 1, 1) := by decide +kernel
theorem dX4_takeBack_1 : decode cX4_takeBack 1 = .ok (.lconst 0, 1) := by decide +kernel
theorem dX4_takeBack_2 : decode cX4_takeBack 2 = .ok (.lcmp, 1) := by decide +kernel
theorem dX4_takeBack_3 : decode cX4_takeBack 3 = .ok (.ifCond .lt 24, 3) := by decide +kernel
theorem dX4_takeBack_6 : decode cX4_takeBack 6 = .ok (.lload_n 1, 1) := by decide +kernel
theorem dX4_takeBack_7 : decode cX4_takeBack 7 = .ok (.aload_n 0, 1) := by decide +kernel
theorem dX4_takeBack_8 : decode cX4_takeBack 8 = .ok (.getfield 9, 3) := by decide +kernel
theorem dX4_takeBack_11 : decode cX4_takeBack 11 = .ok (.arraylength, 1) := by decide +kernel
theorem dX4_takeBack_12 : decode cX4_takeBack 12 = .ok (.i2l, 1) := by decide +kernel
theorem dX4_takeBack_13 : decode cX4_takeBack 13 = .ok (.lcmp, 1) := by decide +kernel
theorem dX4_takeBack_14 : decode cX4_takeBack 14 = .ok (.ifCond .ge 13, 3) := by decide +kernel
theorem dX4_takeBack_17 : decode cX4_takeBack 17 = .ok (.aload_n 0, 1) := by decide +kernel
theorem dX4_takeBack_18 : decode cX4_takeBack 18 = .ok (.getfield 9, 3) := by decide +kernel
theorem dX4_takeBack_21 : decode cX4_takeBack 21 = .ok (.lload_n 1, 1) := by decide +kernel
theorem dX4_takeBack_22 : decode cX4_takeBack 22 = .ok (.l2i, 1) := by decide +kernel
theorem dX4_takeBack_23 : decode cX4_takeBack 23 = .ok (.iaload, 1) := by decide +kernel
theorem dX4_takeBack_24 : decode cX4_takeBack 24 = .ok (.ifCond .ne 5, 3) := by decide +kernel
theorem dX4_takeBack_27 : decode cX4_takeBack 27 = .ok (.iconst 0, 1) := by decide +kernel
theorem dX4_takeBack_28 : decode cX4_takeBack 28 = .ok (.ireturn, 1) := by decide +kernel
theorem dX4_takeBack_29 : decode cX4_takeBack 29 = .ok (.aload_n 0, 1) := by decide +kernel
theorem dX4_takeBack_30 : decode cX4_takeBack 30 = .ok (.dup, 1) := by decide +kernel
theorem dX4_takeBack_31 : decode cX4_takeBack 31 = .ok (.getfield 22, 3) := by decide +kernel
theorem dX4_takeBack_34 : decode cX4_takeBack 34 = .ok (.aload_n 0, 1) := by decide +kernel
theorem dX4_takeBack_35 : decode cX4_takeBack 35 = .ok (.getfield 9, 3) := by decide +kernel
theorem dX4_takeBack_38 : decode cX4_takeBack 38 = .ok (.lload_n 1, 1) := by decide +kernel
theorem dX4_takeBack_39 : decode cX4_takeBack 39 = .ok (.l2i, 1) := by decide +kernel
theorem dX4_takeBack_40 : decode cX4_takeBack 40 = .ok (.iaload, 1) := by decide +kernel
theorem dX4_takeBack_41 : decode cX4_takeBack 41 = .ok (.ior, 1) := by decide +kernel
theorem dX4_takeBack_42 : decode cX4_takeBack 42 = .ok (.putfield 22, 3) := by decide +kernel
theorem dX4_takeBack_45 : decode cX4_takeBack 45 = .ok (.aload_n 0, 1) := by decide +kernel
theorem dX4_takeBack_46 : decode cX4_takeBack 46 = .ok (.getfield 9, 3) := by decide +kernel
theorem dX4_takeBack_49 : decode cX4_takeBack 49 = .ok (.lload_n 1, 1) := by decide +kernel
theorem dX4_takeBack_50 : decode cX4_takeBack 50 = .ok (.l2i, 1) := by decide +kernel
theorem dX4_takeBack_51 : decode cX4_takeBack 51 = .ok (.iconst 0, 1) := by decide +kernel
theorem dX4_takeBack_52 : decode cX4_takeBack 52 = .ok (.iastore, 1) := by decide +kernel
theorem dX4_takeBack_53 : decode cX4_takeBack 53 = .ok (.iconst 1, 1) := by decide +kernel
theorem dX4_takeBack_54 : decode cX4_takeBack 54 = .ok (.ireturn, 1) := by decide +kernel
theorem dX5_init_0 : decode cX5_init 0 = .ok (.aload_n 0, 1) := by decide +kernel
theorem dX5_init_1 : decode cX5_init 1 = .ok (.invokespecial 3, 3) := by decide +kernel
theorem dX5_init_4 : decode cX5_init 4 = .ok (.aload_n 0, 1) := by decide +kernel
theorem dX5_init_5 : decode cX5_init 5 = .ok (.sipush 4096, 3) := by decide +kernel
theorem dX5_init_8 : decode cX5_init 8 = .ok (.newarray .byte, 2) := by decide +kernel
theorem dX5_init_10 : decode cX5_init 10 = .ok (.putfield 9, 3) := by decide +kernel
theorem dX5_init_13 : decode cX5_init 13 = .ok (.return_, 1) := by decide +kernel
theorem dX5_clear_0 : decode cX5_clear 0 = .ok (.aload_n 0, 1) := by decide +kernel
theorem dX5_clear_1 : decode cX5_clear 1 = .ok (.getfield 9, 3) := by decide +kernel
theorem dX5_clear_4 : decode cX5_clear 4 = .ok (.iconst 0, 1) := by decide +kernel
theorem dX5_clear_5 : decode cX5_clear 5 = .ok (.invokestatic 15, 3) := by decide +kernel
theorem dX5_clear_8 : decode cX5_clear 8 = .ok (.return_, 1) := by decide +kernel
theorem dX5_at_0 : decode cX5_at 0 = .ok (.iload_n 1, 1) := by decide +kernel
theorem dX5_at_1 : decode cX5_at 1 = .ok (.ifCond .lt 25, 3) := by decide +kernel
theorem dX5_at_4 : decode cX5_at 4 = .ok (.iload_n 1, 1) := by decide +kernel
theorem dX5_at_5 : decode cX5_at 5 = .ok (.aload_n 0, 1) := by decide +kernel
theorem dX5_at_6 : decode cX5_at 6 = .ok (.getfield 9, 3) := by decide +kernel
theorem dX5_at_9 : decode cX5_at 9 = .ok (.arraylength, 1) := by decide +kernel
theorem dX5_at_10 : decode cX5_at 10 = .ok (.if_icmp .ge 16, 3) := by decide +kernel
theorem dX5_at_13 : decode cX5_at 13 = .ok (.aload_n 0, 1) := by decide +kernel
theorem dX5_at_14 : decode cX5_at 14 = .ok (.getfield 9, 3) := by decide +kernel
theorem dX5_at_17 : decode cX5_at 17 = .ok (.iload_n 1, 1) := by decide +kernel
theorem dX5_at_18 : decode cX5_at 18 = .ok (.baload, 1) := by decide +kernel
theorem dX5_at_19 : decode cX5_at 19 = .ok (.sipush 255, 3) := by decide +kernel
theorem dX5_at_22 : decode cX5_at 22 = .ok (.iand, 1) := by decide +kernel
theorem dX5_at_23 : decode cX5_at 23 = .ok (.goto 4, 3) := by decide +kernel
theorem dX5_at_26 : decode cX5_at 26 = .ok (.iconst 0, 1) := by decide +kernel
theorem dX5_at_27 : decode cX5_at 27 = .ok (.ireturn, 1) := by decide +kernel
theorem dX5_set_0 : decode cX5_set 0 = .ok (.iload_n 1, 1) := by decide +kernel
theorem dX5_set_1 : decode cX5_set 1 = .ok (.ifCond .lt 20, 3) := by decide +kernel
theorem dX5_set_4 : decode cX5_set 4 = .ok (.iload_n 1, 1) := by decide +kernel
theorem dX5_set_5 : decode cX5_set 5 = .ok (.aload_n 0, 1) := by decide +kernel
theorem dX5_set_6 : decode cX5_set 6 = .ok (.getfield 9, 3) := by decide +kernel
theorem dX5_set_9 : decode cX5_set 9 = .ok (.arraylength, 1) := by decide +kernel
theorem dX5_set_10 : decode cX5_set 10 = .ok (.if_icmp .ge 11, 3) := by decide +kernel
theorem dX5_set_13 : decode cX5_set 13 = .ok (.aload_n 0, 1) := by decide +kernel
theorem dX5_set_14 : decode cX5_set 14 = .ok (.getfield 9, 3) := by decide +kernel
theorem dX5_set_17 : decode cX5_set 17 = .ok (.iload_n 1, 1) := by decide +kernel
theorem dX5_set_18 : decode cX5_set 18 = .ok (.iload_n 2, 1) := by decide +kernel
theorem dX5_set_19 : decode cX5_set 19 = .ok (.i2b, 1) := by decide +kernel
theorem dX5_set_20 : decode cX5_set 20 = .ok (.bastore, 1) := by decide +kernel
theorem dX5_set_21 : decode cX5_set 21 = .ok (.return_, 1) := by decide +kernel
theorem dX5_number_0 : decode cX5_number 0 = .ok (.lconst 0, 1) := by decide +kernel
theorem dX5_number_1 : decode cX5_number 1 = .ok (.lstore_n 3, 1) := by decide +kernel
theorem dX5_number_2 : decode cX5_number 2 = .ok (.iconst 0, 1) := by decide +kernel
theorem dX5_number_3 : decode cX5_number 3 = .ok (.istore 5, 2) := by decide +kernel
theorem dX5_number_5 : decode cX5_number 5 = .ok (.iload 5, 2) := by decide +kernel
theorem dX5_number_7 : decode cX5_number 7 = .ok (.iload_n 2, 1) := by decide +kernel
theorem dX5_number_8 : decode cX5_number 8 = .ok (.if_icmp .ge 27, 3) := by decide +kernel
theorem dX5_number_11 : decode cX5_number 11 = .ok (.lload_n 3, 1) := by decide +kernel
theorem dX5_number_12 : decode cX5_number 12 = .ok (.aload_n 0, 1) := by decide +kernel
theorem dX5_number_13 : decode cX5_number 13 = .ok (.iload_n 1, 1) := by decide +kernel
theorem dX5_number_14 : decode cX5_number 14 = .ok (.iload 5, 2) := by decide +kernel
theorem dX5_number_16 : decode cX5_number 16 = .ok (.iadd, 1) := by decide +kernel
theorem dX5_number_17 : decode cX5_number 17 = .ok (.invokevirtual 21, 3) := by decide +kernel
theorem dX5_number_20 : decode cX5_number 20 = .ok (.i2l, 1) := by decide +kernel
theorem dX5_number_21 : decode cX5_number 21 = .ok (.bipush 8, 2) := by decide +kernel
theorem dX5_number_23 : decode cX5_number 23 = .ok (.iload 5, 2) := by decide +kernel
theorem dX5_number_25 : decode cX5_number 25 = .ok (.imul, 1) := by decide +kernel
theorem dX5_number_26 : decode cX5_number 26 = .ok (.lshl, 1) := by decide +kernel
theorem dX5_number_27 : decode cX5_number 27 = .ok (.lor, 1) := by decide +kernel
theorem dX5_number_28 : decode cX5_number 28 = .ok (.lstore_n 3, 1) := by decide +kernel
theorem dX5_number_29 : decode cX5_number 29 = .ok (.iinc 5 1, 3) := by decide +kernel
theorem dX5_number_32 : decode cX5_number 32 = .ok (.goto (-27), 3) := by decide +kernel
theorem dX5_number_35 : decode cX5_number 35 = .ok (.lload_n 3, 1) := by decide +kernel
theorem dX5_number_36 : decode cX5_number 36 = .ok (.lreturn, 1) := by decide +kernel
theorem dX5_setNumber_0 : decode cX5_setNumber 0 = .ok (.iconst 0, 1) := by decide +kernel
theorem dX5_setNumber_1 : decode cX5_setNumber 1 = .ok (.istore 5, 2) := by decide +kernel
theorem dX5_setNumber_3 : decode cX5_setNumber 3 = .ok (.iload 5, 2) := by decide +kernel
theorem dX5_setNumber_5 : decode cX5_setNumber 5 = .ok (.iload_n 2, 1) := by decide +kernel
theorem dX5_setNumber_6 : decode cX5_setNumber 6 = .ok (.if_icmp .ge 29, 3) := by decide +kernel
theorem dX5_setNumber_9 : decode cX5_setNumber 9 = .ok (.aload_n 0, 1) := by decide +kernel
theorem dX5_setNumber_10 : decode cX5_setNumber 10 = .ok (.iload_n 1, 1) := by decide +kernel
theorem dX5_setNumber_11 : decode cX5_setNumber 11 = .ok (.iload 5, 2) := by decide +kernel
theorem dX5_setNumber_13 : decode cX5_setNumber 13 = .ok (.iadd, 1) := by decide +kernel
theorem dX5_setNumber_14 : decode cX5_setNumber 14 = .ok (.lload_n 3, 1) := by decide +kernel
theorem dX5_setNumber_15 : decode cX5_setNumber 15 = .ok (.bipush 8, 2) := by decide +kernel
theorem dX5_setNumber_17 : decode cX5_setNumber 17 = .ok (.iload 5, 2) := by decide +kernel
theorem dX5_setNumber_19 : decode cX5_setNumber 19 = .ok (.imul, 1) := by decide +kernel
theorem dX5_setNumber_20 : decode cX5_setNumber 20 = .ok (.lushr, 1) := by decide +kernel
theorem dX5_setNumber_21 : decode cX5_setNumber 21 = .ok (.l2i, 1) := by decide +kernel
theorem dX5_setNumber_22 : decode cX5_setNumber 22 = .ok (.sipush 255, 3) := by decide +kernel
theorem dX5_setNumber_25 : decode cX5_setNumber 25 = .ok (.iand, 1) := by decide +kernel
theorem dX5_setNumber_26 : decode cX5_setNumber 26 = .ok (.invokevirtual 25, 3) := by decide +kernel
theorem dX5_setNumber_29 : decode cX5_setNumber 29 = .ok (.iinc 5 1, 3) := by decide +kernel
theorem dX5_setNumber_32 : decode cX5_setNumber 32 = .ok (.goto (-29), 3) := by decide +kernel
theorem dX5_setNumber_35 : decode cX5_setNumber 35 = .ok (.return_, 1) := by decide +kernel
theorem dX5_two_0 : decode cX5_two 0 = .ok (.aload_n 0, 1) := by decide +kernel
theorem dX5_two_1 : decode cX5_two 1 = .ok (.iload_n 1, 1) := by decide +kernel
theorem dX5_two_2 : decode cX5_two 2 = .ok (.invokevirtual 21, 3) := by decide +kernel
theorem dX5_two_5 : decode cX5_two 5 = .ok (.aload_n 0, 1) := by decide +kernel
theorem dX5_two_6 : decode cX5_two 6 = .ok (.iload_n 1, 1) := by decide +kernel
theorem dX5_two_7 : decode cX5_two 7 = .ok (.iconst 1, 1) := by decide +kernel
theorem dX5_two_8 : decode cX5_two 8 = .ok (.iadd, 1) := by decide +kernel
theorem dX5_two_9 : decode cX5_two 9 = .ok (.invokevirtual 21, 3) := by decide +kernel
theorem dX5_two_12 : decode cX5_two 12 = .ok (.bipush 8, 2) := by decide +kernel
theorem dX5_two_14 : decode cX5_two 14 = .ok (.ishl, 1) := by decide +kernel
theorem dX5_two_15 : decode cX5_two 15 = .ok (.ior, 1) := by decide +kernel
theorem dX5_two_16 : decode cX5_two 16 = .ok (.ireturn, 1) := by decide +kernel
theorem dX5_setDescriptor_0 : decode cX5_setDescriptor 0 = .ok (.aload_n 0, 1) := by decide +kernel
theorem dX5_setDescriptor_1 : decode cX5_setDescriptor 1 = .ok (.iload_n 1, 1) := by decide +kernel
theorem dX5_setDescriptor_2 : decode cX5_setDescriptor 2 = .ok (.bipush 8, 2) := by decide +kernel
theorem dX5_setDescriptor_4 : decode cX5_setDescriptor 4 = .ok (.iload_n 2, 1) := by decide +kernel
theorem dX5_setDescriptor_5 : decode cX5_setDescriptor 5 = .ok (.i2l, 1) := by decide +kernel
theorem dX5_setDescriptor_6 : decode cX5_setDescriptor 6 = .ok (.invokevirtual 29, 3) := by decide +kernel
theorem dX5_setDescriptor_9 : decode cX5_setDescriptor 9 = .ok (.aload_n 0, 1) := by decide +kernel
theorem dX5_setDescriptor_10 : decode cX5_setDescriptor 10 = .ok (.iload_n 1, 1) := by decide +kernel
theorem dX5_setDescriptor_11 : decode cX5_setDescriptor 11 = .ok (.bipush 8, 2) := by decide +kernel
theorem dX5_setDescriptor_13 : decode cX5_setDescriptor 13 = .ok (.iadd, 1) := by decide +kernel
theorem dX5_setDescriptor_14 : decode cX5_setDescriptor 14 = .ok (.iconst 4, 1) := by decide +kernel
theorem dX5_setDescriptor_15 : decode cX5_setDescriptor 15 = .ok (.iload_n 3, 1) := by decide +kernel
theorem dX5_setDescriptor_16 : decode cX5_setDescriptor 16 = .ok (.i2l, 1) := by decide +kernel
theorem dX5_setDescriptor_17 : decode cX5_setDescriptor 17 = .ok (.invokevirtual 29, 3) := by decide +kernel
theorem dX5_setDescriptor_20 : decode cX5_setDescriptor 20 = .ok (.aload_n 0, 1) := by decide +kernel
theorem dX5_setDescriptor_21 : decode cX5_setDescriptor 21 = .ok (.iload_n 1, 1) := by decide +kernel
theorem dX5_setDescriptor_22 : decode cX5_setDescriptor 22 = .ok (.bipush 12, 2) := by decide +kernel
theorem dX5_setDescriptor_24 : decode cX5_setDescriptor 24 = .ok (.iadd, 1) := by decide +kernel
theorem dX5_setDescriptor_25 : decode cX5_setDescriptor 25 = .ok (.iconst 2, 1) := by decide +kernel
theorem dX5_setDescriptor_26 : decode cX5_setDescriptor 26 = .ok (.iload 4, 2) := by decide +kernel
theorem dX5_setDescriptor_28 : decode cX5_setDescriptor 28 = .ok (.i2l, 1) := by decide +kernel
theorem dX5_setDescriptor_29 : decode cX5_setDescriptor 29 = .ok (.invokevirtual 29, 3) := by decide +kernel
theorem dX5_setDescriptor_32 : decode cX5_setDescriptor 32 = .ok (.aload_n 0, 1) := by decide +kernel
theorem dX5_setDescriptor_33 : decode cX5_setDescriptor 33 = .ok (.iload_n 1, 1) := by decide +kernel
theorem dX5_setDescriptor_34 : decode cX5_setDescriptor 34 = .ok (.bipush 14, 2) := by decide +kernel
theorem dX5_setDescriptor_36 : decode cX5_setDescriptor 36 = .ok (.iadd, 1) := by decide +kernel
theorem dX5_setDescriptor_37 : decode cX5_setDescriptor 37 = .ok (.iconst 2, 1) := by decide +kernel
theorem dX5_setDescriptor_38 : decode cX5_setDescriptor 38 = .ok (.iload 5, 2) := by decide +kernel
theorem dX5_setDescriptor_40 : decode cX5_setDescriptor 40 = .ok (.i2l, 1) := by decide +kernel
theorem dX5_setDescriptor_41 : decode cX5_setDescriptor 41 = .ok (.invokevirtual 29, 3) := by decide +kernel
theorem dX5_setDescriptor_44 : decode cX5_setDescriptor 44 = .ok (.return_, 1) := by decide +kernel
theorem dX6_init_0 : decode cX6_init 0 = .ok (.aload_n 0, 1) := by decide +kernel
theorem dX6_init_1 : decode cX6_init 1 = .ok (.invokespecial 3, 3) := by decide +kernel
theorem dX6_init_4 : decode cX6_init 4 = .ok (.aload_n 0, 1) := by decide +kernel
theorem dX6_init_5 : decode cX6_init 5 = .ok (.aload_n 1, 1) := by decide +kernel
theorem dX6_init_6 : decode cX6_init 6 = .ok (.putfield 9, 3) := by decide +kernel
theorem dX6_init_9 : decode cX6_init 9 = .ok (.return_, 1) := by decide +kernel
theorem dX6_forget_0 : decode cX6_forget 0 = .ok (.aload_n 0, 1) := by decide +kernel
theorem dX6_forget_1 : decode cX6_forget 1 = .ok (.iconst 0, 1) := by decide +kernel
theorem dX6_forget_2 : decode cX6_forget 2 = .ok (.putfield 15, 3) := by decide +kernel
theorem dX6_forget_5 : decode cX6_forget 5 = .ok (.aload_n 0, 1) := by decide +kernel
theorem dX6_forget_6 : decode cX6_forget 6 = .ok (.iconst 0, 1) := by decide +kernel
theorem dX6_forget_7 : decode cX6_forget 7 = .ok (.putfield 19, 3) := by decide +kernel
theorem dX6_forget_10 : decode cX6_forget 10 = .ok (.aload_n 0, 1) := by decide +kernel
theorem dX6_forget_11 : decode cX6_forget 11 = .ok (.iconst 0, 1) := by decide +kernel
theorem dX6_forget_12 : decode cX6_forget 12 = .ok (.putfield 23, 3) := by decide +kernel
theorem dX6_forget_15 : decode cX6_forget 15 = .ok (.aload_n 0, 1) := by decide +kernel
theorem dX6_forget_16 : decode cX6_forget 16 = .ok (.iconst 0, 1) := by decide +kernel
theorem dX6_forget_17 : decode cX6_forget 17 = .ok (.putfield 26, 3) := by decide +kernel
theorem dX6_forget_20 : decode cX6_forget 20 = .ok (.aload_n 0, 1) := by decide +kernel
theorem dX6_forget_21 : decode cX6_forget 21 = .ok (.iconst 0, 1) := by decide +kernel
theorem dX6_forget_22 : decode cX6_forget 22 = .ok (.putfield 29, 3) := by decide +kernel
theorem dX6_forget_25 : decode cX6_forget 25 = .ok (.return_, 1) := by decide +kernel
theorem dX6_lay_0 : decode cX6_lay 0 = .ok (.aload_n 0, 1) := by decide +kernel
theorem dX6_lay_1 : decode cX6_lay 1 = .ok (.iconst 1, 1) := by decide +kernel
theorem dX6_lay_2 : decode cX6_lay 2 = .ok (.putfield 15, 3) := by decide +kernel
theorem dX6_lay_5 : decode cX6_lay 5 = .ok (.aload_n 0, 1) := by decide +kernel
theorem dX6_lay_6 : decode cX6_lay 6 = .ok (.iload_n 1, 1) := by decide +kernel
theorem dX6_lay_7 : decode cX6_lay 7 = .ok (.putfield 19, 3) := by decide +kernel
theorem dX6_lay_10 : decode cX6_lay 10 = .ok (.aload_n 0, 1) := by decide +kernel
theorem dX6_lay_11 : decode cX6_lay 11 = .ok (.iload_n 2, 1) := by decide +kernel
theorem dX6_lay_12 : decode cX6_lay 12 = .ok (.putfield 32, 3) := by decide +kernel
theorem dX6_lay_15 : decode cX6_lay 15 = .ok (.aload_n 0, 1) := by decide +kernel
theorem dX6_lay_16 : decode cX6_lay 16 = .ok (.iload_n 3, 1) := by decide +kernel
theorem dX6_lay_17 : decode cX6_lay 17 = .ok (.putfield 35, 3) := by decide +kernel
theorem dX6_lay_20 : decode cX6_lay 20 = .ok (.aload_n 0, 1) := by decide +kernel
theorem dX6_lay_21 : decode cX6_lay 21 = .ok (.iload 4, 2) := by decide +kernel
theorem dX6_lay_23 : decode cX6_lay 23 = .ok (.putfield 38, 3) := by decide +kernel
theorem dX6_lay_26 : decode cX6_lay 26 = .ok (.return_, 1) := by decide +kernel
theorem dX6_waiting_0 : decode cX6_waiting 0 = .ok (.aload_n 0, 1) := by decide +kernel
theorem dX6_waiting_1 : decode cX6_waiting 1 = .ok (.getfield 15, 3) := by decide +kernel
theorem dX6_waiting_4 : decode cX6_waiting 4 = .ok (.ifCond .eq 27, 3) := by decide +kernel
theorem dX6_waiting_7 : decode cX6_waiting 7 = .ok (.aload_n 0, 1) := by decide +kernel
theorem dX6_waiting_8 : decode cX6_waiting 8 = .ok (.getfield 9, 3) := by decide +kernel
theorem dX6_waiting_11 : decode cX6_waiting 11 = .ok (.aload_n 0, 1) := by decide +kernel
theorem dX6_waiting_12 : decode cX6_waiting 12 = .ok (.getfield 35, 3) := by decide +kernel
theorem dX6_waiting_15 : decode cX6_waiting 15 = .ok (.iconst 2, 1) := by decide +kernel
theorem dX6_waiting_16 : decode cX6_waiting 16 = .ok (.iadd, 1) := by decide +kernel
theorem dX6_waiting_17 : decode cX6_waiting 17 = .ok (.invokevirtual 41, 3) := by decide +kernel
theorem dX6_waiting_20 : decode cX6_waiting 20 = .ok (.aload_n 0, 1) := by decide +kernel
theorem dX6_waiting_21 : decode cX6_waiting 21 = .ok (.getfield 23, 3) := by decide +kernel
theorem dX6_waiting_24 : decode cX6_waiting 24 = .ok (.isub, 1) := by decide +kernel
theorem dX6_waiting_25 : decode cX6_waiting 25 = .ok (.ldc 47, 2) := by decide +kernel
theorem dX6_waiting_27 : decode cX6_waiting 27 = .ok (.iand, 1) := by decide +kernel
theorem dX6_waiting_28 : decode cX6_waiting 28 = .ok (.goto 4, 3) := by decide +kernel
theorem dX6_waiting_31 : decode cX6_waiting 31 = .ok (.iconst 0, 1) := by decide +kernel
theorem dX6_waiting_32 : decode cX6_waiting 32 = .ok (.ireturn, 1) := by decide +kernel
theorem dX6_nextHead_0 : decode cX6_nextHead 0 = .ok (.aload_n 0, 1) := by decide +kernel
theorem dX6_nextHead_1 : decode cX6_nextHead 1 = .ok (.getfield 9, 3) := by decide +kernel
theorem dX6_nextHead_4 : decode cX6_nextHead 4 = .ok (.aload_n 0, 1) := by decide +kernel
theorem dX6_nextHead_5 : decode cX6_nextHead 5 = .ok (.getfield 35, 3) := by decide +kernel
theorem dX6_nextHead_8 : decode cX6_nextHead 8 = .ok (.iconst 4, 1) := by decide +kernel
theorem dX6_nextHead_9 : decode cX6_nextHead 9 = .ok (.iadd, 1) := by decide +kernel
theorem dX6_nextHead_10 : decode cX6_nextHead 10 = .ok (.iconst 2, 1) := by decide +kernel
theorem dX6_nextHead_11 : decode cX6_nextHead 11 = .ok (.aload_n 0, 1) := by decide +kernel
theorem dX6_nextHead_12 : decode cX6_nextHead 12 = .ok (.aload_n 0, 1) := by decide +kernel
theorem dX6_nextHead_13 : decode cX6_nextHead 13 = .ok (.getfield 23, 3) := by decide +kernel
theorem dX6_nextHead_16 : decode cX6_nextHead 16 = .ok (.invokevirtual 48, 3) := by decide +kernel
theorem dX6_nextHead_19 : decode cX6_nextHead 19 = .ok (.imul, 1) := by decide +kernel
theorem dX6_nextHead_20 : decode cX6_nextHead 20 = .ok (.iadd, 1) := by decide +kernel
theorem dX6_nextHead_21 : decode cX6_nextHead 21 = .ok (.invokevirtual 41, 3) := by decide +kernel
theorem dX6_nextHead_24 : decode cX6_nextHead 24 = .ok (.ireturn, 1) := by decide +kernel
theorem dX6_giveBack_0 : decode cX6_giveBack 0 = .ok (.aload_n 0, 1) := by decide +kernel
theorem dX6_giveBack_1 : decode cX6_giveBack 1 = .ok (.getfield 38, 3) := by decide +kernel
theorem dX6_giveBack_4 : decode cX6_giveBack 4 = .ok (.iconst 4, 1) := by decide +kernel
theorem dX6_giveBack_5 : decode cX6_giveBack 5 = .ok (.iadd, 1) := by decide +kernel
theorem dX6_giveBack_6 : decode cX6_giveBack 6 = .ok (.bipush 8, 2) := by decide +kernel
theorem dX6_giveBack_8 : decode cX6_giveBack 8 = .ok (.aload_n 0, 1) := by decide +kernel
theorem dX6_giveBack_9 : decode cX6_giveBack 9 = .ok (.aload_n 0, 1) := by decide +kernel
theorem dX6_giveBack_10 : decode cX6_giveBack 10 = .ok (.getfield 26, 3) := by decide +kernel
theorem dX6_giveBack_13 : decode cX6_giveBack 13 = .ok (.invokevirtual 48, 3) := by decide +kernel
theorem dX6_giveBack_16 : decode cX6_giveBack 16 = .ok (.imul, 1) := by decide +kernel
theorem dX6_giveBack_17 : decode cX6_giveBack 17 = .ok (.iadd, 1) := by decide +kernel
theorem dX6_giveBack_18 : decode cX6_giveBack 18 = .ok (.istore_n 3, 1) := by decide +kernel
theorem dX6_giveBack_19 : decode cX6_giveBack 19 = .ok (.aload_n 0, 1) := by decide +kernel
theorem dX6_giveBack_20 : decode cX6_giveBack 20 = .ok (.getfield 9, 3) := by decide +kernel
theorem dX6_giveBack_23 : decode cX6_giveBack 23 = .ok (.iload_n 3, 1) := by decide +kernel
theorem dX6_giveBack_24 : decode cX6_giveBack 24 = .ok (.iconst 4, 1) := by decide +kernel
theorem dX6_giveBack_25 : decode cX6_giveBack 25 = .ok (.iload_n 1, 1) := by decide +kernel
theorem dX6_giveBack_26 : decode cX6_giveBack 26 = .ok (.i2l, 1) := by decide +kernel
theorem dX6_giveBack_27 : decode cX6_giveBack 27 = .ok (.invokevirtual 51, 3) := by decide +kernel
theorem dX6_giveBack_30 : decode cX6_giveBack 30 = .ok (.aload_n 0, 1) := by decide +kernel
theorem dX6_giveBack_31 : decode cX6_giveBack 31 = .ok (.getfield 9, 3) := by decide +kernel
theorem dX6_giveBack_34 : decode cX6_giveBack 34 = .ok (.iload_n 3, 1) := by decide +kernel
theorem dX6_giveBack_35 : decode cX6_giveBack 35 = .ok (.iconst 4, 1) := by decide +kernel
theorem dX6_giveBack_36 : decode cX6_giveBack 36 = .ok (.iadd, 1) := by decide +kernel
theorem dX6_giveBack_37 : decode cX6_giveBack 37 = .ok (.iconst 4, 1) := by decide +kernel
theorem dX6_giveBack_38 : decode cX6_giveBack 38 = .ok (.iload_n 2, 1) := by decide +kernel
theorem dX6_giveBack_39 : decode cX6_giveBack 39 = .ok (.i2l, 1) := by decide +kernel
theorem dX6_giveBack_40 : decode cX6_giveBack 40 = .ok (.invokevirtual 51, 3) := by decide +kernel
theorem dX6_giveBack_43 : decode cX6_giveBack 43 = .ok (.aload_n 0, 1) := by decide +kernel
theorem dX6_giveBack_44 : decode cX6_giveBack 44 = .ok (.aload_n 0, 1) := by decide +kernel
theorem dX6_giveBack_45 : decode cX6_giveBack 45 = .ok (.getfield 26, 3) := by decide +kernel
theorem dX6_giveBack_48 : decode cX6_giveBack 48 = .ok (.invokestatic 55, 3) := by decide +kernel
theorem dX6_giveBack_51 : decode cX6_giveBack 51 = .ok (.putfield 26, 3) := by decide +kernel
theorem dX6_giveBack_54 : decode cX6_giveBack 54 = .ok (.aload_n 0, 1) := by decide +kernel
theorem dX6_giveBack_55 : decode cX6_giveBack 55 = .ok (.getfield 9, 3) := by decide +kernel
theorem dX6_giveBack_58 : decode cX6_giveBack 58 = .ok (.aload_n 0, 1) := by decide +kernel
theorem dX6_giveBack_59 : decode cX6_giveBack 59 = .ok (.getfield 38, 3) := by decide +kernel
theorem dX6_giveBack_62 : decode cX6_giveBack 62 = .ok (.iconst 2, 1) := by decide +kernel
theorem dX6_giveBack_63 : decode cX6_giveBack 63 = .ok (.iadd, 1) := by decide +kernel
theorem dX6_giveBack_64 : decode cX6_giveBack 64 = .ok (.iconst 2, 1) := by decide +kernel
theorem dX6_giveBack_65 : decode cX6_giveBack 65 = .ok (.aload_n 0, 1) := by decide +kernel
theorem dX6_giveBack_66 : decode cX6_giveBack 66 = .ok (.getfield 26, 3) := by decide +kernel
theorem dX6_giveBack_69 : decode cX6_giveBack 69 = .ok (.i2l, 1) := by decide +kernel
theorem dX6_giveBack_70 : decode cX6_giveBack 70 = .ok (.invokevirtual 51, 3) := by decide +kernel
theorem dX6_giveBack_73 : decode cX6_giveBack 73 = .ok (.aload_n 0, 1) := by decide +kernel
theorem dX6_giveBack_74 : decode cX6_giveBack 74 = .ok (.getfield 9, 3) := by decide +kernel
theorem dX6_giveBack_77 : decode cX6_giveBack 77 = .ok (.aload_n 0, 1) := by decide +kernel
theorem dX6_giveBack_78 : decode cX6_giveBack 78 = .ok (.getfield 35, 3) := by decide +kernel
theorem dX6_giveBack_81 : decode cX6_giveBack 81 = .ok (.invokevirtual 41, 3) := by decide +kernel
theorem dX6_giveBack_84 : decode cX6_giveBack 84 = .ok (.iconst 1, 1) := by decide +kernel
theorem dX6_giveBack_85 : decode cX6_giveBack 85 = .ok (.iand, 1) := by decide +kernel
theorem dX6_giveBack_86 : decode cX6_giveBack 86 = .ok (.ifCond .ne 13, 3) := by decide +kernel
theorem dX6_giveBack_89 : decode cX6_giveBack 89 = .ok (.aload_n 0, 1) := by decide +kernel
theorem dX6_giveBack_90 : decode cX6_giveBack 90 = .ok (.dup, 1) := by decide +kernel
theorem dX6_giveBack_91 : decode cX6_giveBack 91 = .ok (.getfield 29, 3) := by decide +kernel
theorem dX6_giveBack_94 : decode cX6_giveBack 94 = .ok (.iconst 1, 1) := by decide +kernel
theorem dX6_giveBack_95 : decode cX6_giveBack 95 = .ok (.iadd, 1) := by decide +kernel
theorem dX6_giveBack_96 : decode cX6_giveBack 96 = .ok (.putfield 29, 3) := by decide +kernel
theorem dX6_giveBack_99 : decode cX6_giveBack 99 = .ok (.return_, 1) := by decide +kernel
theorem dX6_placeOf_0 : decode cX6_placeOf 0 = .ok (.aload_n 0, 1) := by decide +kernel
theorem dX6_placeOf_1 : decode cX6_placeOf 1 = .ok (.getfield 19, 3) := by decide +kernel
theorem dX6_placeOf_4 : decode cX6_placeOf 4 = .ok (.ifCond .le 12, 3) := by decide +kernel
theorem dX6_placeOf_7 : decode cX6_placeOf 7 = .ok (.iload_n 1, 1) := by decide +kernel
theorem dX6_placeOf_8 : decode cX6_placeOf 8 = .ok (.aload_n 0, 1) := by decide +kernel
theorem dX6_placeOf_9 : decode cX6_placeOf 9 = .ok (.getfield 19, 3) := by decide +kernel
theorem dX6_placeOf_12 : decode cX6_placeOf 12 = .ok (.irem, 1) := by decide +kernel
theorem dX6_placeOf_13 : decode cX6_placeOf 13 = .ok (.goto 4, 3) := by decide +kernel
theorem dX6_placeOf_16 : decode cX6_placeOf 16 = .ok (.iconst 0, 1) := by decide +kernel
theorem dX6_placeOf_17 : decode cX6_placeOf 17 = .ok (.ireturn, 1) := by decide +kernel
theorem dX7_init_0 : decode cX7_init 0 = .ok (.aload_n 0, 1) := by decide +kernel
theorem dX7_init_1 : decode cX7_init 1 = .ok (.invokespecial 3, 3) := by decide +kernel
theorem dX7_init_4 : decode cX7_init 4 = .ok (.aload_n 0, 1) := by decide +kernel
theorem dX7_init_5 : decode cX7_init 5 = .ok (.sipush 1280, 3) := by decide +kernel
theorem dX7_init_8 : decode cX7_init 8 = .ok (.newarray .byte, 2) := by decide +kernel
theorem dX7_init_10 : decode cX7_init 10 = .ok (.putfield 9, 3) := by decide +kernel
theorem dX7_init_13 : decode cX7_init 13 = .ok (.aload_n 0, 1) := by decide +kernel
theorem dX7_init_14 : decode cX7_init 14 = .ok (.bipush 16, 2) := by decide +kernel
theorem dX7_init_16 : decode cX7_init 16 = .ok (.newarray .int, 2) := by decide +kernel
theorem dX7_init_18 : decode cX7_init 18 = .ok (.putfield 15, 3) := by decide +kernel
theorem dX7_init_21 : decode cX7_init 21 = .ok (.return_, 1) := by decide +kernel
theorem dX7_carry_0 : decode cX7_carry 0 = .ok (.aload_n 1, 1) := by decide +kernel
theorem dX7_carry_1 : decode cX7_carry 1 = .ok (.getfield 19, 3) := by decide +kernel
theorem dX7_carry_4 : decode cX7_carry 4 = .ok (.bipush 12, 2) := by decide +kernel
theorem dX7_carry_6 : decode cX7_carry 6 = .ok (.isub, 1) := by decide +kernel
theorem dX7_carry_7 : decode cX7_carry 7 = .ok (.istore_n 2, 1) := by decide +kernel
theorem dX7_carry_8 : decode cX7_carry 8 = .ok (.iload_n 2, 1) := by decide +kernel
theorem dX7_carry_9 : decode cX7_carry 9 = .ok (.invokestatic 25, 3) := by decide +kernel
theorem dX7_carry_12 : decode cX7_carry 12 = .ok (.ifCond .ne 4, 3) := by decide +kernel
theorem dX7_carry_15 : decode cX7_carry 15 = .ok (.return_, 1) := by decide +kernel
theorem dX7_carry_16 : decode cX7_carry 16 = .ok (.aload_n 0, 1) := by decide +kernel
theorem dX7_carry_17 : decode cX7_carry 17 = .ok (.aload_n 0, 1) := by decide +kernel
theorem dX7_carry_18 : decode cX7_carry 18 = .ok (.getfield 29, 3) := by decide +kernel
theorem dX7_carry_21 : decode cX7_carry 21 = .ok (.iconst 1, 1) := by decide +kernel
theorem dX7_carry_22 : decode cX7_carry 22 = .ok (.iadd, 1) := by decide +kernel
theorem dX7_carry_23 : decode cX7_carry 23 = .ok (.bipush 15, 2) := by decide +kernel
theorem dX7_carry_25 : decode cX7_carry 25 = .ok (.iand, 1) := by decide +kernel
theorem dX7_carry_26 : decode cX7_carry 26 = .ok (.putfield 29, 3) := by decide +kernel
theorem dX7_carry_29 : decode cX7_carry 29 = .ok (.aload_n 0, 1) := by decide +kernel
theorem dX7_carry_30 : decode cX7_carry 30 = .ok (.getfield 15, 3) := by decide +kernel
theorem dX7_carry_33 : decode cX7_carry 33 = .ok (.aload_n 0, 1) := by decide +kernel
theorem dX7_carry_34 : decode cX7_carry 34 = .ok (.getfield 29, 3) := by decide +kernel
theorem dX7_carry_37 : decode cX7_carry 37 = .ok (.iload_n 2, 1) := by decide +kernel
theorem dX7_carry_38 : decode cX7_carry 38 = .ok (.iastore, 1) := by decide +kernel
theorem dX7_carry_39 : decode cX7_carry 39 = .ok (.aload_n 0, 1) := by decide +kernel
theorem dX7_carry_40 : decode cX7_carry 40 = .ok (.dup, 1) := by decide +kernel
theorem dX7_carry_41 : decode cX7_carry 41 = .ok (.getfield 32, 3) := by decide +kernel
theorem dX7_carry_44 : decode cX7_carry 44 = .ok (.iconst 1, 1) := by decide +kernel
theorem dX7_carry_45 : decode cX7_carry 45 = .ok (.iadd, 1) := by decide +kernel
theorem dX7_carry_46 : decode cX7_carry 46 = .ok (.putfield 32, 3) := by decide +kernel
theorem dX7_carry_49 : decode cX7_carry 49 = .ok (.aload_n 1, 1) := by decide +kernel
theorem dX7_carry_50 : decode cX7_carry 50 = .ok (.invokevirtual 35, 3) := by decide +kernel
theorem dX7_carry_53 : decode cX7_carry 53 = .ok (.aload_n 1, 1) := by decide +kernel
theorem dX7_carry_54 : decode cX7_carry 54 = .ok (.bipush 12, 2) := by decide +kernel
theorem dX7_carry_56 : decode cX7_carry 56 = .ok (.invokevirtual 38, 3) := by decide +kernel
theorem dX7_carry_59 : decode cX7_carry 59 = .ok (.iconst 0, 1) := by decide +kernel
theorem dX7_carry_60 : decode cX7_carry 60 = .ok (.istore_n 3, 1) := by decide +kernel
theorem dX7_carry_61 : decode cX7_carry 61 = .ok (.iload_n 3, 1) := by decide +kernel
theorem dX7_carry_62 : decode cX7_carry 62 = .ok (.iload_n 2, 1) := by decide +kernel
theorem dX7_carry_63 : decode cX7_carry 63 = .ok (.if_icmp .ge 28, 3) := by decide +kernel
theorem dX7_carry_66 : decode cX7_carry 66 = .ok (.aload_n 0, 1) := by decide +kernel
theorem dX7_carry_67 : decode cX7_carry 67 = .ok (.getfield 9, 3) := by decide +kernel
theorem dX7_carry_70 : decode cX7_carry 70 = .ok (.aload_n 0, 1) := by decide +kernel
theorem dX7_carry_71 : decode cX7_carry 71 = .ok (.getfield 29, 3) := by decide +kernel
theorem dX7_carry_74 : decode cX7_carry 74 = .ok (.bipush 80, 2) := by decide +kernel
theorem dX7_carry_76 : decode cX7_carry 76 = .ok (.imul, 1) := by decide +kernel
theorem dX7_carry_77 : decode cX7_carry 77 = .ok (.iload_n 3, 1) := by decide +kernel
theorem dX7_carry_78 : decode cX7_carry 78 = .ok (.iadd, 1) := by decide +kernel
theorem dX7_carry_79 : decode cX7_carry 79 = .ok (.aload_n 1, 1) := by decide +kernel
theorem dX7_carry_80 : decode cX7_carry 80 = .ok (.invokevirtual 42, 3) := by decide +kernel
theorem dX7_carry_83 : decode cX7_carry 83 = .ok (.i2b, 1) := by decide +kernel
theorem dX7_carry_84 : decode cX7_carry 84 = .ok (.bastore, 1) := by decide +kernel
theorem dX7_carry_85 : decode cX7_carry 85 = .ok (.iinc 3 1, 3) := by decide +kernel
theorem dX7_carry_88 : decode cX7_carry 88 = .ok (.goto (-27), 3) := by decide +kernel
theorem dX7_carry_91 : decode cX7_carry 91 = .ok (.return_, 1) := by decide +kernel
theorem dX7_byteOf_0 : decode cX7_byteOf 0 = .ok (.iload_n 1, 1) := by decide +kernel
theorem dX7_byteOf_1 : decode cX7_byteOf 1 = .ok (.ifCond .lt 9, 3) := by decide +kernel
theorem dX7_byteOf_4 : decode cX7_byteOf 4 = .ok (.iload_n 1, 1) := by decide +kernel
theorem dX7_byteOf_5 : decode cX7_byteOf 5 = .ok (.bipush 16, 2) := by decide +kernel
theorem dX7_byteOf_7 : decode cX7_byteOf 7 = .ok (.if_icmp .lt 5, 3) := by decide +kernel
theorem dX7_byteOf_10 : decode cX7_byteOf 10 = .ok (.iconst (-1), 1) := by decide +kernel
theorem dX7_byteOf_11 : decode cX7_byteOf 11 = .ok (.ireturn, 1) := by decide +kernel
theorem dX7_byteOf_12 : decode cX7_byteOf 12 = .ok (.aload_n 0, 1) := by decide +kernel
theorem dX7_byteOf_13 : decode cX7_byteOf 13 = .ok (.getfield 29, 3) := by decide +kernel
theorem dX7_byteOf_16 : decode cX7_byteOf 16 = .ok (.iload_n 1, 1) := by decide +kernel
theorem dX7_byteOf_17 : decode cX7_byteOf 17 = .ok (.isub, 1) := by decide +kernel
theorem dX7_byteOf_18 : decode cX7_byteOf 18 = .ok (.bipush 15, 2) := by decide +kernel
theorem dX7_byteOf_20 : decode cX7_byteOf 20 = .ok (.iand, 1) := by decide +kernel
theorem dX7_byteOf_21 : decode cX7_byteOf 21 = .ok (.istore_n 3, 1) := by decide +kernel
theorem dX7_byteOf_22 : decode cX7_byteOf 22 = .ok (.iload_n 2, 1) := by decide +kernel
theorem dX7_byteOf_23 : decode cX7_byteOf 23 = .ok (.ifCond .lt 31, 3) := by decide +kernel
theorem dX7_byteOf_26 : decode cX7_byteOf 26 = .ok (.iload_n 2, 1) := by decide +kernel
theorem dX7_byteOf_27 : decode cX7_byteOf 27 = .ok (.aload_n 0, 1) := by decide +kernel
theorem dX7_byteOf_28 : decode cX7_byteOf 28 = .ok (.getfield 15, 3) := by decide +kernel
theorem dX7_byteOf_31 : decode cX7_byteOf 31 = .ok (.iload_n 3, 1) := by decide +kernel
theorem dX7_byteOf_32 : decode cX7_byteOf 32 = .ok (.iaload, 1) := by decide +kernel
theorem dX7_byteOf_33 : decode cX7_byteOf 33 = .ok (.if_icmp .ge 21, 3) := by decide +kernel
theorem dX7_byteOf_36 : decode cX7_byteOf 36 = .ok (.aload_n 0, 1) := by decide +kernel
theorem dX7_byteOf_37 : decode cX7_byteOf 37 = .ok (.getfield 9, 3) := by decide +kernel
theorem dX7_byteOf_40 : decode cX7_byteOf 40 = .ok (.iload_n 3, 1) := by decide +kernel
theorem dX7_byteOf_41 : decode cX7_byteOf 41 = .ok (.bipush 80, 2) := by decide +kernel
theorem dX7_byteOf_43 : decode cX7_byteOf 43 = .ok (.imul, 1) := by decide +kernel
theorem dX7_byteOf_44 : decode cX7_byteOf 44 = .ok (.iload_n 2, 1) := by decide +kernel
theorem dX7_byteOf_45 : decode cX7_byteOf 45 = .ok (.iadd, 1) := by decide +kernel
theorem dX7_byteOf_46 : decode cX7_byteOf 46 = .ok (.baload, 1) := by decide +kernel
theorem dX7_byteOf_47 : decode cX7_byteOf 47 = .ok (.sipush 255, 3) := by decide +kernel
theorem dX7_byteOf_50 : decode cX7_byteOf 50 = .ok (.iand, 1) := by decide +kernel
theorem dX7_byteOf_51 : decode cX7_byteOf 51 = .ok (.goto 4, 3) := by decide +kernel
theorem dX7_byteOf_54 : decode cX7_byteOf 54 = .ok (.iconst (-1), 1) := by decide +kernel
theorem dX7_byteOf_55 : decode cX7_byteOf 55 = .ok (.ireturn, 1) := by decide +kernel
theorem dX8_init_0 : decode cX8_init 0 = .ok (.aload_n 0, 1) := by decide +kernel
theorem dX8_init_1 : decode cX8_init 1 = .ok (.invokespecial 1, 3) := by decide +kernel
theorem dX8_init_4 : decode cX8_init 4 = .ok (.new 7, 3) := by decide +kernel
theorem dX8_init_7 : decode cX8_init 7 = .ok (.dup, 1) := by decide +kernel
theorem dX8_init_8 : decode cX8_init 8 = .ok (.invokespecial 9, 3) := by decide +kernel
theorem dX8_init_11 : decode cX8_init 11 = .ok (.astore_n 1, 1) := by decide +kernel
theorem dX8_init_12 : decode cX8_init 12 = .ok (.aload_n 0, 1) := by decide +kernel
theorem dX8_init_13 : decode cX8_init 13 = .ok (.aload_n 1, 1) := by decide +kernel
theorem dX8_init_14 : decode cX8_init 14 = .ok (.putfield 10, 3) := by decide +kernel
theorem dX8_init_17 : decode cX8_init 17 = .ok (.aload_n 0, 1) := by decide +kernel
theorem dX8_init_18 : decode cX8_init 18 = .ok (.new 16, 3) := by decide +kernel
theorem dX8_init_21 : decode cX8_init 21 = .ok (.dup, 1) := by decide +kernel
theorem dX8_init_22 : decode cX8_init 22 = .ok (.aload_n 1, 1) := by decide +kernel
theorem dX8_init_23 : decode cX8_init 23 = .ok (.invokespecial 18, 3) := by decide +kernel
theorem dX8_init_26 : decode cX8_init 26 = .ok (.putfield 21, 3) := by decide +kernel
theorem dX8_init_29 : decode cX8_init 29 = .ok (.aload_n 0, 1) := by decide +kernel
theorem dX8_init_30 : decode cX8_init 30 = .ok (.new 25, 3) := by decide +kernel
theorem dX8_init_33 : decode cX8_init 33 = .ok (.dup, 1) := by decide +kernel
theorem dX8_init_34 : decode cX8_init 34 = .ok (.aload_n 1, 1) := by decide +kernel
theorem dX8_init_35 : decode cX8_init 35 = .ok (.invokespecial 27, 3) := by decide +kernel
theorem dX8_init_38 : decode cX8_init 38 = .ok (.putfield 28, 3) := by decide +kernel
theorem dX8_init_41 : decode cX8_init 41 = .ok (.return_, 1) := by decide +kernel
theorem dX8_start_0 : decode cX8_start 0 = .ok (.aload_n 0, 1) := by decide +kernel
theorem dX8_start_1 : decode cX8_start 1 = .ok (.getfield 10, 3) := by decide +kernel
theorem dX8_start_4 : decode cX8_start 4 = .ok (.invokevirtual 32, 3) := by decide +kernel
theorem dX8_start_7 : decode cX8_start 7 = .ok (.aload_n 0, 1) := by decide +kernel
theorem dX8_start_8 : decode cX8_start 8 = .ok (.getfield 21, 3) := by decide +kernel
theorem dX8_start_11 : decode cX8_start 11 = .ok (.iload_n 1, 1) := by decide +kernel
theorem dX8_start_12 : decode cX8_start 12 = .ok (.invokevirtual 35, 3) := by decide +kernel
theorem dX8_start_15 : decode cX8_start 15 = .ok (.iconst 0, 1) := by decide +kernel
theorem dX8_start_16 : decode cX8_start 16 = .ok (.istore_n 2, 1) := by decide +kernel
theorem dX8_start_17 : decode cX8_start 17 = .ok (.iload_n 2, 1) := by decide +kernel
theorem dX8_start_18 : decode cX8_start 18 = .ok (.iconst 3, 1) := by decide +kernel
theorem dX8_start_19 : decode cX8_start 19 = .ok (.if_icmp .ge 34, 3) := by decide +kernel
theorem dX8_start_22 : decode cX8_start 22 = .ok (.aload_n 0, 1) := by decide +kernel
theorem dX8_start_23 : decode cX8_start 23 = .ok (.getfield 21, 3) := by decide +kernel
theorem dX8_start_26 : decode cX8_start 26 = .ok (.iload_n 2, 1) := by decide +kernel
theorem dX8_start_27 : decode cX8_start 27 = .ok (.invokevirtual 39, 3) := by decide +kernel
theorem dX8_start_30 : decode cX8_start 30 = .ok (.bipush 8, 2) := by decide +kernel
theorem dX8_start_32 : decode cX8_start 32 = .ok (.iload_n 2, 1) := by decide +kernel
theorem dX8_start_33 : decode cX8_start 33 = .ok (.invokestatic 43, 3) := by decide +kernel
theorem dX8_start_36 : decode cX8_start 36 = .ok (.iload_n 2, 1) := by decide +kernel
theorem dX8_start_37 : decode cX8_start 37 = .ok (.invokestatic 47, 3) := by decide +kernel
theorem dX8_start_40 : decode cX8_start 40 = .ok (.iload_n 2, 1) := by decide +kernel
theorem dX8_start_41 : decode cX8_start 41 = .ok (.invokestatic 50, 3) := by decide +kernel
theorem dX8_start_44 : decode cX8_start 44 = .ok (.invokevirtual 53, 3) := by decide +kernel
theorem dX8_start_47 : decode cX8_start 47 = .ok (.iinc 2 1, 3) := by decide +kernel
theorem dX8_start_50 : decode cX8_start 50 = .ok (.goto (-33), 3) := by decide +kernel
theorem dX8_start_53 : decode cX8_start 53 = .ok (.aload_n 0, 1) := by decide +kernel
theorem dX8_start_54 : decode cX8_start 54 = .ok (.getfield 21, 3) := by decide +kernel
theorem dX8_start_57 : decode cX8_start 57 = .ok (.iconst 1, 1) := by decide +kernel
theorem dX8_start_58 : decode cX8_start 58 = .ok (.putfield 59, 3) := by decide +kernel
theorem dX8_start_61 : decode cX8_start 61 = .ok (.aload_n 0, 1) := by decide +kernel
theorem dX8_start_62 : decode cX8_start 62 = .ok (.getfield 28, 3) := by decide +kernel
theorem dX8_start_65 : decode cX8_start 65 = .ok (.iload_n 1, 1) := by decide +kernel
theorem dX8_start_66 : decode cX8_start 66 = .ok (.invokevirtual 63, 3) := by decide +kernel
theorem dX8_start_69 : decode cX8_start 69 = .ok (.iconst 0, 1) := by decide +kernel
theorem dX8_start_70 : decode cX8_start 70 = .ok (.ireturn, 1) := by decide +kernel
theorem dX8_reset_0 : decode cX8_reset 0 = .ok (.aload_n 0, 1) := by decide +kernel
theorem dX8_reset_1 : decode cX8_reset 1 = .ok (.getfield 21, 3) := by decide +kernel
theorem dX8_reset_4 : decode cX8_reset 4 = .ok (.iload_n 1, 1) := by decide +kernel
theorem dX8_reset_5 : decode cX8_reset 5 = .ok (.invokevirtual 35, 3) := by decide +kernel
theorem dX8_reset_8 : decode cX8_reset 8 = .ok (.aload_n 0, 1) := by decide +kernel
theorem dX8_reset_9 : decode cX8_reset 9 = .ok (.getfield 28, 3) := by decide +kernel
theorem dX8_reset_12 : decode cX8_reset 12 = .ok (.invokevirtual 66, 3) := by decide +kernel
theorem dX8_reset_15 : decode cX8_reset 15 = .ok (.iconst 0, 1) := by decide +kernel
theorem dX8_reset_16 : decode cX8_reset 16 = .ok (.ireturn, 1) := by decide +kernel
theorem dX8_queue_0 : decode cX8_queue 0 = .ok (.iload_n 1, 1) := by decide +kernel
theorem dX8_queue_1 : decode cX8_queue 1 = .ok (.invokestatic 69, 3) := by decide +kernel
theorem dX8_queue_4 : decode cX8_queue 4 = .ok (.ifCond .eq 34, 3) := by decide +kernel
theorem dX8_queue_7 : decode cX8_queue 7 = .ok (.aload_n 0, 1) := by decide +kernel
theorem dX8_queue_8 : decode cX8_queue 8 = .ok (.getfield 21, 3) := by decide +kernel
theorem dX8_queue_11 : decode cX8_queue 11 = .ok (.getfield 59, 3) := by decide +kernel
theorem dX8_queue_14 : decode cX8_queue 14 = .ok (.ifCond .ne 24, 3) := by decide +kernel
theorem dX8_queue_17 : decode cX8_queue 17 = .ok (.aload_n 0, 1) := by decide +kernel
theorem dX8_queue_18 : decode cX8_queue 18 = .ok (.getfield 21, 3) := by decide +kernel
theorem dX8_queue_21 : decode cX8_queue 21 = .ok (.iload_n 1, 1) := by decide +kernel
theorem dX8_queue_22 : decode cX8_queue 22 = .ok (.invokevirtual 39, 3) := by decide +kernel
theorem dX8_queue_25 : decode cX8_queue 25 = .ok (.getfield 73, 3) := by decide +kernel
theorem dX8_queue_28 : decode cX8_queue 28 = .ok (.ifCond .ne 10, 3) := by decide +kernel
theorem dX8_queue_31 : decode cX8_queue 31 = .ok (.iload_n 2, 1) := by decide +kernel
theorem dX8_queue_32 : decode cX8_queue 32 = .ok (.invokestatic 77, 3) := by decide +kernel
theorem dX8_queue_35 : decode cX8_queue 35 = .ok (.ifCond .ne 6, 3) := by decide +kernel
theorem dX8_queue_38 : decode cX8_queue 38 = .ok (.bipush (-2), 2) := by decide +kernel
theorem dX8_queue_40 : decode cX8_queue 40 = .ok (.ireturn, 1) := by decide +kernel
theorem dX8_queue_41 : decode cX8_queue 41 = .ok (.iload_n 3, 1) := by decide +kernel
theorem dX8_queue_42 : decode cX8_queue 42 = .ok (.bipush 16, 2) := by decide +kernel
theorem dX8_queue_44 : decode cX8_queue 44 = .ok (.bipush 16, 2) := by decide +kernel
theorem dX8_queue_46 : decode cX8_queue 46 = .ok (.iload_n 2, 1) := by decide +kernel
theorem dX8_queue_47 : decode cX8_queue 47 = .ok (.imul, 1) := by decide +kernel
theorem dX8_queue_48 : decode cX8_queue 48 = .ok (.invokestatic 80, 3) := by decide +kernel
theorem dX8_queue_51 : decode cX8_queue 51 = .ok (.ifCond .eq 32, 3) := by decide +kernel
theorem dX8_queue_54 : decode cX8_queue 54 = .ok (.iload 4, 2) := by decide +kernel
theorem dX8_queue_56 : decode cX8_queue 56 = .ok (.iconst 2, 1) := by decide +kernel
theorem dX8_queue_57 : decode cX8_queue 57 = .ok (.iconst 4, 1) := by decide +kernel
theorem dX8_queue_58 : decode cX8_queue 58 = .ok (.iconst 2, 1) := by decide +kernel
theorem dX8_queue_59 : decode cX8_queue 59 = .ok (.iload_n 2, 1) := by decide +kernel
theorem dX8_queue_60 : decode cX8_queue 60 = .ok (.imul, 1) := by decide +kernel
theorem dX8_queue_61 : decode cX8_queue 61 = .ok (.iadd, 1) := by decide +kernel
theorem dX8_queue_62 : decode cX8_queue 62 = .ok (.invokestatic 80, 3) := by decide +kernel
theorem dX8_queue_65 : decode cX8_queue 65 = .ok (.ifCond .eq 18, 3) := by decide +kernel
theorem dX8_queue_68 : decode cX8_queue 68 = .ok (.iload 5, 2) := by decide +kernel
theorem dX8_queue_70 : decode cX8_queue 70 = .ok (.iconst 4, 1) := by decide +kernel
theorem dX8_queue_71 : decode cX8_queue 71 = .ok (.iconst 4, 1) := by decide +kernel
theorem dX8_queue_72 : decode cX8_queue 72 = .ok (.bipush 8, 2) := by decide +kernel
theorem dX8_queue_74 : decode cX8_queue 74 = .ok (.iload_n 2, 1) := by decide +kernel
theorem dX8_queue_75 : decode cX8_queue 75 = .ok (.imul, 1) := by decide +kernel
theorem dX8_queue_76 : decode cX8_queue 76 = .ok (.iadd, 1) := by decide +kernel
theorem dX8_queue_77 : decode cX8_queue 77 = .ok (.invokestatic 80, 3) := by decide +kernel
theorem dX8_queue_80 : decode cX8_queue 80 = .ok (.ifCond .ne 6, 3) := by decide +kernel
theorem dX8_queue_83 : decode cX8_queue 83 = .ok (.bipush (-2), 2) := by decide +kernel
theorem dX8_queue_85 : decode cX8_queue 85 = .ok (.ireturn, 1) := by decide +kernel
theorem dX8_queue_86 : decode cX8_queue 86 = .ok (.aload_n 0, 1) := by decide +kernel
theorem dX8_queue_87 : decode cX8_queue 87 = .ok (.getfield 21, 3) := by decide +kernel
theorem dX8_queue_90 : decode cX8_queue 90 = .ok (.iload_n 1, 1) := by decide +kernel
theorem dX8_queue_91 : decode cX8_queue 91 = .ok (.invokevirtual 39, 3) := by decide +kernel
theorem dX8_queue_94 : decode cX8_queue 94 = .ok (.iload_n 2, 1) := by decide +kernel
theorem dX8_queue_95 : decode cX8_queue 95 = .ok (.iload_n 3, 1) := by decide +kernel
theorem dX8_queue_96 : decode cX8_queue 96 = .ok (.iload 4, 2) := by decide +kernel
theorem dX8_queue_98 : decode cX8_queue 98 = .ok (.iload 5, 2) := by decide +kernel
theorem dX8_queue_100 : decode cX8_queue 100 = .ok (.invokevirtual 53, 3) := by decide +kernel
theorem dX8_queue_103 : decode cX8_queue 103 = .ok (.iconst 0, 1) := by decide +kernel
theorem dX8_queue_104 : decode cX8_queue 104 = .ok (.ireturn, 1) := by decide +kernel
theorem dX8_run_0 : decode cX8_run 0 = .ok (.aload_n 0, 1) := by decide +kernel
theorem dX8_run_1 : decode cX8_run 1 = .ok (.getfield 21, 3) := by decide +kernel
theorem dX8_run_4 : decode cX8_run 4 = .ok (.getfield 59, 3) := by decide +kernel
theorem dX8_run_7 : decode cX8_run 7 = .ok (.ifCond .eq 6, 3) := by decide +kernel
theorem dX8_run_10 : decode cX8_run 10 = .ok (.bipush (-2), 2) := by decide +kernel
theorem dX8_run_12 : decode cX8_run 12 = .ok (.ireturn, 1) := by decide +kernel
theorem dX8_run_13 : decode cX8_run 13 = .ok (.aload_n 0, 1) := by decide +kernel
theorem dX8_run_14 : decode cX8_run 14 = .ok (.getfield 21, 3) := by decide +kernel
theorem dX8_run_17 : decode cX8_run 17 = .ok (.iconst 1, 1) := by decide +kernel
theorem dX8_run_18 : decode cX8_run 18 = .ok (.putfield 59, 3) := by decide +kernel
theorem dX8_run_21 : decode cX8_run 21 = .ok (.iconst 0, 1) := by decide +kernel
theorem dX8_run_22 : decode cX8_run 22 = .ok (.ireturn, 1) := by decide +kernel
theorem dX8_poke_0 : decode cX8_poke 0 = .ok (.iload_n 1, 1) := by decide +kernel
theorem dX8_poke_1 : decode cX8_poke 1 = .ok (.invokestatic 84, 3) := by decide +kernel
theorem dX8_poke_4 : decode cX8_poke 4 = .ok (.ifCond .eq 14, 3) := by decide +kernel
theorem dX8_poke_7 : decode cX8_poke 7 = .ok (.iload_n 2, 1) := by decide +kernel
theorem dX8_poke_8 : decode cX8_poke 8 = .ok (.ifCond .lt 10, 3) := by decide +kernel
theorem dX8_poke_11 : decode cX8_poke 11 = .ok (.iload_n 2, 1) := by decide +kernel
theorem dX8_poke_12 : decode cX8_poke 12 = .ok (.sipush 255, 3) := by decide +kernel
theorem dX8_poke_15 : decode cX8_poke 15 = .ok (.if_icmp .le 6, 3) := by decide +kernel
theorem dX8_poke_18 : decode cX8_poke 18 = .ok (.bipush (-2), 2) := by decide +kernel
theorem dX8_poke_20 : decode cX8_poke 20 = .ok (.ireturn, 1) := by decide +kernel
theorem dX8_poke_21 : decode cX8_poke 21 = .ok (.aload_n 0, 1) := by decide +kernel
theorem dX8_poke_22 : decode cX8_poke 22 = .ok (.getfield 10, 3) := by decide +kernel
theorem dX8_poke_25 : decode cX8_poke 25 = .ok (.iload_n 1, 1) := by decide +kernel
theorem dX8_poke_26 : decode cX8_poke 26 = .ok (.invokevirtual 87, 3) := by decide +kernel
theorem dX8_poke_29 : decode cX8_poke 29 = .ok (.istore_n 3, 1) := by decide +kernel
theorem dX8_poke_30 : decode cX8_poke 30 = .ok (.aload_n 0, 1) := by decide +kernel
theorem dX8_poke_31 : decode cX8_poke 31 = .ok (.getfield 10, 3) := by decide +kernel
theorem dX8_poke_34 : decode cX8_poke 34 = .ok (.iload_n 1, 1) := by decide +kernel
theorem dX8_poke_35 : decode cX8_poke 35 = .ok (.iload_n 2, 1) := by decide +kernel
theorem dX8_poke_36 : decode cX8_poke 36 = .ok (.invokevirtual 90, 3) := by decide +kernel
theorem dX8_poke_39 : decode cX8_poke 39 = .ok (.iload_n 3, 1) := by decide +kernel
theorem dX8_poke_40 : decode cX8_poke 40 = .ok (.ireturn, 1) := by decide +kernel
theorem dX8_peek_0 : decode cX8_peek 0 = .ok (.iload_n 1, 1) := by decide +kernel
theorem dX8_peek_1 : decode cX8_peek 1 = .ok (.invokestatic 84, 3) := by decide +kernel
theorem dX8_peek_4 : decode cX8_peek 4 = .ok (.ifCond .eq 14, 3) := by decide +kernel
theorem dX8_peek_7 : decode cX8_peek 7 = .ok (.aload_n 0, 1) := by decide +kernel
theorem dX8_peek_8 : decode cX8_peek 8 = .ok (.getfield 10, 3) := by decide +kernel
theorem dX8_peek_11 : decode cX8_peek 11 = .ok (.iload_n 1, 1) := by decide +kernel
theorem dX8_peek_12 : decode cX8_peek 12 = .ok (.invokevirtual 87, 3) := by decide +kernel
theorem dX8_peek_15 : decode cX8_peek 15 = .ok (.goto 5, 3) := by decide +kernel
theorem dX8_peek_18 : decode cX8_peek 18 = .ok (.bipush (-2), 2) := by decide +kernel
theorem dX8_peek_20 : decode cX8_peek 20 = .ok (.ireturn, 1) := by decide +kernel
theorem dX8_step_0 : decode cX8_step 0 = .ok (.iload_n 1, 1) := by decide +kernel
theorem dX8_step_1 : decode cX8_step 1 = .ok (.ifCond .eq 11, 3) := by decide +kernel
theorem dX8_step_4 : decode cX8_step 4 = .ok (.iload_n 1, 1) := by decide +kernel
theorem dX8_step_5 : decode cX8_step 5 = .ok (.iconst 2, 1) := by decide +kernel
theorem dX8_step_6 : decode cX8_step 6 = .ok (.if_icmp .eq 6, 3) := by decide +kernel
theorem dX8_step_9 : decode cX8_step 9 = .ok (.bipush (-2), 2) := by decide +kernel
theorem dX8_step_11 : decode cX8_step 11 = .ok (.ireturn, 1) := by decide +kernel
theorem dX8_step_12 : decode cX8_step 12 = .ok (.aload_n 0, 1) := by decide +kernel
theorem dX8_step_13 : decode cX8_step 13 = .ok (.getfield 21, 3) := by decide +kernel
theorem dX8_step_16 : decode cX8_step 16 = .ok (.iload_n 1, 1) := by decide +kernel
theorem dX8_step_17 : decode cX8_step 17 = .ok (.invokevirtual 94, 3) := by decide +kernel
theorem dX8_step_20 : decode cX8_step 20 = .ok (.ireturn, 1) := by decide +kernel
theorem dX8_arrive_0 : decode cX8_arrive 0 = .ok (.iload_n 1, 1) := by decide +kernel
theorem dX8_arrive_1 : decode cX8_arrive 1 = .ok (.invokestatic 97, 3) := by decide +kernel
theorem dX8_arrive_4 : decode cX8_arrive 4 = .ok (.ifCond .eq 15, 3) := by decide +kernel
theorem dX8_arrive_7 : decode cX8_arrive 7 = .ok (.aload_n 0, 1) := by decide +kernel
theorem dX8_arrive_8 : decode cX8_arrive 8 = .ok (.getfield 21, 3) := by decide +kernel
theorem dX8_arrive_11 : decode cX8_arrive 11 = .ok (.iload_n 1, 1) := by decide +kernel
theorem dX8_arrive_12 : decode cX8_arrive 12 = .ok (.lload_n 2, 1) := by decide +kernel
theorem dX8_arrive_13 : decode cX8_arrive 13 = .ok (.invokevirtual 100, 3) := by decide +kernel
theorem dX8_arrive_16 : decode cX8_arrive 16 = .ok (.goto 5, 3) := by decide +kernel
theorem dX8_arrive_19 : decode cX8_arrive 19 = .ok (.bipush (-2), 2) := by decide +kernel
theorem dX8_arrive_21 : decode cX8_arrive 21 = .ok (.ireturn, 1) := by decide +kernel
theorem dX8_read_0 : decode cX8_read 0 = .ok (.iload_n 1, 1) := by decide +kernel
theorem dX8_read_1 : decode cX8_read 1 = .ok (.invokestatic 104, 3) := by decide +kernel
theorem dX8_read_4 : decode cX8_read 4 = .ok (.ifCond .eq 16, 3) := by decide +kernel
theorem dX8_read_7 : decode cX8_read 7 = .ok (.aload_n 0, 1) := by decide +kernel
theorem dX8_read_8 : decode cX8_read 8 = .ok (.getfield 28, 3) := by decide +kernel
theorem dX8_read_11 : decode cX8_read 11 = .ok (.iconst 0, 1) := by decide +kernel
theorem dX8_read_12 : decode cX8_read 12 = .ok (.iload_n 1, 1) := by decide +kernel
theorem dX8_read_13 : decode cX8_read 13 = .ok (.lconst 0, 1) := by decide +kernel
theorem dX8_read_14 : decode cX8_read 14 = .ok (.invokevirtual 107, 3) := by decide +kernel
theorem dX8_read_17 : decode cX8_read 17 = .ok (.goto 5, 3) := by decide +kernel
theorem dX8_read_20 : decode cX8_read 20 = .ok (.bipush (-2), 2) := by decide +kernel
theorem dX8_read_22 : decode cX8_read 22 = .ok (.ireturn, 1) := by decide +kernel
theorem dX8_write_0 : decode cX8_write 0 = .ok (.iload_n 1, 1) := by decide +kernel
theorem dX8_write_1 : decode cX8_write 1 = .ok (.invokestatic 104, 3) := by decide +kernel
theorem dX8_write_4 : decode cX8_write 4 = .ok (.ifCond .eq 16, 3) := by decide +kernel
theorem dX8_write_7 : decode cX8_write 7 = .ok (.aload_n 0, 1) := by decide +kernel
theorem dX8_write_8 : decode cX8_write 8 = .ok (.getfield 28, 3) := by decide +kernel
theorem dX8_write_11 : decode cX8_write 11 = .ok (.iconst 1, 1) := by decide +kernel
theorem dX8_write_12 : decode cX8_write 12 = .ok (.iload_n 1, 1) := by decide +kernel
theorem dX8_write_13 : decode cX8_write 13 = .ok (.lload_n 2, 1) := by decide +kernel
theorem dX8_write_14 : decode cX8_write 14 = .ok (.invokevirtual 107, 3) := by decide +kernel
theorem dX8_write_17 : decode cX8_write 17 = .ok (.goto 5, 3) := by decide +kernel
theorem dX8_write_20 : decode cX8_write 20 = .ok (.bipush (-2), 2) := by decide +kernel
theorem dX8_write_22 : decode cX8_write 22 = .ok (.ireturn, 1) := by decide +kernel
theorem dX8_send_0 : decode cX8_send 0 = .ok (.iload_n 1, 1) := by decide +kernel
theorem dX8_send_1 : decode cX8_send 1 = .ok (.invokestatic 97, 3) := by decide +kernel
theorem dX8_send_4 : decode cX8_send 4 = .ok (.ifCond .eq 15, 3) := by decide +kernel
theorem dX8_send_7 : decode cX8_send 7 = .ok (.aload_n 0, 1) := by decide +kernel
theorem dX8_send_8 : decode cX8_send 8 = .ok (.getfield 28, 3) := by decide +kernel
theorem dX8_send_11 : decode cX8_send 11 = .ok (.iload_n 1, 1) := by decide +kernel
theorem dX8_send_12 : decode cX8_send 12 = .ok (.lload_n 2, 1) := by decide +kernel
theorem dX8_send_13 : decode cX8_send 13 = .ok (.invokevirtual 111, 3) := by decide +kernel
theorem dX8_send_16 : decode cX8_send 16 = .ok (.goto 5, 3) := by decide +kernel
theorem dX8_send_19 : decode cX8_send 19 = .ok (.bipush (-2), 2) := by decide +kernel
theorem dX8_send_21 : decode cX8_send 21 = .ok (.ireturn, 1) := by decide +kernel
theorem dX8_post_0 : decode cX8_post 0 = .ok (.aload_n 0, 1) := by decide +kernel
theorem dX8_post_1 : decode cX8_post 1 = .ok (.getfield 28, 3) := by decide +kernel
theorem dX8_post_4 : decode cX8_post 4 = .ok (.invokevirtual 114, 3) := by decide +kernel
theorem dX8_post_7 : decode cX8_post 7 = .ok (.ireturn, 1) := by decide +kernel
theorem dX8_collect_0 : decode cX8_collect 0 = .ok (.iload_n 1, 1) := by decide +kernel
theorem dX8_collect_1 : decode cX8_collect 1 = .ok (.invokestatic 69, 3) := by decide +kernel
theorem dX8_collect_4 : decode cX8_collect 4 = .ok (.ifCond .eq 14, 3) := by decide +kernel
theorem dX8_collect_7 : decode cX8_collect 7 = .ok (.aload_n 0, 1) := by decide +kernel
theorem dX8_collect_8 : decode cX8_collect 8 = .ok (.getfield 28, 3) := by decide +kernel
theorem dX8_collect_11 : decode cX8_collect 11 = .ok (.iload_n 1, 1) := by decide +kernel
theorem dX8_collect_12 : decode cX8_collect 12 = .ok (.invokevirtual 118, 3) := by decide +kernel
theorem dX8_collect_15 : decode cX8_collect 15 = .ok (.goto 5, 3) := by decide +kernel
theorem dX8_collect_18 : decode cX8_collect 18 = .ok (.bipush (-2), 2) := by decide +kernel
theorem dX8_collect_20 : decode cX8_collect 20 = .ok (.ireturn, 1) := by decide +kernel
theorem dX8_written_0 : decode cX8_written 0 = .ok (.iload_n 1, 1) := by decide +kernel
theorem dX8_written_1 : decode cX8_written 1 = .ok (.invokestatic 69, 3) := by decide +kernel
theorem dX8_written_4 : decode cX8_written 4 = .ok (.ifCond .eq 17, 3) := by decide +kernel
theorem dX8_written_7 : decode cX8_written 7 = .ok (.aload_n 0, 1) := by decide +kernel
theorem dX8_written_8 : decode cX8_written 8 = .ok (.getfield 28, 3) := by decide +kernel
theorem dX8_written_11 : decode cX8_written 11 = .ok (.iload_n 1, 1) := by decide +kernel
theorem dX8_written_12 : decode cX8_written 12 = .ok (.invokevirtual 121, 3) := by decide +kernel
theorem dX8_written_15 : decode cX8_written 15 = .ok (.getfield 125, 3) := by decide +kernel
theorem dX8_written_18 : decode cX8_written 18 = .ok (.goto 5, 3) := by decide +kernel
theorem dX8_written_21 : decode cX8_written 21 = .ok (.bipush (-2), 2) := by decide +kernel
theorem dX8_written_23 : decode cX8_written 23 = .ok (.ireturn, 1) := by decide +kernel
theorem dX8_wire_0 : decode cX8_wire 0 = .ok (.aload_n 0, 1) := by decide +kernel
theorem dX8_wire_1 : decode cX8_wire 1 = .ok (.getfield 21, 3) := by decide +kernel
theorem dX8_wire_4 : decode cX8_wire 4 = .ok (.getfield 130, 3) := by decide +kernel
theorem dX8_wire_7 : decode cX8_wire 7 = .ok (.iload_n 1, 1) := by decide +kernel
theorem dX8_wire_8 : decode cX8_wire 8 = .ok (.iload_n 2, 1) := by decide +kernel
theorem dX8_wire_9 : decode cX8_wire 9 = .ok (.invokevirtual 134, 3) := by decide +kernel
theorem dX8_wire_12 : decode cX8_wire 12 = .ok (.ireturn, 1) := by decide +kernel
theorem dX8_disk_0 : decode cX8_disk 0 = .ok (.iload_n 1, 1) := by decide +kernel
theorem dX8_disk_1 : decode cX8_disk 1 = .ok (.invokestatic 104, 3) := by decide +kernel
theorem dX8_disk_4 : decode cX8_disk 4 = .ok (.ifCond .eq 13, 3) := by decide +kernel
theorem dX8_disk_7 : decode cX8_disk 7 = .ok (.iload_n 2, 1) := by decide +kernel
theorem dX8_disk_8 : decode cX8_disk 8 = .ok (.ifCond .lt 9, 3) := by decide +kernel
theorem dX8_disk_11 : decode cX8_disk 11 = .ok (.iload_n 2, 1) := by decide +kernel
theorem dX8_disk_12 : decode cX8_disk 12 = .ok (.bipush 64, 2) := by decide +kernel
theorem dX8_disk_14 : decode cX8_disk 14 = .ok (.if_icmp .lt 6, 3) := by decide +kernel
theorem dX8_disk_17 : decode cX8_disk 17 = .ok (.bipush (-2), 2) := by decide +kernel
theorem dX8_disk_19 : decode cX8_disk 19 = .ok (.ireturn, 1) := by decide +kernel
theorem dX8_disk_20 : decode cX8_disk 20 = .ok (.aload_n 0, 1) := by decide +kernel
theorem dX8_disk_21 : decode cX8_disk 21 = .ok (.getfield 21, 3) := by decide +kernel
theorem dX8_disk_24 : decode cX8_disk 24 = .ok (.getfield 140, 3) := by decide +kernel
theorem dX8_disk_27 : decode cX8_disk 27 = .ok (.bipush 64, 2) := by decide +kernel
theorem dX8_disk_29 : decode cX8_disk 29 = .ok (.iload_n 1, 1) := by decide +kernel
theorem dX8_disk_30 : decode cX8_disk 30 = .ok (.imul, 1) := by decide +kernel
theorem dX8_disk_31 : decode cX8_disk 31 = .ok (.iload_n 2, 1) := by decide +kernel
theorem dX8_disk_32 : decode cX8_disk 32 = .ok (.iadd, 1) := by decide +kernel
theorem dX8_disk_33 : decode cX8_disk 33 = .ok (.invokevirtual 144, 3) := by decide +kernel
theorem dX8_disk_36 : decode cX8_disk 36 = .ok (.ireturn, 1) := by decide +kernel
theorem dX8_told_0 : decode cX8_told 0 = .ok (.iload_n 1, 1) := by decide +kernel
theorem dX8_told_1 : decode cX8_told 1 = .ok (.invokestatic 69, 3) := by decide +kernel
theorem dX8_told_4 : decode cX8_told 4 = .ok (.ifCond .ne 6, 3) := by decide +kernel
theorem dX8_told_7 : decode cX8_told 7 = .ok (.bipush (-2), 2) := by decide +kernel
theorem dX8_told_9 : decode cX8_told 9 = .ok (.ireturn, 1) := by decide +kernel
theorem dX8_told_10 : decode cX8_told 10 = .ok (.aload_n 0, 1) := by decide +kernel
theorem dX8_told_11 : decode cX8_told 11 = .ok (.getfield 21, 3) := by decide +kernel
theorem dX8_told_14 : decode cX8_told 14 = .ok (.iload_n 1, 1) := by decide +kernel
theorem dX8_told_15 : decode cX8_told 15 = .ok (.invokevirtual 39, 3) := by decide +kernel
theorem dX8_told_18 : decode cX8_told 18 = .ok (.astore_n 3, 1) := by decide +kernel
theorem dX8_told_19 : decode cX8_told 19 = .ok (.aload_n 0, 1) := by decide +kernel
theorem dX8_told_20 : decode cX8_told 20 = .ok (.getfield 28, 3) := by decide +kernel
theorem dX8_told_23 : decode cX8_told 23 = .ok (.iload_n 1, 1) := by decide +kernel
theorem dX8_told_24 : decode cX8_told 24 = .ok (.invokevirtual 121, 3) := by decide +kernel
theorem dX8_told_27 : decode cX8_told 27 = .ok (.astore 4, 2) := by decide +kernel
theorem dX8_told_29 : decode cX8_told 29 = .ok (.iload_n 2, 1) := by decide +kernel
theorem dX8_told_30 : decode cX8_told 30 = .ok (.tableswitch 87 0 6 #[42, 55, 60, 65, 70, 75, 81], 42) := by decide +kernel
theorem dX8_told_72 : decode cX8_told 72 = .ok (.aload_n 3, 1) := by decide +kernel
theorem dX8_told_73 : decode cX8_told 73 = .ok (.getfield 73, 3) := by decide +kernel
theorem dX8_told_76 : decode cX8_told 76 = .ok (.ifCond .eq 7, 3) := by decide +kernel
theorem dX8_told_79 : decode cX8_told 79 = .ok (.iconst 1, 1) := by decide +kernel
theorem dX8_told_80 : decode cX8_told 80 = .ok (.goto 4, 3) := by decide +kernel
theorem dX8_told_83 : decode cX8_told 83 = .ok (.iconst 0, 1) := by decide +kernel
theorem dX8_told_84 : decode cX8_told 84 = .ok (.ireturn, 1) := by decide +kernel
theorem dX8_told_85 : decode cX8_told 85 = .ok (.aload_n 3, 1) := by decide +kernel
theorem dX8_told_86 : decode cX8_told 86 = .ok (.getfield 147, 3) := by decide +kernel
theorem dX8_told_89 : decode cX8_told 89 = .ok (.ireturn, 1) := by decide +kernel
theorem dX8_told_90 : decode cX8_told 90 = .ok (.aload_n 3, 1) := by decide +kernel
theorem dX8_told_91 : decode cX8_told 91 = .ok (.getfield 150, 3) := by decide +kernel
theorem dX8_told_94 : decode cX8_told 94 = .ok (.ireturn, 1) := by decide +kernel
theorem dX8_told_95 : decode cX8_told 95 = .ok (.aload_n 3, 1) := by decide +kernel
theorem dX8_told_96 : decode cX8_told 96 = .ok (.getfield 153, 3) := by decide +kernel
theorem dX8_told_99 : decode cX8_told 99 = .ok (.ireturn, 1) := by decide +kernel
theorem dX8_told_100 : decode cX8_told 100 = .ok (.aload_n 3, 1) := by decide +kernel
theorem dX8_told_101 : decode cX8_told 101 = .ok (.getfield 156, 3) := by decide +kernel
theorem dX8_told_104 : decode cX8_told 104 = .ok (.ireturn, 1) := by decide +kernel
theorem dX8_told_105 : decode cX8_told 105 = .ok (.aload 4, 2) := by decide +kernel
theorem dX8_told_107 : decode cX8_told 107 = .ok (.invokevirtual 159, 3) := by decide +kernel
theorem dX8_told_110 : decode cX8_told 110 = .ok (.ireturn, 1) := by decide +kernel
theorem dX8_told_111 : decode cX8_told 111 = .ok (.aload 4, 2) := by decide +kernel
theorem dX8_told_113 : decode cX8_told 113 = .ok (.getfield 162, 3) := by decide +kernel
theorem dX8_told_116 : decode cX8_told 116 = .ok (.ireturn, 1) := by decide +kernel
theorem dX8_told_117 : decode cX8_told 117 = .ok (.bipush (-2), 2) := by decide +kernel
theorem dX8_told_119 : decode cX8_told 119 = .ok (.ireturn, 1) := by decide +kernel
theorem dX8_count_0 : decode cX8_count 0 = .ok (.iload_n 1, 1) := by decide +kernel
theorem dX8_count_1 : decode cX8_count 1 = .ok (.tableswitch 86 0 4 #[35, 43, 54, 62, 70], 35) := by decide +kernel
theorem dX8_count_36 : decode cX8_count 36 = .ok (.aload_n 0, 1) := by decide +kernel
theorem dX8_count_37 : decode cX8_count 37 = .ok (.getfield 21, 3) := by decide +kernel
theorem dX8_count_40 : decode cX8_count 40 = .ok (.getfield 59, 3) := by decide +kernel
theorem dX8_count_43 : decode cX8_count 43 = .ok (.ireturn, 1) := by decide +kernel
theorem dX8_count_44 : decode cX8_count 44 = .ok (.aload_n 0, 1) := by decide +kernel
theorem dX8_count_45 : decode cX8_count 45 = .ok (.getfield 21, 3) := by decide +kernel
theorem dX8_count_48 : decode cX8_count 48 = .ok (.getfield 130, 3) := by decide +kernel
theorem dX8_count_51 : decode cX8_count 51 = .ok (.getfield 165, 3) := by decide +kernel
theorem dX8_count_54 : decode cX8_count 54 = .ok (.ireturn, 1) := by decide +kernel
theorem dX8_count_55 : decode cX8_count 55 = .ok (.aload_n 0, 1) := by decide +kernel
theorem dX8_count_56 : decode cX8_count 56 = .ok (.getfield 21, 3) := by decide +kernel
theorem dX8_count_59 : decode cX8_count 59 = .ok (.getfield 168, 3) := by decide +kernel
theorem dX8_count_62 : decode cX8_count 62 = .ok (.ireturn, 1) := by decide +kernel
theorem dX8_count_63 : decode cX8_count 63 = .ok (.aload_n 0, 1) := by decide +kernel
theorem dX8_count_64 : decode cX8_count 64 = .ok (.getfield 21, 3) := by decide +kernel
theorem dX8_count_67 : decode cX8_count 67 = .ok (.getfield 171, 3) := by decide +kernel
theorem dX8_count_70 : decode cX8_count 70 = .ok (.ireturn, 1) := by decide +kernel
theorem dX8_count_71 : decode cX8_count 71 = .ok (.aload_n 0, 1) := by decide +kernel
theorem dX8_count_72 : decode cX8_count 72 = .ok (.getfield 21, 3) := by decide +kernel
theorem dX8_count_75 : decode cX8_count 75 = .ok (.getfield 174, 3) := by decide +kernel
theorem dX8_count_78 : decode cX8_count 78 = .ok (.ifCond .eq 7, 3) := by decide +kernel
theorem dX8_count_81 : decode cX8_count 81 = .ok (.iconst 1, 1) := by decide +kernel
theorem dX8_count_82 : decode cX8_count 82 = .ok (.goto 4, 3) := by decide +kernel
theorem dX8_count_85 : decode cX8_count 85 = .ok (.iconst 0, 1) := by decide +kernel
theorem dX8_count_86 : decode cX8_count 86 = .ok (.ireturn, 1) := by decide +kernel
theorem dX8_count_87 : decode cX8_count 87 = .ok (.bipush (-2), 2) := by decide +kernel
theorem dX8_count_89 : decode cX8_count 89 = .ok (.ireturn, 1) := by decide +kernel
theorem dX8_isQueue_0 : decode cX8_isQueue 0 = .ok (.iload_n 0, 1) := by decide +kernel
theorem dX8_isQueue_1 : decode cX8_isQueue 1 = .ok (.ifCond .lt 12, 3) := by decide +kernel
theorem dX8_isQueue_4 : decode cX8_isQueue 4 = .ok (.iload_n 0, 1) := by decide +kernel
theorem dX8_isQueue_5 : decode cX8_isQueue 5 = .ok (.iconst 3, 1) := by decide +kernel
theorem dX8_isQueue_6 : decode cX8_isQueue 6 = .ok (.if_icmp .ge 7, 3) := by decide +kernel
theorem dX8_isQueue_9 : decode cX8_isQueue 9 = .ok (.iconst 1, 1) := by decide +kernel
theorem dX8_isQueue_10 : decode cX8_isQueue 10 = .ok (.goto 4, 3) := by decide +kernel
theorem dX8_isQueue_13 : decode cX8_isQueue 13 = .ok (.iconst 0, 1) := by decide +kernel
theorem dX8_isQueue_14 : decode cX8_isQueue 14 = .ok (.ireturn, 1) := by decide +kernel
theorem dX8_isSize_0 : decode cX8_isSize 0 = .ok (.iload_n 0, 1) := by decide +kernel
theorem dX8_isSize_1 : decode cX8_isSize 1 = .ok (.iconst 1, 1) := by decide +kernel
theorem dX8_isSize_2 : decode cX8_isSize 2 = .ok (.if_icmp .eq 25, 3) := by decide +kernel
theorem dX8_isSize_5 : decode cX8_isSize 5 = .ok (.iload_n 0, 1) := by decide +kernel
theorem dX8_isSize_6 : decode cX8_isSize 6 = .ok (.iconst 2, 1) := by decide +kernel
theorem dX8_isSize_7 : decode cX8_isSize 7 = .ok (.if_icmp .eq 20, 3) := by decide +kernel
theorem dX8_isSize_10 : decode cX8_isSize 10 = .ok (.iload_n 0, 1) := by decide +kernel
theorem dX8_isSize_11 : decode cX8_isSize 11 = .ok (.iconst 4, 1) := by decide +kernel
theorem dX8_isSize_12 : decode cX8_isSize 12 = .ok (.if_icmp .eq 15, 3) := by decide +kernel
theorem dX8_isSize_15 : decode cX8_isSize 15 = .ok (.iload_n 0, 1) := by decide +kernel
theorem dX8_isSize_16 : decode cX8_isSize 16 = .ok (.bipush 8, 2) := by decide +kernel
theorem dX8_isSize_18 : decode cX8_isSize 18 = .ok (.if_icmp .eq 9, 3) := by decide +kernel
theorem dX8_isSize_21 : decode cX8_isSize 21 = .ok (.iload_n 0, 1) := by decide +kernel
theorem dX8_isSize_22 : decode cX8_isSize 22 = .ok (.bipush 16, 2) := by decide +kernel
theorem dX8_isSize_24 : decode cX8_isSize 24 = .ok (.if_icmp .ne 7, 3) := by decide +kernel
theorem dX8_isSize_27 : decode cX8_isSize 27 = .ok (.iconst 1, 1) := by decide +kernel
theorem dX8_isSize_28 : decode cX8_isSize 28 = .ok (.goto 4, 3) := by decide +kernel
theorem dX8_isSize_31 : decode cX8_isSize 31 = .ok (.iconst 0, 1) := by decide +kernel
theorem dX8_isSize_32 : decode cX8_isSize 32 = .ok (.ireturn, 1) := by decide +kernel
theorem dX8_isAddress_0 : decode cX8_isAddress 0 = .ok (.iload_n 0, 1) := by decide +kernel
theorem dX8_isAddress_1 : decode cX8_isAddress 1 = .ok (.ifCond .lt 14, 3) := by decide +kernel
theorem dX8_isAddress_4 : decode cX8_isAddress 4 = .ok (.iload_n 0, 1) := by decide +kernel
theorem dX8_isAddress_5 : decode cX8_isAddress 5 = .ok (.sipush 4096, 3) := by decide +kernel
theorem dX8_isAddress_8 : decode cX8_isAddress 8 = .ok (.if_icmp .ge 7, 3) := by decide +kernel
theorem dX8_isAddress_11 : decode cX8_isAddress 11 = .ok (.iconst 1, 1) := by decide +kernel
theorem dX8_isAddress_12 : decode cX8_isAddress 12 = .ok (.goto 4, 3) := by decide +kernel
theorem dX8_isAddress_15 : decode cX8_isAddress 15 = .ok (.iconst 0, 1) := by decide +kernel
theorem dX8_isAddress_16 : decode cX8_isAddress 16 = .ok (.ireturn, 1) := by decide +kernel
theorem dX8_isSector_0 : decode cX8_isSector 0 = .ok (.iload_n 0, 1) := by decide +kernel
theorem dX8_isSector_1 : decode cX8_isSector 1 = .ok (.ifCond .lt 13, 3) := by decide +kernel
theorem dX8_isSector_4 : decode cX8_isSector 4 = .ok (.iload_n 0, 1) := by decide +kernel
theorem dX8_isSector_5 : decode cX8_isSector 5 = .ok (.bipush 32, 2) := by decide +kernel
theorem dX8_isSector_7 : decode cX8_isSector 7 = .ok (.if_icmp .ge 7, 3) := by decide +kernel
theorem dX8_isSector_10 : decode cX8_isSector 10 = .ok (.iconst 1, 1) := by decide +kernel
theorem dX8_isSector_11 : decode cX8_isSector 11 = .ok (.goto 4, 3) := by decide +kernel
theorem dX8_isSector_14 : decode cX8_isSector 14 = .ok (.iconst 0, 1) := by decide +kernel
theorem dX8_isSector_15 : decode cX8_isSector 15 = .ok (.ireturn, 1) := by decide +kernel
theorem dX8_isFrame_0 : decode cX8_isFrame 0 = .ok (.iload_n 0, 1) := by decide +kernel
theorem dX8_isFrame_1 : decode cX8_isFrame 1 = .ok (.iconst 1, 1) := by decide +kernel
theorem dX8_isFrame_2 : decode cX8_isFrame 2 = .ok (.if_icmp .lt 13, 3) := by decide +kernel
theorem dX8_isFrame_5 : decode cX8_isFrame 5 = .ok (.iload_n 0, 1) := by decide +kernel
theorem dX8_isFrame_6 : decode cX8_isFrame 6 = .ok (.bipush 80, 2) := by decide +kernel
theorem dX8_isFrame_8 : decode cX8_isFrame 8 = .ok (.if_icmp .gt 7, 3) := by decide +kernel
theorem dX8_isFrame_11 : decode cX8_isFrame 11 = .ok (.iconst 1, 1) := by decide +kernel
theorem dX8_isFrame_12 : decode cX8_isFrame 12 = .ok (.goto 4, 3) := by decide +kernel
theorem dX8_isFrame_15 : decode cX8_isFrame 15 = .ok (.iconst 0, 1) := by decide +kernel
theorem dX8_isFrame_16 : decode cX8_isFrame 16 = .ok (.ireturn, 1) := by decide +kernel
theorem dX8_isPlace_0 : decode cX8_isPlace 0 = .ok (.iload_n 0, 1) := by decide +kernel
theorem dX8_isPlace_1 : decode cX8_isPlace 1 = .ok (.i2l, 1) := by decide +kernel
theorem dX8_isPlace_2 : decode cX8_isPlace 2 = .ok (.iload_n 2, 1) := by decide +kernel
theorem dX8_isPlace_3 : decode cX8_isPlace 3 = .ok (.i2l, 1) := by decide +kernel
theorem dX8_isPlace_4 : decode cX8_isPlace 4 = .ok (.invokestatic 177, 3) := by decide +kernel
theorem dX8_isPlace_7 : decode cX8_isPlace 7 = .ok (.ifCond .eq 17, 3) := by decide +kernel
theorem dX8_isPlace_10 : decode cX8_isPlace 10 = .ok (.iload_n 1, 1) := by decide +kernel
theorem dX8_isPlace_11 : decode cX8_isPlace 11 = .ok (.ifCond .le 13, 3) := by decide +kernel
theorem dX8_isPlace_14 : decode cX8_isPlace 14 = .ok (.iload_n 0, 1) := by decide +kernel
theorem dX8_isPlace_15 : decode cX8_isPlace 15 = .ok (.iload_n 1, 1) := by decide +kernel
theorem dX8_isPlace_16 : decode cX8_isPlace 16 = .ok (.irem, 1) := by decide +kernel
theorem dX8_isPlace_17 : decode cX8_isPlace 17 = .ok (.ifCond .ne 7, 3) := by decide +kernel
theorem dX8_isPlace_20 : decode cX8_isPlace 20 = .ok (.iconst 1, 1) := by decide +kernel
theorem dX8_isPlace_21 : decode cX8_isPlace 21 = .ok (.goto 4, 3) := by decide +kernel
theorem dX8_isPlace_24 : decode cX8_isPlace 24 = .ok (.iconst 0, 1) := by decide +kernel
theorem dX8_isPlace_25 : decode cX8_isPlace 25 = .ok (.ireturn, 1) := by decide +kernel
theorem dX8_liesInMemory_0 : decode cX8_liesInMemory 0 = .ok (.lload_n 0, 1) := by decide +kernel
theorem dX8_liesInMemory_1 : decode cX8_liesInMemory 1 = .ok (.lconst 0, 1) := by decide +kernel
theorem dX8_liesInMemory_2 : decode cX8_liesInMemory 2 = .ok (.lcmp, 1) := by decide +kernel
theorem dX8_liesInMemory_3 : decode cX8_liesInMemory 3 = .ok (.ifCond .lt 17, 3) := by decide +kernel
theorem dX8_liesInMemory_6 : decode cX8_liesInMemory 6 = .ok (.lload_n 0, 1) := by decide +kernel
theorem dX8_liesInMemory_7 : decode cX8_liesInMemory 7 = .ok (.ldc2_w 181, 3) := by decide +kernel
theorem dX8_liesInMemory_10 : decode cX8_liesInMemory 10 = .ok (.lload_n 2, 1) := by decide +kernel
theorem dX8_liesInMemory_11 : decode cX8_liesInMemory 11 = .ok (.lsub, 1) := by decide +kernel
theorem dX8_liesInMemory_12 : decode cX8_liesInMemory 12 = .ok (.lcmp, 1) := by decide +kernel
theorem dX8_liesInMemory_13 : decode cX8_liesInMemory 13 = .ok (.ifCond .gt 7, 3) := by decide +kernel
theorem dX8_liesInMemory_16 : decode cX8_liesInMemory 16 = .ok (.iconst 1, 1) := by decide +kernel
theorem dX8_liesInMemory_17 : decode cX8_liesInMemory 17 = .ok (.goto 4, 3) := by decide +kernel
theorem dX8_liesInMemory_20 : decode cX8_liesInMemory 20 = .ok (.iconst 0, 1) := by decide +kernel
theorem dX8_liesInMemory_21 : decode cX8_liesInMemory 21 = .ok (.ireturn, 1) := by decide +kernel
theorem dX8_descriptorsOf_0 : decode cX8_descriptorsOf 0 = .ok (.sipush 256, 3) := by decide +kernel
theorem dX8_descriptorsOf_3 : decode cX8_descriptorsOf 3 = .ok (.iload_n 0, 1) := by decide +kernel
theorem dX8_descriptorsOf_4 : decode cX8_descriptorsOf 4 = .ok (.imul, 1) := by decide +kernel
theorem dX8_descriptorsOf_5 : decode cX8_descriptorsOf 5 = .ok (.ireturn, 1) := by decide +kernel
theorem dX8_availableOf_0 : decode cX8_availableOf 0 = .ok (.sipush 256, 3) := by decide +kernel
theorem dX8_availableOf_3 : decode cX8_availableOf 3 = .ok (.iload_n 0, 1) := by decide +kernel
theorem dX8_availableOf_4 : decode cX8_availableOf 4 = .ok (.imul, 1) := by decide +kernel
theorem dX8_availableOf_5 : decode cX8_availableOf 5 = .ok (.sipush 128, 3) := by decide +kernel
theorem dX8_availableOf_8 : decode cX8_availableOf 8 = .ok (.iadd, 1) := by decide +kernel
theorem dX8_availableOf_9 : decode cX8_availableOf 9 = .ok (.ireturn, 1) := by decide +kernel
theorem dX8_usedOf_0 : decode cX8_usedOf 0 = .ok (.sipush 256, 3) := by decide +kernel
theorem dX8_usedOf_3 : decode cX8_usedOf 3 = .ok (.iload_n 0, 1) := by decide +kernel
theorem dX8_usedOf_4 : decode cX8_usedOf 4 = .ok (.imul, 1) := by decide +kernel
theorem dX8_usedOf_5 : decode cX8_usedOf 5 = .ok (.sipush 152, 3) := by decide +kernel
theorem dX8_usedOf_8 : decode cX8_usedOf 8 = .ok (.iadd, 1) := by decide +kernel
theorem dX8_usedOf_9 : decode cX8_usedOf 9 = .ok (.ireturn, 1) := by decide +kernel
theorem dX8_patternByte_0 : decode cX8_patternByte 0 = .ok (.lload_n 0, 1) := by decide +kernel
theorem dX8_patternByte_1 : decode cX8_patternByte 1 = .ok (.bipush 8, 2) := by decide +kernel
theorem dX8_patternByte_3 : decode cX8_patternByte 3 = .ok (.iload_n 2, 1) := by decide +kernel
theorem dX8_patternByte_4 : decode cX8_patternByte 4 = .ok (.bipush 7, 2) := by decide +kernel
theorem dX8_patternByte_6 : decode cX8_patternByte 6 = .ok (.iand, 1) := by decide +kernel
theorem dX8_patternByte_7 : decode cX8_patternByte 7 = .ok (.imul, 1) := by decide +kernel
theorem dX8_patternByte_8 : decode cX8_patternByte 8 = .ok (.lushr, 1) := by decide +kernel
theorem dX8_patternByte_9 : decode cX8_patternByte 9 = .ok (.l2i, 1) := by decide +kernel
theorem dX8_patternByte_10 : decode cX8_patternByte 10 = .ok (.iload_n 2, 1) := by decide +kernel
theorem dX8_patternByte_11 : decode cX8_patternByte 11 = .ok (.iadd, 1) := by decide +kernel
theorem dX8_patternByte_12 : decode cX8_patternByte 12 = .ok (.sipush 255, 3) := by decide +kernel
theorem dX8_patternByte_15 : decode cX8_patternByte 15 = .ok (.iand, 1) := by decide +kernel
theorem dX8_patternByte_16 : decode cX8_patternByte 16 = .ok (.ireturn, 1) := by decide +kernel
theorem dX8_oneMore_0 : decode cX8_oneMore 0 = .ok (.iload_n 0, 1) := by decide +kernel
theorem dX8_oneMore_1 : decode cX8_oneMore 1 = .ok (.iconst 1, 1) := by decide +kernel
theorem dX8_oneMore_2 : decode cX8_oneMore 2 = .ok (.iadd, 1) := by decide +kernel
theorem dX8_oneMore_3 : decode cX8_oneMore 3 = .ok (.ldc 183, 2) := by decide +kernel
theorem dX8_oneMore_5 : decode cX8_oneMore 5 = .ok (.iand, 1) := by decide +kernel
theorem dX8_oneMore_6 : decode cX8_oneMore 6 = .ok (.ireturn, 1) := by decide +kernel
end
section
theorem dX9_isIn_0 : decode cX9_isIn 0 = .ok (.iload_n 0, 1) := by decide +kernel
theorem dX9_isIn_1 : decode cX9_isIn 1 = .ok (.iload_n 1, 1) := by decide +kernel
theorem dX9_isIn_2 : decode cX9_isIn 2 = .ok (.if_icmp .lt 12, 3) := by decide +kernel
theorem dX9_isIn_5 : decode cX9_isIn 5 = .ok (.iload_n 0, 1) := by decide +kernel
theorem dX9_isIn_6 : decode cX9_isIn 6 = .ok (.iload_n 2, 1) := by decide +kernel
theorem dX9_isIn_7 : decode cX9_isIn 7 = .ok (.if_icmp .gt 7, 3) := by decide +kernel
theorem dX9_isIn_10 : decode cX9_isIn 10 = .ok (.iconst 1, 1) := by decide +kernel
theorem dX9_isIn_11 : decode cX9_isIn 11 = .ok (.goto 4, 3) := by decide +kernel
theorem dX9_isIn_14 : decode cX9_isIn 14 = .ok (.iconst 0, 1) := by decide +kernel
theorem dX9_isIn_15 : decode cX9_isIn 15 = .ok (.ireturn, 1) := by decide +kernel
theorem dX9_number_0 : decode cX9_number 0 = .ok (.lconst 0, 1) := by decide +kernel
theorem dX9_number_1 : decode cX9_number 1 = .ok (.lstore_n 3, 1) := by decide +kernel
theorem dX9_number_2 : decode cX9_number 2 = .ok (.iload_n 2, 1) := by decide +kernel
theorem dX9_number_3 : decode cX9_number 3 = .ok (.iconst 1, 1) := by decide +kernel
theorem dX9_number_4 : decode cX9_number 4 = .ok (.isub, 1) := by decide +kernel
theorem dX9_number_5 : decode cX9_number 5 = .ok (.istore 5, 2) := by decide +kernel
theorem dX9_number_7 : decode cX9_number 7 = .ok (.iload 5, 2) := by decide +kernel
theorem dX9_number_9 : decode cX9_number 9 = .ok (.ifCond .lt 29, 3) := by decide +kernel
theorem dX9_number_12 : decode cX9_number 12 = .ok (.lload_n 3, 1) := by decide +kernel
theorem dX9_number_13 : decode cX9_number 13 = .ok (.bipush 8, 2) := by decide +kernel
theorem dX9_number_15 : decode cX9_number 15 = .ok (.lshl, 1) := by decide +kernel
theorem dX9_number_16 : decode cX9_number 16 = .ok (.aload_n 0, 1) := by decide +kernel
theorem dX9_number_17 : decode cX9_number 17 = .ok (.getfield 1, 3) := by decide +kernel
theorem dX9_number_20 : decode cX9_number 20 = .ok (.iload_n 1, 1) := by decide +kernel
theorem dX9_number_21 : decode cX9_number 21 = .ok (.iload 5, 2) := by decide +kernel
theorem dX9_number_23 : decode cX9_number 23 = .ok (.iadd, 1) := by decide +kernel
theorem dX9_number_24 : decode cX9_number 24 = .ok (.baload, 1) := by decide +kernel
theorem dX9_number_25 : decode cX9_number 25 = .ok (.sipush 255, 3) := by decide +kernel
theorem dX9_number_28 : decode cX9_number 28 = .ok (.iand, 1) := by decide +kernel
theorem dX9_number_29 : decode cX9_number 29 = .ok (.i2l, 1) := by decide +kernel
theorem dX9_number_30 : decode cX9_number 30 = .ok (.lor, 1) := by decide +kernel
theorem dX9_number_31 : decode cX9_number 31 = .ok (.lstore_n 3, 1) := by decide +kernel
theorem dX9_number_32 : decode cX9_number 32 = .ok (.iinc 5 (-1), 3) := by decide +kernel
theorem dX9_number_35 : decode cX9_number 35 = .ok (.goto (-28), 3) := by decide +kernel
theorem dX9_number_38 : decode cX9_number 38 = .ok (.lload_n 3, 1) := by decide +kernel
theorem dX9_number_39 : decode cX9_number 39 = .ok (.lreturn, 1) := by decide +kernel
theorem dX9_put_0 : decode cX9_put 0 = .ok (.iconst 0, 1) := by decide +kernel
theorem dX9_put_1 : decode cX9_put 1 = .ok (.istore 5, 2) := by decide +kernel
theorem dX9_put_3 : decode cX9_put 3 = .ok (.iload 5, 2) := by decide +kernel
theorem dX9_put_5 : decode cX9_put 5 = .ok (.iload_n 2, 1) := by decide +kernel
theorem dX9_put_6 : decode cX9_put 6 = .ok (.if_icmp .ge 27, 3) := by decide +kernel
theorem dX9_put_9 : decode cX9_put 9 = .ok (.aload_n 0, 1) := by decide +kernel
theorem dX9_put_10 : decode cX9_put 10 = .ok (.getfield 1, 3) := by decide +kernel
theorem dX9_put_13 : decode cX9_put 13 = .ok (.iload_n 1, 1) := by decide +kernel
theorem dX9_put_14 : decode cX9_put 14 = .ok (.iload 5, 2) := by decide +kernel
theorem dX9_put_16 : decode cX9_put 16 = .ok (.iadd, 1) := by decide +kernel
theorem dX9_put_17 : decode cX9_put 17 = .ok (.lload_n 3, 1) := by decide +kernel
theorem dX9_put_18 : decode cX9_put 18 = .ok (.bipush 8, 2) := by decide +kernel
theorem dX9_put_20 : decode cX9_put 20 = .ok (.iload 5, 2) := by decide +kernel
theorem dX9_put_22 : decode cX9_put 22 = .ok (.imul, 1) := by decide +kernel
theorem dX9_put_23 : decode cX9_put 23 = .ok (.lshr, 1) := by decide +kernel
theorem dX9_put_24 : decode cX9_put 24 = .ok (.l2i, 1) := by decide +kernel
theorem dX9_put_25 : decode cX9_put 25 = .ok (.i2b, 1) := by decide +kernel
theorem dX9_put_26 : decode cX9_put 26 = .ok (.bastore, 1) := by decide +kernel
theorem dX9_put_27 : decode cX9_put 27 = .ok (.iinc 5 1, 3) := by decide +kernel
theorem dX9_put_30 : decode cX9_put 30 = .ok (.goto (-27), 3) := by decide +kernel
theorem dX9_put_33 : decode cX9_put 33 = .ok (.return_, 1) := by decide +kernel
theorem dX9_poke_0 : decode cX9_poke 0 = .ok (.iload_n 1, 1) := by decide +kernel
theorem dX9_poke_1 : decode cX9_poke 1 = .ok (.iconst 0, 1) := by decide +kernel
theorem dX9_poke_2 : decode cX9_poke 2 = .ok (.sipush 4095, 3) := by decide +kernel
theorem dX9_poke_5 : decode cX9_poke 5 = .ok (.invokestatic 7, 3) := by decide +kernel
theorem dX9_poke_8 : decode cX9_poke 8 = .ok (.ifCond .eq 14, 3) := by decide +kernel
theorem dX9_poke_11 : decode cX9_poke 11 = .ok (.iload_n 2, 1) := by decide +kernel
theorem dX9_poke_12 : decode cX9_poke 12 = .ok (.iconst 0, 1) := by decide +kernel
theorem dX9_poke_13 : decode cX9_poke 13 = .ok (.sipush 255, 3) := by decide +kernel
theorem dX9_poke_16 : decode cX9_poke 16 = .ok (.invokestatic 7, 3) := by decide +kernel
theorem dX9_poke_19 : decode cX9_poke 19 = .ok (.ifCond .ne 6, 3) := by decide +kernel
theorem dX9_poke_22 : decode cX9_poke 22 = .ok (.bipush (-2), 2) := by decide +kernel
theorem dX9_poke_24 : decode cX9_poke 24 = .ok (.ireturn, 1) := by decide +kernel
theorem dX9_poke_25 : decode cX9_poke 25 = .ok (.aload_n 0, 1) := by decide +kernel
theorem dX9_poke_26 : decode cX9_poke 26 = .ok (.getfield 1, 3) := by decide +kernel
theorem dX9_poke_29 : decode cX9_poke 29 = .ok (.iload_n 1, 1) := by decide +kernel
theorem dX9_poke_30 : decode cX9_poke 30 = .ok (.baload, 1) := by decide +kernel
theorem dX9_poke_31 : decode cX9_poke 31 = .ok (.sipush 255, 3) := by decide +kernel
theorem dX9_poke_34 : decode cX9_poke 34 = .ok (.iand, 1) := by decide +kernel
theorem dX9_poke_35 : decode cX9_poke 35 = .ok (.istore_n 3, 1) := by decide +kernel
theorem dX9_poke_36 : decode cX9_poke 36 = .ok (.aload_n 0, 1) := by decide +kernel
theorem dX9_poke_37 : decode cX9_poke 37 = .ok (.getfield 1, 3) := by decide +kernel
theorem dX9_poke_40 : decode cX9_poke 40 = .ok (.iload_n 1, 1) := by decide +kernel
theorem dX9_poke_41 : decode cX9_poke 41 = .ok (.iload_n 2, 1) := by decide +kernel
theorem dX9_poke_42 : decode cX9_poke 42 = .ok (.i2b, 1) := by decide +kernel
theorem dX9_poke_43 : decode cX9_poke 43 = .ok (.bastore, 1) := by decide +kernel
theorem dX9_poke_44 : decode cX9_poke 44 = .ok (.iload_n 3, 1) := by decide +kernel
theorem dX9_poke_45 : decode cX9_poke 45 = .ok (.ireturn, 1) := by decide +kernel
theorem dX9_peek_0 : decode cX9_peek 0 = .ok (.iload_n 1, 1) := by decide +kernel
theorem dX9_peek_1 : decode cX9_peek 1 = .ok (.iconst 0, 1) := by decide +kernel
theorem dX9_peek_2 : decode cX9_peek 2 = .ok (.sipush 4095, 3) := by decide +kernel
theorem dX9_peek_5 : decode cX9_peek 5 = .ok (.invokestatic 7, 3) := by decide +kernel
theorem dX9_peek_8 : decode cX9_peek 8 = .ok (.ifCond .eq 16, 3) := by decide +kernel
theorem dX9_peek_11 : decode cX9_peek 11 = .ok (.aload_n 0, 1) := by decide +kernel
theorem dX9_peek_12 : decode cX9_peek 12 = .ok (.getfield 1, 3) := by decide +kernel
theorem dX9_peek_15 : decode cX9_peek 15 = .ok (.iload_n 1, 1) := by decide +kernel
theorem dX9_peek_16 : decode cX9_peek 16 = .ok (.baload, 1) := by decide +kernel
theorem dX9_peek_17 : decode cX9_peek 17 = .ok (.sipush 255, 3) := by decide +kernel
theorem dX9_peek_20 : decode cX9_peek 20 = .ok (.iand, 1) := by decide +kernel
theorem dX9_peek_21 : decode cX9_peek 21 = .ok (.goto 5, 3) := by decide +kernel
theorem dX9_peek_24 : decode cX9_peek 24 = .ok (.bipush (-2), 2) := by decide +kernel
theorem dX9_peek_26 : decode cX9_peek 26 = .ok (.ireturn, 1) := by decide +kernel
theorem dX9_clear_0 : decode cX9_clear 0 = .ok (.iconst 0, 1) := by decide +kernel
theorem dX9_clear_1 : decode cX9_clear 1 = .ok (.istore_n 1, 1) := by decide +kernel
theorem dX9_clear_2 : decode cX9_clear 2 = .ok (.iload_n 1, 1) := by decide +kernel
theorem dX9_clear_3 : decode cX9_clear 3 = .ok (.iconst 3, 1) := by decide +kernel
theorem dX9_clear_4 : decode cX9_clear 4 = .ok (.if_icmp .ge 58, 3) := by decide +kernel
theorem dX9_clear_7 : decode cX9_clear 7 = .ok (.aload_n 0, 1) := by decide +kernel
theorem dX9_clear_8 : decode cX9_clear 8 = .ok (.getfield 11, 3) := by decide +kernel
theorem dX9_clear_11 : decode cX9_clear 11 = .ok (.iload_n 1, 1) := by decide +kernel
theorem dX9_clear_12 : decode cX9_clear 12 = .ok (.iconst 0, 1) := by decide +kernel
theorem dX9_clear_13 : decode cX9_clear 13 = .ok (.iastore, 1) := by decide +kernel
theorem dX9_clear_14 : decode cX9_clear 14 = .ok (.aload_n 0, 1) := by decide +kernel
theorem dX9_clear_15 : decode cX9_clear 15 = .ok (.getfield 15, 3) := by decide +kernel
theorem dX9_clear_18 : decode cX9_clear 18 = .ok (.iload_n 1, 1) := by decide +kernel
theorem dX9_clear_19 : decode cX9_clear 19 = .ok (.iconst 0, 1) := by decide +kernel
theorem dX9_clear_20 : decode cX9_clear 20 = .ok (.iastore, 1) := by decide +kernel
theorem dX9_clear_21 : decode cX9_clear 21 = .ok (.aload_n 0, 1) := by decide +kernel
theorem dX9_clear_22 : decode cX9_clear 22 = .ok (.getfield 18, 3) := by decide +kernel
theorem dX9_clear_25 : decode cX9_clear 25 = .ok (.iload_n 1, 1) := by decide +kernel
theorem dX9_clear_26 : decode cX9_clear 26 = .ok (.iconst 0, 1) := by decide +kernel
theorem dX9_clear_27 : decode cX9_clear 27 = .ok (.iastore, 1) := by decide +kernel
theorem dX9_clear_28 : decode cX9_clear 28 = .ok (.aload_n 0, 1) := by decide +kernel
theorem dX9_clear_29 : decode cX9_clear 29 = .ok (.getfield 21, 3) := by decide +kernel
theorem dX9_clear_32 : decode cX9_clear 32 = .ok (.iload_n 1, 1) := by decide +kernel
theorem dX9_clear_33 : decode cX9_clear 33 = .ok (.iconst 0, 1) := by decide +kernel
theorem dX9_clear_34 : decode cX9_clear 34 = .ok (.iastore, 1) := by decide +kernel
theorem dX9_clear_35 : decode cX9_clear 35 = .ok (.aload_n 0, 1) := by decide +kernel
theorem dX9_clear_36 : decode cX9_clear 36 = .ok (.getfield 24, 3) := by decide +kernel
theorem dX9_clear_39 : decode cX9_clear 39 = .ok (.iload_n 1, 1) := by decide +kernel
theorem dX9_clear_40 : decode cX9_clear 40 = .ok (.iconst 0, 1) := by decide +kernel
theorem dX9_clear_41 : decode cX9_clear 41 = .ok (.iastore, 1) := by decide +kernel
theorem dX9_clear_42 : decode cX9_clear 42 = .ok (.aload_n 0, 1) := by decide +kernel
theorem dX9_clear_43 : decode cX9_clear 43 = .ok (.getfield 27, 3) := by decide +kernel
theorem dX9_clear_46 : decode cX9_clear 46 = .ok (.iload_n 1, 1) := by decide +kernel
theorem dX9_clear_47 : decode cX9_clear 47 = .ok (.iconst 0, 1) := by decide +kernel
theorem dX9_clear_48 : decode cX9_clear 48 = .ok (.iastore, 1) := by decide +kernel
theorem dX9_clear_49 : decode cX9_clear 49 = .ok (.aload_n 0, 1) := by decide +kernel
theorem dX9_clear_50 : decode cX9_clear 50 = .ok (.getfield 30, 3) := by decide +kernel
theorem dX9_clear_53 : decode cX9_clear 53 = .ok (.iload_n 1, 1) := by decide +kernel
theorem dX9_clear_54 : decode cX9_clear 54 = .ok (.iconst (-1), 1) := by decide +kernel
theorem dX9_clear_55 : decode cX9_clear 55 = .ok (.iastore, 1) := by decide +kernel
theorem dX9_clear_56 : decode cX9_clear 56 = .ok (.iinc 1 1, 3) := by decide +kernel
theorem dX9_clear_59 : decode cX9_clear 59 = .ok (.goto (-57), 3) := by decide +kernel
theorem dX9_clear_62 : decode cX9_clear 62 = .ok (.iconst 0, 1) := by decide +kernel
theorem dX9_clear_63 : decode cX9_clear 63 = .ok (.istore_n 1, 1) := by decide +kernel
theorem dX9_clear_64 : decode cX9_clear 64 = .ok (.iload_n 1, 1) := by decide +kernel
theorem dX9_clear_65 : decode cX9_clear 65 = .ok (.bipush 24, 2) := by decide +kernel
theorem dX9_clear_67 : decode cX9_clear 67 = .ok (.if_icmp .ge 23, 3) := by decide +kernel
theorem dX9_clear_70 : decode cX9_clear 70 = .ok (.aload_n 0, 1) := by decide +kernel
theorem dX9_clear_71 : decode cX9_clear 71 = .ok (.getfield 33, 3) := by decide +kernel
theorem dX9_clear_74 : decode cX9_clear 74 = .ok (.iload_n 1, 1) := by decide +kernel
theorem dX9_clear_75 : decode cX9_clear 75 = .ok (.iconst 0, 1) := by decide +kernel
theorem dX9_clear_76 : decode cX9_clear 76 = .ok (.bastore, 1) := by decide +kernel
theorem dX9_clear_77 : decode cX9_clear 77 = .ok (.aload_n 0, 1) := by decide +kernel
theorem dX9_clear_78 : decode cX9_clear 78 = .ok (.getfield 37, 3) := by decide +kernel
theorem dX9_clear_81 : decode cX9_clear 81 = .ok (.iload_n 1, 1) := by decide +kernel
theorem dX9_clear_82 : decode cX9_clear 82 = .ok (.iconst (-1), 1) := by decide +kernel
theorem dX9_clear_83 : decode cX9_clear 83 = .ok (.iastore, 1) := by decide +kernel
theorem dX9_clear_84 : decode cX9_clear 84 = .ok (.iinc 1 1, 3) := by decide +kernel
theorem dX9_clear_87 : decode cX9_clear 87 = .ok (.goto (-23), 3) := by decide +kernel
theorem dX9_clear_90 : decode cX9_clear 90 = .ok (.return_, 1) := by decide +kernel
theorem dX9_init_0 : decode cX9_init 0 = .ok (.aload_n 0, 1) := by decide +kernel
theorem dX9_init_1 : decode cX9_init 1 = .ok (.invokespecial 40, 3) := by decide +kernel
theorem dX9_init_4 : decode cX9_init 4 = .ok (.aload_n 0, 1) := by decide +kernel
theorem dX9_init_5 : decode cX9_init 5 = .ok (.sipush 4096, 3) := by decide +kernel
theorem dX9_init_8 : decode cX9_init 8 = .ok (.newarray .byte, 2) := by decide +kernel
theorem dX9_init_10 : decode cX9_init 10 = .ok (.putfield 1, 3) := by decide +kernel
theorem dX9_init_13 : decode cX9_init 13 = .ok (.aload_n 0, 1) := by decide +kernel
theorem dX9_init_14 : decode cX9_init 14 = .ok (.sipush 2048, 3) := by decide +kernel
theorem dX9_init_17 : decode cX9_init 17 = .ok (.newarray .byte, 2) := by decide +kernel
theorem dX9_init_19 : decode cX9_init 19 = .ok (.putfield 46, 3) := by decide +kernel
theorem dX9_init_22 : decode cX9_init 22 = .ok (.aload_n 0, 1) := by decide +kernel
theorem dX9_init_23 : decode cX9_init 23 = .ok (.iconst 3, 1) := by decide +kernel
theorem dX9_init_24 : decode cX9_init 24 = .ok (.newarray .int, 2) := by decide +kernel
theorem dX9_init_26 : decode cX9_init 26 = .ok (.putfield 11, 3) := by decide +kernel
theorem dX9_init_29 : decode cX9_init 29 = .ok (.aload_n 0, 1) := by decide +kernel
theorem dX9_init_30 : decode cX9_init 30 = .ok (.iconst 3, 1) := by decide +kernel
theorem dX9_init_31 : decode cX9_init 31 = .ok (.newarray .int, 2) := by decide +kernel
theorem dX9_init_33 : decode cX9_init 33 = .ok (.putfield 49, 3) := by decide +kernel
theorem dX9_init_36 : decode cX9_init 36 = .ok (.aload_n 0, 1) := by decide +kernel
theorem dX9_init_37 : decode cX9_init 37 = .ok (.iconst 3, 1) := by decide +kernel
theorem dX9_init_38 : decode cX9_init 38 = .ok (.newarray .int, 2) := by decide +kernel
theorem dX9_init_40 : decode cX9_init 40 = .ok (.putfield 52, 3) := by decide +kernel
theorem dX9_init_43 : decode cX9_init 43 = .ok (.aload_n 0, 1) := by decide +kernel
theorem dX9_init_44 : decode cX9_init 44 = .ok (.iconst 3, 1) := by decide +kernel
theorem dX9_init_45 : decode cX9_init 45 = .ok (.newarray .int, 2) := by decide +kernel
theorem dX9_init_47 : decode cX9_init 47 = .ok (.putfield 55, 3) := by decide +kernel
theorem dX9_init_50 : decode cX9_init 50 = .ok (.aload_n 0, 1) := by decide +kernel
theorem dX9_init_51 : decode cX9_init 51 = .ok (.iconst 3, 1) := by decide +kernel
theorem dX9_init_52 : decode cX9_init 52 = .ok (.newarray .int, 2) := by decide +kernel
theorem dX9_init_54 : decode cX9_init 54 = .ok (.putfield 15, 3) := by decide +kernel
theorem dX9_init_57 : decode cX9_init 57 = .ok (.aload_n 0, 1) := by decide +kernel
theorem dX9_init_58 : decode cX9_init 58 = .ok (.iconst 3, 1) := by decide +kernel
theorem dX9_init_59 : decode cX9_init 59 = .ok (.newarray .int, 2) := by decide +kernel
theorem dX9_init_61 : decode cX9_init 61 = .ok (.putfield 18, 3) := by decide +kernel
theorem dX9_init_64 : decode cX9_init 64 = .ok (.aload_n 0, 1) := by decide +kernel
theorem dX9_init_65 : decode cX9_init 65 = .ok (.iconst 3, 1) := by decide +kernel
theorem dX9_init_66 : decode cX9_init 66 = .ok (.newarray .int, 2) := by decide +kernel
theorem dX9_init_68 : decode cX9_init 68 = .ok (.putfield 21, 3) := by decide +kernel
theorem dX9_init_71 : decode cX9_init 71 = .ok (.aload_n 0, 1) := by decide +kernel
theorem dX9_init_72 : decode cX9_init 72 = .ok (.bipush 20, 2) := by decide +kernel
theorem dX9_init_74 : decode cX9_init 74 = .ok (.newarray .int, 2) := by decide +kernel
theorem dX9_init_76 : decode cX9_init 76 = .ok (.putfield 58, 3) := by decide +kernel
theorem dX9_init_79 : decode cX9_init 79 = .ok (.aload_n 0, 1) := by decide +kernel
theorem dX9_init_80 : decode cX9_init 80 = .ok (.bipush 20, 2) := by decide +kernel
theorem dX9_init_82 : decode cX9_init 82 = .ok (.newarray .int, 2) := by decide +kernel
theorem dX9_init_84 : decode cX9_init 84 = .ok (.putfield 61, 3) := by decide +kernel
theorem dX9_init_87 : decode cX9_init 87 = .ok (.aload_n 0, 1) := by decide +kernel
theorem dX9_init_88 : decode cX9_init 88 = .ok (.bipush 20, 2) := by decide +kernel
theorem dX9_init_90 : decode cX9_init 90 = .ok (.newarray .int, 2) := by decide +kernel
theorem dX9_init_92 : decode cX9_init 92 = .ok (.putfield 64, 3) := by decide +kernel
theorem dX9_init_95 : decode cX9_init 95 = .ok (.aload_n 0, 1) := by decide +kernel
theorem dX9_init_96 : decode cX9_init 96 = .ok (.bipush 20, 2) := by decide +kernel
theorem dX9_init_98 : decode cX9_init 98 = .ok (.newarray .int, 2) := by decide +kernel
theorem dX9_init_100 : decode cX9_init 100 = .ok (.putfield 67, 3) := by decide +kernel
theorem dX9_init_103 : decode cX9_init 103 = .ok (.aload_n 0, 1) := by decide +kernel
theorem dX9_init_104 : decode cX9_init 104 = .ok (.sipush 1280, 3) := by decide +kernel
theorem dX9_init_107 : decode cX9_init 107 = .ok (.newarray .byte, 2) := by decide +kernel
theorem dX9_init_109 : decode cX9_init 109 = .ok (.putfield 70, 3) := by decide +kernel
theorem dX9_init_112 : decode cX9_init 112 = .ok (.aload_n 0, 1) := by decide +kernel
theorem dX9_init_113 : decode cX9_init 113 = .ok (.bipush 16, 2) := by decide +kernel
theorem dX9_init_115 : decode cX9_init 115 = .ok (.newarray .int, 2) := by decide +kernel
theorem dX9_init_117 : decode cX9_init 117 = .ok (.putfield 73, 3) := by decide +kernel
theorem dX9_init_120 : decode cX9_init 120 = .ok (.aload_n 0, 1) := by decide +kernel
theorem dX9_init_121 : decode cX9_init 121 = .ok (.bipush 24, 2) := by decide +kernel
theorem dX9_init_123 : decode cX9_init 123 = .ok (.newarray .boolean, 2) := by decide +kernel
theorem dX9_init_125 : decode cX9_init 125 = .ok (.putfield 33, 3) := by decide +kernel
theorem dX9_init_128 : decode cX9_init 128 = .ok (.aload_n 0, 1) := by decide +kernel
theorem dX9_init_129 : decode cX9_init 129 = .ok (.bipush 24, 2) := by decide +kernel
theorem dX9_init_131 : decode cX9_init 131 = .ok (.newarray .int, 2) := by decide +kernel
theorem dX9_init_133 : decode cX9_init 133 = .ok (.putfield 37, 3) := by decide +kernel
theorem dX9_init_136 : decode cX9_init 136 = .ok (.aload_n 0, 1) := by decide +kernel
theorem dX9_init_137 : decode cX9_init 137 = .ok (.iconst 3, 1) := by decide +kernel
theorem dX9_init_138 : decode cX9_init 138 = .ok (.newarray .int, 2) := by decide +kernel
theorem dX9_init_140 : decode cX9_init 140 = .ok (.putfield 24, 3) := by decide +kernel
theorem dX9_init_143 : decode cX9_init 143 = .ok (.aload_n 0, 1) := by decide +kernel
theorem dX9_init_144 : decode cX9_init 144 = .ok (.iconst 3, 1) := by decide +kernel
theorem dX9_init_145 : decode cX9_init 145 = .ok (.newarray .int, 2) := by decide +kernel
theorem dX9_init_147 : decode cX9_init 147 = .ok (.putfield 27, 3) := by decide +kernel
theorem dX9_init_150 : decode cX9_init 150 = .ok (.aload_n 0, 1) := by decide +kernel
theorem dX9_init_151 : decode cX9_init 151 = .ok (.iconst 3, 1) := by decide +kernel
theorem dX9_init_152 : decode cX9_init 152 = .ok (.newarray .int, 2) := by decide +kernel
theorem dX9_init_154 : decode cX9_init 154 = .ok (.putfield 30, 3) := by decide +kernel
theorem dX9_init_157 : decode cX9_init 157 = .ok (.aload_n 0, 1) := by decide +kernel
theorem dX9_init_158 : decode cX9_init 158 = .ok (.invokevirtual 76, 3) := by decide +kernel
theorem dX9_init_161 : decode cX9_init 161 = .ok (.return_, 1) := by decide +kernel
theorem dX9_start_0 : decode cX9_start 0 = .ok (.aload_n 0, 1) := by decide +kernel
theorem dX9_start_1 : decode cX9_start 1 = .ok (.invokevirtual 76, 3) := by decide +kernel
theorem dX9_start_4 : decode cX9_start 4 = .ok (.iconst 0, 1) := by decide +kernel
theorem dX9_start_5 : decode cX9_start 5 = .ok (.istore_n 2, 1) := by decide +kernel
theorem dX9_start_6 : decode cX9_start 6 = .ok (.iload_n 2, 1) := by decide +kernel
theorem dX9_start_7 : decode cX9_start 7 = .ok (.sipush 4096, 3) := by decide +kernel
theorem dX9_start_10 : decode cX9_start 10 = .ok (.if_icmp .ge 16, 3) := by decide +kernel
theorem dX9_start_13 : decode cX9_start 13 = .ok (.aload_n 0, 1) := by decide +kernel
theorem dX9_start_14 : decode cX9_start 14 = .ok (.getfield 1, 3) := by decide +kernel
theorem dX9_start_17 : decode cX9_start 17 = .ok (.iload_n 2, 1) := by decide +kernel
theorem dX9_start_18 : decode cX9_start 18 = .ok (.iconst 0, 1) := by decide +kernel
theorem dX9_start_19 : decode cX9_start 19 = .ok (.bastore, 1) := by decide +kernel
theorem dX9_start_20 : decode cX9_start 20 = .ok (.iinc 2 1, 3) := by decide +kernel
theorem dX9_start_23 : decode cX9_start 23 = .ok (.goto (-17), 3) := by decide +kernel
theorem dX9_start_26 : decode cX9_start 26 = .ok (.aload_n 0, 1) := by decide +kernel
theorem dX9_start_27 : decode cX9_start 27 = .ok (.iload_n 1, 1) := by decide +kernel
theorem dX9_start_28 : decode cX9_start 28 = .ok (.putfield 79, 3) := by decide +kernel
theorem dX9_start_31 : decode cX9_start 31 = .ok (.aload_n 0, 1) := by decide +kernel
theorem dX9_start_32 : decode cX9_start 32 = .ok (.iconst 1, 1) := by decide +kernel
theorem dX9_start_33 : decode cX9_start 33 = .ok (.putfield 83, 3) := by decide +kernel
theorem dX9_start_36 : decode cX9_start 36 = .ok (.iconst 0, 1) := by decide +kernel
theorem dX9_start_37 : decode cX9_start 37 = .ok (.istore_n 2, 1) := by decide +kernel
theorem dX9_start_38 : decode cX9_start 38 = .ok (.iload_n 2, 1) := by decide +kernel
theorem dX9_start_39 : decode cX9_start 39 = .ok (.iconst 3, 1) := by decide +kernel
theorem dX9_start_40 : decode cX9_start 40 = .ok (.if_icmp .ge 58, 3) := by decide +kernel
theorem dX9_start_43 : decode cX9_start 43 = .ok (.aload_n 0, 1) := by decide +kernel
theorem dX9_start_44 : decode cX9_start 44 = .ok (.getfield 11, 3) := by decide +kernel
theorem dX9_start_47 : decode cX9_start 47 = .ok (.iload_n 2, 1) := by decide +kernel
theorem dX9_start_48 : decode cX9_start 48 = .ok (.bipush 8, 2) := by decide +kernel
theorem dX9_start_50 : decode cX9_start 50 = .ok (.iastore, 1) := by decide +kernel
theorem dX9_start_51 : decode cX9_start 51 = .ok (.aload_n 0, 1) := by decide +kernel
theorem dX9_start_52 : decode cX9_start 52 = .ok (.getfield 49, 3) := by decide +kernel
theorem dX9_start_55 : decode cX9_start 55 = .ok (.iload_n 2, 1) := by decide +kernel
theorem dX9_start_56 : decode cX9_start 56 = .ok (.sipush 256, 3) := by decide +kernel
theorem dX9_start_59 : decode cX9_start 59 = .ok (.iload_n 2, 1) := by decide +kernel
theorem dX9_start_60 : decode cX9_start 60 = .ok (.imul, 1) := by decide +kernel
theorem dX9_start_61 : decode cX9_start 61 = .ok (.iastore, 1) := by decide +kernel
theorem dX9_start_62 : decode cX9_start 62 = .ok (.aload_n 0, 1) := by decide +kernel
theorem dX9_start_63 : decode cX9_start 63 = .ok (.getfield 52, 3) := by decide +kernel
theorem dX9_start_66 : decode cX9_start 66 = .ok (.iload_n 2, 1) := by decide +kernel
theorem dX9_start_67 : decode cX9_start 67 = .ok (.sipush 256, 3) := by decide +kernel
theorem dX9_start_70 : decode cX9_start 70 = .ok (.iload_n 2, 1) := by decide +kernel
theorem dX9_start_71 : decode cX9_start 71 = .ok (.imul, 1) := by decide +kernel
theorem dX9_start_72 : decode cX9_start 72 = .ok (.sipush 128, 3) := by decide +kernel
theorem dX9_start_75 : decode cX9_start 75 = .ok (.iadd, 1) := by decide +kernel
theorem dX9_start_76 : decode cX9_start 76 = .ok (.iastore, 1) := by decide +kernel
theorem dX9_start_77 : decode cX9_start 77 = .ok (.aload_n 0, 1) := by decide +kernel
theorem dX9_start_78 : decode cX9_start 78 = .ok (.getfield 55, 3) := by decide +kernel
theorem dX9_start_81 : decode cX9_start 81 = .ok (.iload_n 2, 1) := by decide +kernel
theorem dX9_start_82 : decode cX9_start 82 = .ok (.sipush 256, 3) := by decide +kernel
theorem dX9_start_85 : decode cX9_start 85 = .ok (.iload_n 2, 1) := by decide +kernel
theorem dX9_start_86 : decode cX9_start 86 = .ok (.imul, 1) := by decide +kernel
theorem dX9_start_87 : decode cX9_start 87 = .ok (.sipush 152, 3) := by decide +kernel
theorem dX9_start_90 : decode cX9_start 90 = .ok (.iadd, 1) := by decide +kernel
theorem dX9_start_91 : decode cX9_start 91 = .ok (.iastore, 1) := by decide +kernel
theorem dX9_start_92 : decode cX9_start 92 = .ok (.iinc 2 1, 3) := by decide +kernel
theorem dX9_start_95 : decode cX9_start 95 = .ok (.goto (-57), 3) := by decide +kernel
theorem dX9_start_98 : decode cX9_start 98 = .ok (.aload_n 0, 1) := by decide +kernel
theorem dX9_start_99 : decode cX9_start 99 = .ok (.iconst 1, 1) := by decide +kernel
theorem dX9_start_100 : decode cX9_start 100 = .ok (.putfield 86, 3) := by decide +kernel
theorem dX9_start_103 : decode cX9_start 103 = .ok (.iconst 0, 1) := by decide +kernel
theorem dX9_start_104 : decode cX9_start 104 = .ok (.ireturn, 1) := by decide +kernel
theorem dX9_reset_0 : decode cX9_reset 0 = .ok (.aload_n 0, 1) := by decide +kernel
theorem dX9_reset_1 : decode cX9_reset 1 = .ok (.invokevirtual 76, 3) := by decide +kernel
theorem dX9_reset_4 : decode cX9_reset 4 = .ok (.aload_n 0, 1) := by decide +kernel
theorem dX9_reset_5 : decode cX9_reset 5 = .ok (.iload_n 1, 1) := by decide +kernel
theorem dX9_reset_6 : decode cX9_reset 6 = .ok (.putfield 79, 3) := by decide +kernel
theorem dX9_reset_9 : decode cX9_reset 9 = .ok (.aload_n 0, 1) := by decide +kernel
theorem dX9_reset_10 : decode cX9_reset 10 = .ok (.iconst 0, 1) := by decide +kernel
theorem dX9_reset_11 : decode cX9_reset 11 = .ok (.putfield 83, 3) := by decide +kernel
theorem dX9_reset_14 : decode cX9_reset 14 = .ok (.aload_n 0, 1) := by decide +kernel
theorem dX9_reset_15 : decode cX9_reset 15 = .ok (.iconst 0, 1) := by decide +kernel
theorem dX9_reset_16 : decode cX9_reset 16 = .ok (.putfield 86, 3) := by decide +kernel
theorem dX9_reset_19 : decode cX9_reset 19 = .ok (.iconst 0, 1) := by decide +kernel
theorem dX9_reset_20 : decode cX9_reset 20 = .ok (.ireturn, 1) := by decide +kernel
theorem dX9_queue_0 : decode cX9_queue 0 = .ok (.iload_n 1, 1) := by decide +kernel
theorem dX9_queue_1 : decode cX9_queue 1 = .ok (.iconst 0, 1) := by decide +kernel
theorem dX9_queue_2 : decode cX9_queue 2 = .ok (.iconst 2, 1) := by decide +kernel
theorem dX9_queue_3 : decode cX9_queue 3 = .ok (.invokestatic 7, 3) := by decide +kernel
theorem dX9_queue_6 : decode cX9_queue 6 = .ok (.ifCond .eq 46, 3) := by decide +kernel
theorem dX9_queue_9 : decode cX9_queue 9 = .ok (.aload_n 0, 1) := by decide +kernel
theorem dX9_queue_10 : decode cX9_queue 10 = .ok (.getfield 11, 3) := by decide +kernel
theorem dX9_queue_13 : decode cX9_queue 13 = .ok (.iload_n 1, 1) := by decide +kernel
theorem dX9_queue_14 : decode cX9_queue 14 = .ok (.iaload, 1) := by decide +kernel
theorem dX9_queue_15 : decode cX9_queue 15 = .ok (.ifCond .gt 37, 3) := by decide +kernel
theorem dX9_queue_18 : decode cX9_queue 18 = .ok (.aload_n 0, 1) := by decide +kernel
theorem dX9_queue_19 : decode cX9_queue 19 = .ok (.getfield 86, 3) := by decide +kernel
theorem dX9_queue_22 : decode cX9_queue 22 = .ok (.ifCond .ne 30, 3) := by decide +kernel
theorem dX9_queue_25 : decode cX9_queue 25 = .ok (.iload_n 2, 1) := by decide +kernel
theorem dX9_queue_26 : decode cX9_queue 26 = .ok (.iconst 1, 1) := by decide +kernel
theorem dX9_queue_27 : decode cX9_queue 27 = .ok (.if_icmp .eq 28, 3) := by decide +kernel
theorem dX9_queue_30 : decode cX9_queue 30 = .ok (.iload_n 2, 1) := by decide +kernel
theorem dX9_queue_31 : decode cX9_queue 31 = .ok (.iconst 2, 1) := by decide +kernel
theorem dX9_queue_32 : decode cX9_queue 32 = .ok (.if_icmp .eq 23, 3) := by decide +kernel
theorem dX9_queue_35 : decode cX9_queue 35 = .ok (.iload_n 2, 1) := by decide +kernel
theorem dX9_queue_36 : decode cX9_queue 36 = .ok (.iconst 4, 1) := by decide +kernel
theorem dX9_queue_37 : decode cX9_queue 37 = .ok (.if_icmp .eq 18, 3) := by decide +kernel
theorem dX9_queue_40 : decode cX9_queue 40 = .ok (.iload_n 2, 1) := by decide +kernel
theorem dX9_queue_41 : decode cX9_queue 41 = .ok (.bipush 8, 2) := by decide +kernel
theorem dX9_queue_43 : decode cX9_queue 43 = .ok (.if_icmp .eq 12, 3) := by decide +kernel
theorem dX9_queue_46 : decode cX9_queue 46 = .ok (.iload_n 2, 1) := by decide +kernel
theorem dX9_queue_47 : decode cX9_queue 47 = .ok (.bipush 16, 2) := by decide +kernel
theorem dX9_queue_49 : decode cX9_queue 49 = .ok (.if_icmp .eq 6, 3) := by decide +kernel
theorem dX9_queue_52 : decode cX9_queue 52 = .ok (.bipush (-2), 2) := by decide +kernel
theorem dX9_queue_54 : decode cX9_queue 54 = .ok (.ireturn, 1) := by decide +kernel
theorem dX9_queue_55 : decode cX9_queue 55 = .ok (.iload_n 3, 1) := by decide +kernel
theorem dX9_queue_56 : decode cX9_queue 56 = .ok (.iconst 0, 1) := by decide +kernel
theorem dX9_queue_57 : decode cX9_queue 57 = .ok (.sipush 4096, 3) := by decide +kernel
theorem dX9_queue_60 : decode cX9_queue 60 = .ok (.bipush 16, 2) := by decide +kernel
theorem dX9_queue_62 : decode cX9_queue 62 = .ok (.iload_n 2, 1) := by decide +kernel
theorem dX9_queue_63 : decode cX9_queue 63 = .ok (.imul, 1) := by decide +kernel
theorem dX9_queue_64 : decode cX9_queue 64 = .ok (.isub, 1) := by decide +kernel
theorem dX9_queue_65 : decode cX9_queue 65 = .ok (.invokestatic 7, 3) := by decide +kernel
theorem dX9_queue_68 : decode cX9_queue 68 = .ok (.ifCond .eq 57, 3) := by decide +kernel
theorem dX9_queue_71 : decode cX9_queue 71 = .ok (.iload_n 3, 1) := by decide +kernel
theorem dX9_queue_72 : decode cX9_queue 72 = .ok (.bipush 16, 2) := by decide +kernel
theorem dX9_queue_74 : decode cX9_queue 74 = .ok (.irem, 1) := by decide +kernel
theorem dX9_queue_75 : decode cX9_queue 75 = .ok (.ifCond .ne 50, 3) := by decide +kernel
theorem dX9_queue_78 : decode cX9_queue 78 = .ok (.iload 4, 2) := by decide +kernel
theorem dX9_queue_80 : decode cX9_queue 80 = .ok (.iconst 0, 1) := by decide +kernel
theorem dX9_queue_81 : decode cX9_queue 81 = .ok (.sipush 4092, 3) := by decide +kernel
theorem dX9_queue_84 : decode cX9_queue 84 = .ok (.iconst 2, 1) := by decide +kernel
theorem dX9_queue_85 : decode cX9_queue 85 = .ok (.iload_n 2, 1) := by decide +kernel
theorem dX9_queue_86 : decode cX9_queue 86 = .ok (.imul, 1) := by decide +kernel
theorem dX9_queue_87 : decode cX9_queue 87 = .ok (.isub, 1) := by decide +kernel
theorem dX9_queue_88 : decode cX9_queue 88 = .ok (.invokestatic 7, 3) := by decide +kernel
theorem dX9_queue_91 : decode cX9_queue 91 = .ok (.ifCond .eq 34, 3) := by decide +kernel
theorem dX9_queue_94 : decode cX9_queue 94 = .ok (.iload 4, 2) := by decide +kernel
theorem dX9_queue_96 : decode cX9_queue 96 = .ok (.iconst 2, 1) := by decide +kernel
theorem dX9_queue_97 : decode cX9_queue 97 = .ok (.irem, 1) := by decide +kernel
theorem dX9_queue_98 : decode cX9_queue 98 = .ok (.ifCond .ne 27, 3) := by decide +kernel
theorem dX9_queue_101 : decode cX9_queue 101 = .ok (.iload 5, 2) := by decide +kernel
theorem dX9_queue_103 : decode cX9_queue 103 = .ok (.iconst 0, 1) := by decide +kernel
theorem dX9_queue_104 : decode cX9_queue 104 = .ok (.sipush 4092, 3) := by decide +kernel
theorem dX9_queue_107 : decode cX9_queue 107 = .ok (.bipush 8, 2) := by decide +kernel
theorem dX9_queue_109 : decode cX9_queue 109 = .ok (.iload_n 2, 1) := by decide +kernel
theorem dX9_queue_110 : decode cX9_queue 110 = .ok (.imul, 1) := by decide +kernel
theorem dX9_queue_111 : decode cX9_queue 111 = .ok (.isub, 1) := by decide +kernel
theorem dX9_queue_112 : decode cX9_queue 112 = .ok (.invokestatic 7, 3) := by decide +kernel
theorem dX9_queue_115 : decode cX9_queue 115 = .ok (.ifCond .eq 10, 3) := by decide +kernel
theorem dX9_queue_118 : decode cX9_queue 118 = .ok (.iload 5, 2) := by decide +kernel
theorem dX9_queue_120 : decode cX9_queue 120 = .ok (.iconst 4, 1) := by decide +kernel
theorem dX9_queue_121 : decode cX9_queue 121 = .ok (.irem, 1) := by decide +kernel
theorem dX9_queue_122 : decode cX9_queue 122 = .ok (.ifCond .eq 6, 3) := by decide +kernel
theorem dX9_queue_125 : decode cX9_queue 125 = .ok (.bipush (-2), 2) := by decide +kernel
theorem dX9_queue_127 : decode cX9_queue 127 = .ok (.ireturn, 1) := by decide +kernel
theorem dX9_queue_128 : decode cX9_queue 128 = .ok (.aload_n 0, 1) := by decide +kernel
theorem dX9_queue_129 : decode cX9_queue 129 = .ok (.getfield 11, 3) := by decide +kernel
theorem dX9_queue_132 : decode cX9_queue 132 = .ok (.iload_n 1, 1) := by decide +kernel
theorem dX9_queue_133 : decode cX9_queue 133 = .ok (.iload_n 2, 1) := by decide +kernel
theorem dX9_queue_134 : decode cX9_queue 134 = .ok (.iastore, 1) := by decide +kernel
theorem dX9_queue_135 : decode cX9_queue 135 = .ok (.aload_n 0, 1) := by decide +kernel
theorem dX9_queue_136 : decode cX9_queue 136 = .ok (.getfield 49, 3) := by decide +kernel
theorem dX9_queue_139 : decode cX9_queue 139 = .ok (.iload_n 1, 1) := by decide +kernel
theorem dX9_queue_140 : decode cX9_queue 140 = .ok (.iload_n 3, 1) := by decide +kernel
theorem dX9_queue_141 : decode cX9_queue 141 = .ok (.iastore, 1) := by decide +kernel
theorem dX9_queue_142 : decode cX9_queue 142 = .ok (.aload_n 0, 1) := by decide +kernel
theorem dX9_queue_143 : decode cX9_queue 143 = .ok (.getfield 52, 3) := by decide +kernel
theorem dX9_queue_146 : decode cX9_queue 146 = .ok (.iload_n 1, 1) := by decide +kernel
theorem dX9_queue_147 : decode cX9_queue 147 = .ok (.iload 4, 2) := by decide +kernel
theorem dX9_queue_149 : decode cX9_queue 149 = .ok (.iastore, 1) := by decide +kernel
theorem dX9_queue_150 : decode cX9_queue 150 = .ok (.aload_n 0, 1) := by decide +kernel
theorem dX9_queue_151 : decode cX9_queue 151 = .ok (.getfield 55, 3) := by decide +kernel
theorem dX9_queue_154 : decode cX9_queue 154 = .ok (.iload_n 1, 1) := by decide +kernel
theorem dX9_queue_155 : decode cX9_queue 155 = .ok (.iload 5, 2) := by decide +kernel
theorem dX9_queue_157 : decode cX9_queue 157 = .ok (.iastore, 1) := by decide +kernel
theorem dX9_queue_158 : decode cX9_queue 158 = .ok (.iconst 0, 1) := by decide +kernel
theorem dX9_queue_159 : decode cX9_queue 159 = .ok (.ireturn, 1) := by decide +kernel
theorem dX9_run_0 : decode cX9_run 0 = .ok (.aload_n 0, 1) := by decide +kernel
theorem dX9_run_1 : decode cX9_run 1 = .ok (.getfield 86, 3) := by decide +kernel
theorem dX9_run_4 : decode cX9_run 4 = .ok (.ifCond .eq 6, 3) := by decide +kernel
theorem dX9_run_7 : decode cX9_run 7 = .ok (.bipush (-2), 2) := by decide +kernel
theorem dX9_run_9 : decode cX9_run 9 = .ok (.ireturn, 1) := by decide +kernel
theorem dX9_run_10 : decode cX9_run 10 = .ok (.aload_n 0, 1) := by decide +kernel
theorem dX9_run_11 : decode cX9_run 11 = .ok (.iconst 1, 1) := by decide +kernel
theorem dX9_run_12 : decode cX9_run 12 = .ok (.putfield 86, 3) := by decide +kernel
theorem dX9_run_15 : decode cX9_run 15 = .ok (.iconst 0, 1) := by decide +kernel
theorem dX9_run_16 : decode cX9_run 16 = .ok (.ireturn, 1) := by decide +kernel
theorem dX9_hasSomething_0 : decode cX9_hasSomething 0 = .ok (.aload_n 0, 1) := by decide +kernel
theorem dX9_hasSomething_1 : decode cX9_hasSomething 1 = .ok (.getfield 86, 3) := by decide +kernel
theorem dX9_hasSomething_4 : decode cX9_hasSomething 4 = .ok (.iconst 1, 1) := by decide +kernel
theorem dX9_hasSomething_5 : decode cX9_hasSomething 5 = .ok (.if_icmp .ne 12, 3) := by decide +kernel
theorem dX9_hasSomething_8 : decode cX9_hasSomething 8 = .ok (.aload_n 0, 1) := by decide +kernel
theorem dX9_hasSomething_9 : decode cX9_hasSomething 9 = .ok (.getfield 11, 3) := by decide +kernel
theorem dX9_hasSomething_12 : decode cX9_hasSomething 12 = .ok (.iload_n 1, 1) := by decide +kernel
theorem dX9_hasSomething_13 : decode cX9_hasSomething 13 = .ok (.iaload, 1) := by decide +kernel
theorem dX9_hasSomething_14 : decode cX9_hasSomething 14 = .ok (.ifCond .ne 5, 3) := by decide +kernel
theorem dX9_hasSomething_17 : decode cX9_hasSomething 17 = .ok (.iconst 0, 1) := by decide +kernel
theorem dX9_hasSomething_18 : decode cX9_hasSomething 18 = .ok (.ireturn, 1) := by decide +kernel
theorem dX9_hasSomething_19 : decode cX9_hasSomething 19 = .ok (.aload_n 0, 1) := by decide +kernel
theorem dX9_hasSomething_20 : decode cX9_hasSomething 20 = .ok (.aload_n 0, 1) := by decide +kernel
theorem dX9_hasSomething_21 : decode cX9_hasSomething 21 = .ok (.getfield 52, 3) := by decide +kernel
theorem dX9_hasSomething_24 : decode cX9_hasSomething 24 = .ok (.iload_n 1, 1) := by decide +kernel
theorem dX9_hasSomething_25 : decode cX9_hasSomething 25 = .ok (.iaload, 1) := by decide +kernel
theorem dX9_hasSomething_26 : decode cX9_hasSomething 26 = .ok (.iconst 2, 1) := by decide +kernel
theorem dX9_hasSomething_27 : decode cX9_hasSomething 27 = .ok (.iadd, 1) := by decide +kernel
theorem dX9_hasSomething_28 : decode cX9_hasSomething 28 = .ok (.iconst 2, 1) := by decide +kernel
theorem dX9_hasSomething_29 : decode cX9_hasSomething 29 = .ok (.invokevirtual 90, 3) := by decide +kernel
theorem dX9_hasSomething_32 : decode cX9_hasSomething 32 = .ok (.l2i, 1) := by decide +kernel
theorem dX9_hasSomething_33 : decode cX9_hasSomething 33 = .ok (.istore_n 2, 1) := by decide +kernel
theorem dX9_hasSomething_34 : decode cX9_hasSomething 34 = .ok (.iload_n 2, 1) := by decide +kernel
theorem dX9_hasSomething_35 : decode cX9_hasSomething 35 = .ok (.aload_n 0, 1) := by decide +kernel
theorem dX9_hasSomething_36 : decode cX9_hasSomething 36 = .ok (.getfield 15, 3) := by decide +kernel
theorem dX9_hasSomething_39 : decode cX9_hasSomething 39 = .ok (.iload_n 1, 1) := by decide +kernel
theorem dX9_hasSomething_40 : decode cX9_hasSomething 40 = .ok (.iaload, 1) := by decide +kernel
theorem dX9_hasSomething_41 : decode cX9_hasSomething 41 = .ok (.isub, 1) := by decide +kernel
theorem dX9_hasSomething_42 : decode cX9_hasSomething 42 = .ok (.ldc 94, 2) := by decide +kernel
theorem dX9_hasSomething_44 : decode cX9_hasSomething 44 = .ok (.iand, 1) := by decide +kernel
theorem dX9_hasSomething_45 : decode cX9_hasSomething 45 = .ok (.istore_n 3, 1) := by decide +kernel
theorem dX9_hasSomething_46 : decode cX9_hasSomething 46 = .ok (.iload_n 3, 1) := by decide +kernel
theorem dX9_hasSomething_47 : decode cX9_hasSomething 47 = .ok (.aload_n 0, 1) := by decide +kernel
theorem dX9_hasSomething_48 : decode cX9_hasSomething 48 = .ok (.getfield 11, 3) := by decide +kernel
theorem dX9_hasSomething_51 : decode cX9_hasSomething 51 = .ok (.iload_n 1, 1) := by decide +kernel
theorem dX9_hasSomething_52 : decode cX9_hasSomething 52 = .ok (.iaload, 1) := by decide +kernel
theorem dX9_hasSomething_53 : decode cX9_hasSomething 53 = .ok (.if_icmp .le 10, 3) := by decide +kernel
theorem dX9_hasSomething_56 : decode cX9_hasSomething 56 = .ok (.aload_n 0, 1) := by decide +kernel
theorem dX9_hasSomething_57 : decode cX9_hasSomething 57 = .ok (.iconst 2, 1) := by decide +kernel
theorem dX9_hasSomething_58 : decode cX9_hasSomething 58 = .ok (.putfield 86, 3) := by decide +kernel
theorem dX9_hasSomething_61 : decode cX9_hasSomething 61 = .ok (.iconst 0, 1) := by decide +kernel
theorem dX9_hasSomething_62 : decode cX9_hasSomething 62 = .ok (.ireturn, 1) := by decide +kernel
theorem dX9_hasSomething_63 : decode cX9_hasSomething 63 = .ok (.iload_n 3, 1) := by decide +kernel
theorem dX9_hasSomething_64 : decode cX9_hasSomething 64 = .ok (.ifCond .le 7, 3) := by decide +kernel
theorem dX9_hasSomething_67 : decode cX9_hasSomething 67 = .ok (.iconst 1, 1) := by decide +kernel
theorem dX9_hasSomething_68 : decode cX9_hasSomething 68 = .ok (.goto 4, 3) := by decide +kernel
theorem dX9_hasSomething_71 : decode cX9_hasSomething 71 = .ok (.iconst 0, 1) := by decide +kernel
theorem dX9_hasSomething_72 : decode cX9_hasSomething 72 = .ok (.ireturn, 1) := by decide +kernel
theorem dX9_take_0 : decode cX9_take 0 = .ok (.aload_n 0, 1) := by decide +kernel
theorem dX9_take_1 : decode cX9_take 1 = .ok (.iconst 0, 1) := by decide +kernel
theorem dX9_take_2 : decode cX9_take 2 = .ok (.putfield 95, 3) := by decide +kernel
theorem dX9_take_5 : decode cX9_take 5 = .ok (.aload_n 0, 1) := by decide +kernel
theorem dX9_take_6 : decode cX9_take 6 = .ok (.iconst 0, 1) := by decide +kernel
theorem dX9_take_7 : decode cX9_take 7 = .ok (.putfield 98, 3) := by decide +kernel
theorem dX9_take_10 : decode cX9_take 10 = .ok (.aload_n 0, 1) := by decide +kernel
theorem dX9_take_11 : decode cX9_take 11 = .ok (.iconst 0, 1) := by decide +kernel
theorem dX9_take_12 : decode cX9_take 12 = .ok (.putfield 101, 3) := by decide +kernel
theorem dX9_take_15 : decode cX9_take 15 = .ok (.aload_n 0, 1) := by decide +kernel
theorem dX9_take_16 : decode cX9_take 16 = .ok (.iconst 0, 1) := by decide +kernel
theorem dX9_take_17 : decode cX9_take 17 = .ok (.putfield 104, 3) := by decide +kernel
theorem dX9_take_20 : decode cX9_take 20 = .ok (.aload_n 0, 1) := by decide +kernel
theorem dX9_take_21 : decode cX9_take 21 = .ok (.getfield 11, 3) := by decide +kernel
theorem dX9_take_24 : decode cX9_take 24 = .ok (.iload_n 1, 1) := by decide +kernel
theorem dX9_take_25 : decode cX9_take 25 = .ok (.iaload, 1) := by decide +kernel
theorem dX9_take_26 : decode cX9_take 26 = .ok (.istore_n 2, 1) := by decide +kernel
theorem dX9_take_27 : decode cX9_take 27 = .ok (.aload_n 0, 1) := by decide +kernel
theorem dX9_take_28 : decode cX9_take 28 = .ok (.aload_n 0, 1) := by decide +kernel
theorem dX9_take_29 : decode cX9_take 29 = .ok (.aload_n 0, 1) := by decide +kernel
theorem dX9_take_30 : decode cX9_take 30 = .ok (.getfield 52, 3) := by decide +kernel
theorem dX9_take_33 : decode cX9_take 33 = .ok (.iload_n 1, 1) := by decide +kernel
theorem dX9_take_34 : decode cX9_take 34 = .ok (.iaload, 1) := by decide +kernel
theorem dX9_take_35 : decode cX9_take 35 = .ok (.iconst 4, 1) := by decide +kernel
theorem dX9_take_36 : decode cX9_take 36 = .ok (.iadd, 1) := by decide +kernel
theorem dX9_take_37 : decode cX9_take 37 = .ok (.iconst 2, 1) := by decide +kernel
theorem dX9_take_38 : decode cX9_take 38 = .ok (.aload_n 0, 1) := by decide +kernel
theorem dX9_take_39 : decode cX9_take 39 = .ok (.getfield 15, 3) := by decide +kernel
theorem dX9_take_42 : decode cX9_take 42 = .ok (.iload_n 1, 1) := by decide +kernel
theorem dX9_take_43 : decode cX9_take 43 = .ok (.iaload, 1) := by decide +kernel
theorem dX9_take_44 : decode cX9_take 44 = .ok (.iload_n 2, 1) := by decide +kernel
theorem dX9_take_45 : decode cX9_take 45 = .ok (.irem, 1) := by decide +kernel
theorem dX9_take_46 : decode cX9_take 46 = .ok (.imul, 1) := by decide +kernel
theorem dX9_take_47 : decode cX9_take 47 = .ok (.iadd, 1) := by decide +kernel
theorem dX9_take_48 : decode cX9_take 48 = .ok (.iconst 2, 1) := by decide +kernel
theorem dX9_take_49 : decode cX9_take 49 = .ok (.invokevirtual 90, 3) := by decide +kernel
theorem dX9_take_52 : decode cX9_take 52 = .ok (.l2i, 1) := by decide +kernel
theorem dX9_take_53 : decode cX9_take 53 = .ok (.putfield 107, 3) := by decide +kernel
theorem dX9_take_56 : decode cX9_take 56 = .ok (.aload_n 0, 1) := by decide +kernel
theorem dX9_take_57 : decode cX9_take 57 = .ok (.getfield 49, 3) := by decide +kernel
theorem dX9_take_60 : decode cX9_take 60 = .ok (.iload_n 1, 1) := by decide +kernel
theorem dX9_take_61 : decode cX9_take 61 = .ok (.iaload, 1) := by decide +kernel
theorem dX9_take_62 : decode cX9_take 62 = .ok (.istore_n 3, 1) := by decide +kernel
theorem dX9_take_63 : decode cX9_take 63 = .ok (.iload_n 2, 1) := by decide +kernel
theorem dX9_take_64 : decode cX9_take 64 = .ok (.istore 4, 2) := by decide +kernel
theorem dX9_take_66 : decode cX9_take 66 = .ok (.aload_n 0, 1) := by decide +kernel
theorem dX9_take_67 : decode cX9_take 67 = .ok (.getfield 107, 3) := by decide +kernel
theorem dX9_take_70 : decode cX9_take 70 = .ok (.istore 5, 2) := by decide +kernel
theorem dX9_take_72 : decode cX9_take 72 = .ok (.iconst 0, 1) := by decide +kernel
theorem dX9_take_73 : decode cX9_take 73 = .ok (.istore 6, 2) := by decide +kernel
theorem dX9_take_75 : decode cX9_take 75 = .ok (.iconst 0, 1) := by decide +kernel
theorem dX9_take_76 : decode cX9_take 76 = .ok (.istore 7, 2) := by decide +kernel
theorem dX9_take_78 : decode cX9_take 78 = .ok (.iconst 1, 1) := by decide +kernel
theorem dX9_take_79 : decode cX9_take 79 = .ok (.istore 8, 2) := by decide +kernel
theorem dX9_take_81 : decode cX9_take 81 = .ok (.aload_n 0, 1) := by decide +kernel
theorem dX9_take_82 : decode cX9_take 82 = .ok (.iconst 0, 1) := by decide +kernel
theorem dX9_take_83 : decode cX9_take 83 = .ok (.putfield 110, 3) := by decide +kernel
theorem dX9_take_86 : decode cX9_take 86 = .ok (.iconst 0, 1) := by decide +kernel
theorem dX9_take_87 : decode cX9_take 87 = .ok (.istore 9, 2) := by decide +kernel
theorem dX9_take_89 : decode cX9_take 89 = .ok (.iload 8, 2) := by decide +kernel
theorem dX9_take_91 : decode cX9_take 91 = .ok (.ifCond .eq 319, 3) := by decide +kernel
theorem dX9_take_94 : decode cX9_take 94 = .ok (.aload_n 0, 1) := by decide +kernel
theorem dX9_take_95 : decode cX9_take 95 = .ok (.getfield 110, 3) := by decide +kernel
theorem dX9_take_98 : decode cX9_take 98 = .ok (.ifCond .ne 312, 3) := by decide +kernel
theorem dX9_take_101 : decode cX9_take 101 = .ok (.iload 5, 2) := by decide +kernel
theorem dX9_take_103 : decode cX9_take 103 = .ok (.iload 4, 2) := by decide +kernel
theorem dX9_take_105 : decode cX9_take 105 = .ok (.if_icmp .ge 10, 3) := by decide +kernel
theorem dX9_take_108 : decode cX9_take 108 = .ok (.iload 9, 2) := by decide +kernel
theorem dX9_take_110 : decode cX9_take 110 = .ok (.bipush 16, 2) := by decide +kernel
theorem dX9_take_112 : decode cX9_take 112 = .ok (.if_icmp .ne 11, 3) := by decide +kernel
theorem dX9_take_115 : decode cX9_take 115 = .ok (.aload_n 0, 1) := by decide +kernel
theorem dX9_take_116 : decode cX9_take 116 = .ok (.iconst 1, 1) := by decide +kernel
theorem dX9_take_117 : decode cX9_take 117 = .ok (.putfield 110, 3) := by decide +kernel
theorem dX9_take_120 : decode cX9_take 120 = .ok (.goto (-31), 3) := by decide +kernel
theorem dX9_take_123 : decode cX9_take 123 = .ok (.iload_n 3, 1) := by decide +kernel
theorem dX9_take_124 : decode cX9_take 124 = .ok (.bipush 16, 2) := by decide +kernel
theorem dX9_take_126 : decode cX9_take 126 = .ok (.iload 5, 2) := by decide +kernel
theorem dX9_take_128 : decode cX9_take 128 = .ok (.imul, 1) := by decide +kernel
theorem dX9_take_129 : decode cX9_take 129 = .ok (.iadd, 1) := by decide +kernel
theorem dX9_take_130 : decode cX9_take 130 = .ok (.istore 10, 2) := by decide +kernel
theorem dX9_take_132 : decode cX9_take 132 = .ok (.aload_n 0, 1) := by decide +kernel
theorem dX9_take_133 : decode cX9_take 133 = .ok (.iload 10, 2) := by decide +kernel
theorem dX9_take_135 : decode cX9_take 135 = .ok (.bipush 8, 2) := by decide +kernel
theorem dX9_take_137 : decode cX9_take 137 = .ok (.invokevirtual 90, 3) := by decide +kernel
theorem dX9_take_140 : decode cX9_take 140 = .ok (.lstore 11, 2) := by decide +kernel
theorem dX9_take_142 : decode cX9_take 142 = .ok (.aload_n 0, 1) := by decide +kernel
theorem dX9_take_143 : decode cX9_take 143 = .ok (.iload 10, 2) := by decide +kernel
theorem dX9_take_145 : decode cX9_take 145 = .ok (.bipush 8, 2) := by decide +kernel
theorem dX9_take_147 : decode cX9_take 147 = .ok (.iadd, 1) := by decide +kernel
theorem dX9_take_148 : decode cX9_take 148 = .ok (.iconst 4, 1) := by decide +kernel
theorem dX9_take_149 : decode cX9_take 149 = .ok (.invokevirtual 90, 3) := by decide +kernel
theorem dX9_take_152 : decode cX9_take 152 = .ok (.lstore 13, 2) := by decide +kernel
theorem dX9_take_154 : decode cX9_take 154 = .ok (.aload_n 0, 1) := by decide +kernel
theorem dX9_take_155 : decode cX9_take 155 = .ok (.iload 10, 2) := by decide +kernel
theorem dX9_take_157 : decode cX9_take 157 = .ok (.bipush 12, 2) := by decide +kernel
theorem dX9_take_159 : decode cX9_take 159 = .ok (.iadd, 1) := by decide +kernel
theorem dX9_take_160 : decode cX9_take 160 = .ok (.iconst 2, 1) := by decide +kernel
theorem dX9_take_161 : decode cX9_take 161 = .ok (.invokevirtual 90, 3) := by decide +kernel
theorem dX9_take_164 : decode cX9_take 164 = .ok (.l2i, 1) := by decide +kernel
theorem dX9_take_165 : decode cX9_take 165 = .ok (.istore 15, 2) := by decide +kernel
theorem dX9_take_167 : decode cX9_take 167 = .ok (.iload 15, 2) := by decide +kernel
theorem dX9_take_169 : decode cX9_take 169 = .ok (.iconst 4, 1) := by decide +kernel
theorem dX9_take_170 : decode cX9_take 170 = .ok (.iand, 1) := by decide +kernel
theorem dX9_take_171 : decode cX9_take 171 = .ok (.ifCond .eq 7, 3) := by decide +kernel
theorem dX9_take_174 : decode cX9_take 174 = .ok (.iconst 1, 1) := by decide +kernel
theorem dX9_take_175 : decode cX9_take 175 = .ok (.goto 4, 3) := by decide +kernel
theorem dX9_take_178 : decode cX9_take 178 = .ok (.iconst 0, 1) := by decide +kernel
theorem dX9_take_179 : decode cX9_take 179 = .ok (.istore 16, 2) := by decide +kernel
theorem dX9_take_181 : decode cX9_take 181 = .ok (.iload 15, 2) := by decide +kernel
theorem dX9_take_183 : decode cX9_take 183 = .ok (.iconst 2, 1) := by decide +kernel
theorem dX9_take_184 : decode cX9_take 184 = .ok (.iand, 1) := by decide +kernel
theorem dX9_take_185 : decode cX9_take 185 = .ok (.ifCond .eq 7, 3) := by decide +kernel
theorem dX9_take_188 : decode cX9_take 188 = .ok (.iconst 1, 1) := by decide +kernel
theorem dX9_take_189 : decode cX9_take 189 = .ok (.goto 4, 3) := by decide +kernel
theorem dX9_take_192 : decode cX9_take 192 = .ok (.iconst 0, 1) := by decide +kernel
theorem dX9_take_193 : decode cX9_take 193 = .ok (.istore 17, 2) := by decide +kernel
theorem dX9_take_195 : decode cX9_take 195 = .ok (.iload 15, 2) := by decide +kernel
theorem dX9_take_197 : decode cX9_take 197 = .ok (.iconst 1, 1) := by decide +kernel
theorem dX9_take_198 : decode cX9_take 198 = .ok (.iand, 1) := by decide +kernel
theorem dX9_take_199 : decode cX9_take 199 = .ok (.ifCond .eq 7, 3) := by decide +kernel
theorem dX9_take_202 : decode cX9_take 202 = .ok (.iconst 1, 1) := by decide +kernel
theorem dX9_take_203 : decode cX9_take 203 = .ok (.goto 4, 3) := by decide +kernel
theorem dX9_take_206 : decode cX9_take 206 = .ok (.iconst 0, 1) := by decide +kernel
theorem dX9_take_207 : decode cX9_take 207 = .ok (.istore 18, 2) := by decide +kernel
theorem dX9_take_209 : decode cX9_take 209 = .ok (.lload 13, 2) := by decide +kernel
theorem dX9_take_211 : decode cX9_take 211 = .ok (.lconst 0, 1) := by decide +kernel
theorem dX9_take_212 : decode cX9_take 212 = .ok (.lcmp, 1) := by decide +kernel
theorem dX9_take_213 : decode cX9_take 213 = .ok (.ifCond .eq 22, 3) := by decide +kernel
theorem dX9_take_216 : decode cX9_take 216 = .ok (.lload 11, 2) := by decide +kernel
theorem dX9_take_218 : decode cX9_take 218 = .ok (.lconst 0, 1) := by decide +kernel
theorem dX9_take_219 : decode cX9_take 219 = .ok (.lcmp, 1) := by decide +kernel
theorem dX9_take_220 : decode cX9_take 220 = .ok (.ifCond .lt 19, 3) := by decide +kernel
theorem dX9_take_223 : decode cX9_take 223 = .ok (.lload 11, 2) := by decide +kernel
theorem dX9_take_225 : decode cX9_take 225 = .ok (.ldc2_w 113, 3) := by decide +kernel
theorem dX9_take_228 : decode cX9_take 228 = .ok (.lload 13, 2) := by decide +kernel
theorem dX9_take_230 : decode cX9_take 230 = .ok (.lsub, 1) := by decide +kernel
theorem dX9_take_231 : decode cX9_take 231 = .ok (.lcmp, 1) := by decide +kernel
theorem dX9_take_232 : decode cX9_take 232 = .ok (.ifCond .gt 7, 3) := by decide +kernel
theorem dX9_take_235 : decode cX9_take 235 = .ok (.iconst 1, 1) := by decide +kernel
theorem dX9_take_236 : decode cX9_take 236 = .ok (.goto 4, 3) := by decide +kernel
theorem dX9_take_239 : decode cX9_take 239 = .ok (.iconst 0, 1) := by decide +kernel
theorem dX9_take_240 : decode cX9_take 240 = .ok (.istore 19, 2) := by decide +kernel
theorem dX9_take_242 : decode cX9_take 242 = .ok (.iload 16, 2) := by decide +kernel
theorem dX9_take_244 : decode cX9_take 244 = .ok (.ifCond .eq 51, 3) := by decide +kernel
theorem dX9_take_247 : decode cX9_take 247 = .ok (.aload_n 0, 1) := by decide +kernel
theorem dX9_take_248 : decode cX9_take 248 = .ok (.getfield 79, 3) := by decide +kernel
theorem dX9_take_251 : decode cX9_take 251 = .ok (.ifCond .eq 40, 3) := by decide +kernel
theorem dX9_take_254 : decode cX9_take 254 = .ok (.iload 18, 2) := by decide +kernel
theorem dX9_take_256 : decode cX9_take 256 = .ok (.ifCond .ne 35, 3) := by decide +kernel
theorem dX9_take_259 : decode cX9_take 259 = .ok (.iload 6, 2) := by decide +kernel
theorem dX9_take_261 : decode cX9_take 261 = .ok (.ifCond .ne 30, 3) := by decide +kernel
theorem dX9_take_264 : decode cX9_take 264 = .ok (.lload 13, 2) := by decide +kernel
theorem dX9_take_266 : decode cX9_take 266 = .ok (.lconst 0, 1) := by decide +kernel
theorem dX9_take_267 : decode cX9_take 267 = .ok (.lcmp, 1) := by decide +kernel
theorem dX9_take_268 : decode cX9_take 268 = .ok (.ifCond .eq 23, 3) := by decide +kernel
theorem dX9_take_271 : decode cX9_take 271 = .ok (.lload 13, 2) := by decide +kernel
theorem dX9_take_273 : decode cX9_take 273 = .ok (.ldc2_w 115, 3) := by decide +kernel
theorem dX9_take_276 : decode cX9_take 276 = .ok (.lrem, 1) := by decide +kernel
theorem dX9_take_277 : decode cX9_take 277 = .ok (.lconst 0, 1) := by decide +kernel
theorem dX9_take_278 : decode cX9_take 278 = .ok (.lcmp, 1) := by decide +kernel
theorem dX9_take_279 : decode cX9_take 279 = .ok (.ifCond .ne 12, 3) := by decide +kernel
theorem dX9_take_282 : decode cX9_take 282 = .ok (.lload 13, 2) := by decide +kernel
theorem dX9_take_284 : decode cX9_take 284 = .ok (.ldc2_w 117, 3) := by decide +kernel
theorem dX9_take_287 : decode cX9_take 287 = .ok (.lcmp, 1) := by decide +kernel
theorem dX9_take_288 : decode cX9_take 288 = .ok (.ifCond .le 7, 3) := by decide +kernel
theorem dX9_take_291 : decode cX9_take 291 = .ok (.iconst 1, 1) := by decide +kernel
theorem dX9_take_292 : decode cX9_take 292 = .ok (.goto 4, 3) := by decide +kernel
theorem dX9_take_295 : decode cX9_take 295 = .ok (.iconst 0, 1) := by decide +kernel
theorem dX9_take_296 : decode cX9_take 296 = .ok (.istore 20, 2) := by decide +kernel
theorem dX9_take_298 : decode cX9_take 298 = .ok (.iload 20, 2) := by decide +kernel
theorem dX9_take_300 : decode cX9_take 300 = .ok (.ifCond .ne 23, 3) := by decide +kernel
theorem dX9_take_303 : decode cX9_take 303 = .ok (.iload 19, 2) := by decide +kernel
theorem dX9_take_305 : decode cX9_take 305 = .ok (.ifCond .eq 18, 3) := by decide +kernel
theorem dX9_take_308 : decode cX9_take 308 = .ok (.iload 17, 2) := by decide +kernel
theorem dX9_take_310 : decode cX9_take 310 = .ok (.ifCond .ne 21, 3) := by decide +kernel
theorem dX9_take_313 : decode cX9_take 313 = .ok (.iload 16, 2) := by decide +kernel
theorem dX9_take_315 : decode cX9_take 315 = .ok (.ifCond .ne 16, 3) := by decide +kernel
theorem dX9_take_318 : decode cX9_take 318 = .ok (.iload 7, 2) := by decide +kernel
theorem dX9_take_320 : decode cX9_take 320 = .ok (.ifCond .eq 11, 3) := by decide +kernel
theorem dX9_take_323 : decode cX9_take 323 = .ok (.aload_n 0, 1) := by decide +kernel
theorem dX9_take_324 : decode cX9_take 324 = .ok (.iconst 1, 1) := by decide +kernel
theorem dX9_take_325 : decode cX9_take 325 = .ok (.putfield 110, 3) := by decide +kernel
theorem dX9_take_328 : decode cX9_take 328 = .ok (.goto 79, 3) := by decide +kernel
theorem dX9_take_331 : decode cX9_take 331 = .ok (.iload 16, 2) := by decide +kernel
theorem dX9_take_333 : decode cX9_take 333 = .ok (.ifCond .eq 25, 3) := by decide +kernel
theorem dX9_take_336 : decode cX9_take 336 = .ok (.iconst 1, 1) := by decide +kernel
theorem dX9_take_337 : decode cX9_take 337 = .ok (.istore 6, 2) := by decide +kernel
theorem dX9_take_339 : decode cX9_take 339 = .ok (.lload 11, 2) := by decide +kernel
theorem dX9_take_341 : decode cX9_take 341 = .ok (.l2i, 1) := by decide +kernel
theorem dX9_take_342 : decode cX9_take 342 = .ok (.istore_n 3, 1) := by decide +kernel
theorem dX9_take_343 : decode cX9_take 343 = .ok (.lload 13, 2) := by decide +kernel
theorem dX9_take_345 : decode cX9_take 345 = .ok (.ldc2_w 115, 3) := by decide +kernel
theorem dX9_take_348 : decode cX9_take 348 = .ok (.ldiv, 1) := by decide +kernel
theorem dX9_take_349 : decode cX9_take 349 = .ok (.l2i, 1) := by decide +kernel
theorem dX9_take_350 : decode cX9_take 350 = .ok (.istore 4, 2) := by decide +kernel
theorem dX9_take_352 : decode cX9_take 352 = .ok (.iconst 0, 1) := by decide +kernel
theorem dX9_take_353 : decode cX9_take 353 = .ok (.istore 5, 2) := by decide +kernel
theorem dX9_take_355 : decode cX9_take 355 = .ok (.goto 52, 3) := by decide +kernel
theorem dX9_take_358 : decode cX9_take 358 = .ok (.iinc 9 1, 3) := by decide +kernel
theorem dX9_take_361 : decode cX9_take 361 = .ok (.aload_n 0, 1) := by decide +kernel
theorem dX9_take_362 : decode cX9_take 362 = .ok (.lload 11, 2) := by decide +kernel
theorem dX9_take_364 : decode cX9_take 364 = .ok (.l2i, 1) := by decide +kernel
theorem dX9_take_365 : decode cX9_take 365 = .ok (.lload 13, 2) := by decide +kernel
theorem dX9_take_367 : decode cX9_take 367 = .ok (.l2i, 1) := by decide +kernel
theorem dX9_take_368 : decode cX9_take 368 = .ok (.iload 17, 2) := by decide +kernel
theorem dX9_take_370 : decode cX9_take 370 = .ok (.invokevirtual 119, 3) := by decide +kernel
theorem dX9_take_373 : decode cX9_take 373 = .ok (.iload 7, 2) := by decide +kernel
theorem dX9_take_375 : decode cX9_take 375 = .ok (.ifCond .ne 8, 3) := by decide +kernel
theorem dX9_take_378 : decode cX9_take 378 = .ok (.iload 17, 2) := by decide +kernel
theorem dX9_take_380 : decode cX9_take 380 = .ok (.ifCond .eq 7, 3) := by decide +kernel
theorem dX9_take_383 : decode cX9_take 383 = .ok (.iconst 1, 1) := by decide +kernel
theorem dX9_take_384 : decode cX9_take 384 = .ok (.goto 4, 3) := by decide +kernel
theorem dX9_take_387 : decode cX9_take 387 = .ok (.iconst 0, 1) := by decide +kernel
theorem dX9_take_388 : decode cX9_take 388 = .ok (.istore 7, 2) := by decide +kernel
theorem dX9_take_390 : decode cX9_take 390 = .ok (.aload_n 0, 1) := by decide +kernel
theorem dX9_take_391 : decode cX9_take 391 = .ok (.iload 10, 2) := by decide +kernel
theorem dX9_take_393 : decode cX9_take 393 = .ok (.bipush 14, 2) := by decide +kernel
theorem dX9_take_395 : decode cX9_take 395 = .ok (.iadd, 1) := by decide +kernel
theorem dX9_take_396 : decode cX9_take 396 = .ok (.iconst 2, 1) := by decide +kernel
theorem dX9_take_397 : decode cX9_take 397 = .ok (.invokevirtual 90, 3) := by decide +kernel
theorem dX9_take_400 : decode cX9_take 400 = .ok (.l2i, 1) := by decide +kernel
theorem dX9_take_401 : decode cX9_take 401 = .ok (.istore 5, 2) := by decide +kernel
theorem dX9_take_403 : decode cX9_take 403 = .ok (.iload 18, 2) := by decide +kernel
theorem dX9_take_405 : decode cX9_take 405 = .ok (.istore 8, 2) := by decide +kernel
theorem dX9_take_407 : decode cX9_take 407 = .ok (.goto (-318), 3) := by decide +kernel
theorem dX9_take_410 : decode cX9_take 410 = .ok (.aload_n 0, 1) := by decide +kernel
theorem dX9_take_411 : decode cX9_take 411 = .ok (.getfield 110, 3) := by decide +kernel
theorem dX9_take_414 : decode cX9_take 414 = .ok (.ifCond .eq 10, 3) := by decide +kernel
theorem dX9_take_417 : decode cX9_take 417 = .ok (.aload_n 0, 1) := by decide +kernel
theorem dX9_take_418 : decode cX9_take 418 = .ok (.iconst 2, 1) := by decide +kernel
theorem dX9_take_419 : decode cX9_take 419 = .ok (.putfield 86, 3) := by decide +kernel
theorem dX9_take_422 : decode cX9_take 422 = .ok (.iconst 0, 1) := by decide +kernel
theorem dX9_take_423 : decode cX9_take 423 = .ok (.ireturn, 1) := by decide +kernel
theorem dX9_take_424 : decode cX9_take 424 = .ok (.aload_n 0, 1) := by decide +kernel
theorem dX9_take_425 : decode cX9_take 425 = .ok (.getfield 15, 3) := by decide +kernel
theorem dX9_take_428 : decode cX9_take 428 = .ok (.iload_n 1, 1) := by decide +kernel
theorem dX9_take_429 : decode cX9_take 429 = .ok (.aload_n 0, 1) := by decide +kernel
theorem dX9_take_430 : decode cX9_take 430 = .ok (.getfield 15, 3) := by decide +kernel
theorem dX9_take_433 : decode cX9_take 433 = .ok (.iload_n 1, 1) := by decide +kernel
theorem dX9_take_434 : decode cX9_take 434 = .ok (.iaload, 1) := by decide +kernel
theorem dX9_take_435 : decode cX9_take 435 = .ok (.iconst 1, 1) := by decide +kernel
theorem dX9_take_436 : decode cX9_take 436 = .ok (.iadd, 1) := by decide +kernel
theorem dX9_take_437 : decode cX9_take 437 = .ok (.ldc 94, 2) := by decide +kernel
theorem dX9_take_439 : decode cX9_take 439 = .ok (.iand, 1) := by decide +kernel
theorem dX9_take_440 : decode cX9_take 440 = .ok (.iastore, 1) := by decide +kernel
theorem dX9_take_441 : decode cX9_take 441 = .ok (.iconst 1, 1) := by decide +kernel
theorem dX9_take_442 : decode cX9_take 442 = .ok (.ireturn, 1) := by decide +kernel
theorem dX9_keep_0 : decode cX9_keep 0 = .ok (.iload_n 3, 1) := by decide +kernel
theorem dX9_keep_1 : decode cX9_keep 1 = .ok (.ifCond .eq 46, 3) := by decide +kernel
theorem dX9_keep_4 : decode cX9_keep 4 = .ok (.aload_n 0, 1) := by decide +kernel
theorem dX9_keep_5 : decode cX9_keep 5 = .ok (.getfield 64, 3) := by decide +kernel
theorem dX9_keep_8 : decode cX9_keep 8 = .ok (.aload_n 0, 1) := by decide +kernel
theorem dX9_keep_9 : decode cX9_keep 9 = .ok (.getfield 101, 3) := by decide +kernel
theorem dX9_keep_12 : decode cX9_keep 12 = .ok (.iload_n 1, 1) := by decide +kernel
theorem dX9_keep_13 : decode cX9_keep 13 = .ok (.iastore, 1) := by decide +kernel
theorem dX9_keep_14 : decode cX9_keep 14 = .ok (.aload_n 0, 1) := by decide +kernel
theorem dX9_keep_15 : decode cX9_keep 15 = .ok (.getfield 67, 3) := by decide +kernel
theorem dX9_keep_18 : decode cX9_keep 18 = .ok (.aload_n 0, 1) := by decide +kernel
theorem dX9_keep_19 : decode cX9_keep 19 = .ok (.getfield 101, 3) := by decide +kernel
theorem dX9_keep_22 : decode cX9_keep 22 = .ok (.iload_n 2, 1) := by decide +kernel
theorem dX9_keep_23 : decode cX9_keep 23 = .ok (.iastore, 1) := by decide +kernel
theorem dX9_keep_24 : decode cX9_keep 24 = .ok (.aload_n 0, 1) := by decide +kernel
theorem dX9_keep_25 : decode cX9_keep 25 = .ok (.dup, 1) := by decide +kernel
theorem dX9_keep_26 : decode cX9_keep 26 = .ok (.getfield 101, 3) := by decide +kernel
theorem dX9_keep_29 : decode cX9_keep 29 = .ok (.iconst 1, 1) := by decide +kernel
theorem dX9_keep_30 : decode cX9_keep 30 = .ok (.iadd, 1) := by decide +kernel
theorem dX9_keep_31 : decode cX9_keep 31 = .ok (.putfield 101, 3) := by decide +kernel
theorem dX9_keep_34 : decode cX9_keep 34 = .ok (.aload_n 0, 1) := by decide +kernel
theorem dX9_keep_35 : decode cX9_keep 35 = .ok (.dup, 1) := by decide +kernel
theorem dX9_keep_36 : decode cX9_keep 36 = .ok (.getfield 104, 3) := by decide +kernel
theorem dX9_keep_39 : decode cX9_keep 39 = .ok (.iload_n 2, 1) := by decide +kernel
theorem dX9_keep_40 : decode cX9_keep 40 = .ok (.iadd, 1) := by decide +kernel
theorem dX9_keep_41 : decode cX9_keep 41 = .ok (.putfield 104, 3) := by decide +kernel
theorem dX9_keep_44 : decode cX9_keep 44 = .ok (.goto 43, 3) := by decide +kernel
theorem dX9_keep_47 : decode cX9_keep 47 = .ok (.aload_n 0, 1) := by decide +kernel
theorem dX9_keep_48 : decode cX9_keep 48 = .ok (.getfield 58, 3) := by decide +kernel
theorem dX9_keep_51 : decode cX9_keep 51 = .ok (.aload_n 0, 1) := by decide +kernel
theorem dX9_keep_52 : decode cX9_keep 52 = .ok (.getfield 95, 3) := by decide +kernel
theorem dX9_keep_55 : decode cX9_keep 55 = .ok (.iload_n 1, 1) := by decide +kernel
theorem dX9_keep_56 : decode cX9_keep 56 = .ok (.iastore, 1) := by decide +kernel
theorem dX9_keep_57 : decode cX9_keep 57 = .ok (.aload_n 0, 1) := by decide +kernel
theorem dX9_keep_58 : decode cX9_keep 58 = .ok (.getfield 61, 3) := by decide +kernel
theorem dX9_keep_61 : decode cX9_keep 61 = .ok (.aload_n 0, 1) := by decide +kernel
theorem dX9_keep_62 : decode cX9_keep 62 = .ok (.getfield 95, 3) := by decide +kernel
theorem dX9_keep_65 : decode cX9_keep 65 = .ok (.iload_n 2, 1) := by decide +kernel
theorem dX9_keep_66 : decode cX9_keep 66 = .ok (.iastore, 1) := by decide +kernel
theorem dX9_keep_67 : decode cX9_keep 67 = .ok (.aload_n 0, 1) := by decide +kernel
theorem dX9_keep_68 : decode cX9_keep 68 = .ok (.dup, 1) := by decide +kernel
theorem dX9_keep_69 : decode cX9_keep 69 = .ok (.getfield 95, 3) := by decide +kernel
theorem dX9_keep_72 : decode cX9_keep 72 = .ok (.iconst 1, 1) := by decide +kernel
theorem dX9_keep_73 : decode cX9_keep 73 = .ok (.iadd, 1) := by decide +kernel
theorem dX9_keep_74 : decode cX9_keep 74 = .ok (.putfield 95, 3) := by decide +kernel
theorem dX9_keep_77 : decode cX9_keep 77 = .ok (.aload_n 0, 1) := by decide +kernel
theorem dX9_keep_78 : decode cX9_keep 78 = .ok (.dup, 1) := by decide +kernel
theorem dX9_keep_79 : decode cX9_keep 79 = .ok (.getfield 98, 3) := by decide +kernel
theorem dX9_keep_82 : decode cX9_keep 82 = .ok (.iload_n 2, 1) := by decide +kernel
theorem dX9_keep_83 : decode cX9_keep 83 = .ok (.iadd, 1) := by decide +kernel
theorem dX9_keep_84 : decode cX9_keep 84 = .ok (.putfield 98, 3) := by decide +kernel
theorem dX9_keep_87 : decode cX9_keep 87 = .ok (.return_, 1) := by decide +kernel
theorem dX9_readByte_0 : decode cX9_readByte 0 = .ok (.iconst 0, 1) := by decide +kernel
theorem dX9_readByte_1 : decode cX9_readByte 1 = .ok (.istore_n 2, 1) := by decide +kernel
theorem dX9_readByte_2 : decode cX9_readByte 2 = .ok (.iload_n 1, 1) := by decide +kernel
theorem dX9_readByte_3 : decode cX9_readByte 3 = .ok (.istore_n 3, 1) := by decide +kernel
theorem dX9_readByte_4 : decode cX9_readByte 4 = .ok (.iload_n 3, 1) := by decide +kernel
theorem dX9_readByte_5 : decode cX9_readByte 5 = .ok (.aload_n 0, 1) := by decide +kernel
theorem dX9_readByte_6 : decode cX9_readByte 6 = .ok (.getfield 61, 3) := by decide +kernel
theorem dX9_readByte_9 : decode cX9_readByte 9 = .ok (.iload_n 2, 1) := by decide +kernel
theorem dX9_readByte_10 : decode cX9_readByte 10 = .ok (.iaload, 1) := by decide +kernel
theorem dX9_readByte_11 : decode cX9_readByte 11 = .ok (.if_icmp .lt 18, 3) := by decide +kernel
theorem dX9_readByte_14 : decode cX9_readByte 14 = .ok (.iload_n 3, 1) := by decide +kernel
theorem dX9_readByte_15 : decode cX9_readByte 15 = .ok (.aload_n 0, 1) := by decide +kernel
theorem dX9_readByte_16 : decode cX9_readByte 16 = .ok (.getfield 61, 3) := by decide +kernel
theorem dX9_readByte_19 : decode cX9_readByte 19 = .ok (.iload_n 2, 1) := by decide +kernel
theorem dX9_readByte_20 : decode cX9_readByte 20 = .ok (.iaload, 1) := by decide +kernel
theorem dX9_readByte_21 : decode cX9_readByte 21 = .ok (.isub, 1) := by decide +kernel
theorem dX9_readByte_22 : decode cX9_readByte 22 = .ok (.istore_n 3, 1) := by decide +kernel
theorem dX9_readByte_23 : decode cX9_readByte 23 = .ok (.iinc 2 1, 3) := by decide +kernel
theorem dX9_readByte_26 : decode cX9_readByte 26 = .ok (.goto (-22), 3) := by decide +kernel
theorem dX9_readByte_29 : decode cX9_readByte 29 = .ok (.aload_n 0, 1) := by decide +kernel
theorem dX9_readByte_30 : decode cX9_readByte 30 = .ok (.getfield 1, 3) := by decide +kernel
theorem dX9_readByte_33 : decode cX9_readByte 33 = .ok (.aload_n 0, 1) := by decide +kernel
theorem dX9_readByte_34 : decode cX9_readByte 34 = .ok (.getfield 58, 3) := by decide +kernel
theorem dX9_readByte_37 : decode cX9_readByte 37 = .ok (.iload_n 2, 1) := by decide +kernel
theorem dX9_readByte_38 : decode cX9_readByte 38 = .ok (.iaload, 1) := by decide +kernel
theorem dX9_readByte_39 : decode cX9_readByte 39 = .ok (.iload_n 3, 1) := by decide +kernel
theorem dX9_readByte_40 : decode cX9_readByte 40 = .ok (.iadd, 1) := by decide +kernel
theorem dX9_readByte_41 : decode cX9_readByte 41 = .ok (.baload, 1) := by decide +kernel
theorem dX9_readByte_42 : decode cX9_readByte 42 = .ok (.sipush 255, 3) := by decide +kernel
theorem dX9_readByte_45 : decode cX9_readByte 45 = .ok (.iand, 1) := by decide +kernel
theorem dX9_readByte_46 : decode cX9_readByte 46 = .ok (.ireturn, 1) := by decide +kernel
theorem dX9_readNumber_0 : decode cX9_readNumber 0 = .ok (.lconst 0, 1) := by decide +kernel
theorem dX9_readNumber_1 : decode cX9_readNumber 1 = .ok (.lstore_n 3, 1) := by decide +kernel
theorem dX9_readNumber_2 : decode cX9_readNumber 2 = .ok (.iload_n 2, 1) := by decide +kernel
theorem dX9_readNumber_3 : decode cX9_readNumber 3 = .ok (.iconst 1, 1) := by decide +kernel
theorem dX9_readNumber_4 : decode cX9_readNumber 4 = .ok (.isub, 1) := by decide +kernel
theorem dX9_readNumber_5 : decode cX9_readNumber 5 = .ok (.istore 5, 2) := by decide +kernel
theorem dX9_readNumber_7 : decode cX9_readNumber 7 = .ok (.iload 5, 2) := by decide +kernel
theorem dX9_readNumber_9 : decode cX9_readNumber 9 = .ok (.ifCond .lt 24, 3) := by decide +kernel
theorem dX9_readNumber_12 : decode cX9_readNumber 12 = .ok (.lload_n 3, 1) := by decide +kernel
theorem dX9_readNumber_13 : decode cX9_readNumber 13 = .ok (.bipush 8, 2) := by decide +kernel
theorem dX9_readNumber_15 : decode cX9_readNumber 15 = .ok (.lshl, 1) := by decide +kernel
theorem dX9_readNumber_16 : decode cX9_readNumber 16 = .ok (.aload_n 0, 1) := by decide +kernel
theorem dX9_readNumber_17 : decode cX9_readNumber 17 = .ok (.iload_n 1, 1) := by decide +kernel
theorem dX9_readNumber_18 : decode cX9_readNumber 18 = .ok (.iload 5, 2) := by decide +kernel
theorem dX9_readNumber_20 : decode cX9_readNumber 20 = .ok (.iadd, 1) := by decide +kernel
theorem dX9_readNumber_21 : decode cX9_readNumber 21 = .ok (.invokevirtual 123, 3) := by decide +kernel
theorem dX9_readNumber_24 : decode cX9_readNumber 24 = .ok (.i2l, 1) := by decide +kernel
theorem dX9_readNumber_25 : decode cX9_readNumber 25 = .ok (.lor, 1) := by decide +kernel
theorem dX9_readNumber_26 : decode cX9_readNumber 26 = .ok (.lstore_n 3, 1) := by decide +kernel
theorem dX9_readNumber_27 : decode cX9_readNumber 27 = .ok (.iinc 5 (-1), 3) := by decide +kernel
theorem dX9_readNumber_30 : decode cX9_readNumber 30 = .ok (.goto (-23), 3) := by decide +kernel
theorem dX9_readNumber_33 : decode cX9_readNumber 33 = .ok (.lload_n 3, 1) := by decide +kernel
theorem dX9_readNumber_34 : decode cX9_readNumber 34 = .ok (.lreturn, 1) := by decide +kernel
theorem dX9_writeByte_0 : decode cX9_writeByte 0 = .ok (.iconst 0, 1) := by decide +kernel
theorem dX9_writeByte_1 : decode cX9_writeByte 1 = .ok (.istore_n 3, 1) := by decide +kernel
theorem dX9_writeByte_2 : decode cX9_writeByte 2 = .ok (.iload_n 1, 1) := by decide +kernel
theorem dX9_writeByte_3 : decode cX9_writeByte 3 = .ok (.istore 4, 2) := by decide +kernel
theorem dX9_writeByte_5 : decode cX9_writeByte 5 = .ok (.iload 4, 2) := by decide +kernel
theorem dX9_writeByte_7 : decode cX9_writeByte 7 = .ok (.aload_n 0, 1) := by decide +kernel
theorem dX9_writeByte_8 : decode cX9_writeByte 8 = .ok (.getfield 67, 3) := by decide +kernel
theorem dX9_writeByte_11 : decode cX9_writeByte 11 = .ok (.iload_n 3, 1) := by decide +kernel
theorem dX9_writeByte_12 : decode cX9_writeByte 12 = .ok (.iaload, 1) := by decide +kernel
theorem dX9_writeByte_13 : decode cX9_writeByte 13 = .ok (.if_icmp .lt 20, 3) := by decide +kernel
theorem dX9_writeByte_16 : decode cX9_writeByte 16 = .ok (.iload 4, 2) := by decide +kernel
theorem dX9_writeByte_18 : decode cX9_writeByte 18 = .ok (.aload_n 0, 1) := by decide +kernel
theorem dX9_writeByte_19 : decode cX9_writeByte 19 = .ok (.getfield 67, 3) := by decide +kernel
theorem dX9_writeByte_22 : decode cX9_writeByte 22 = .ok (.iload_n 3, 1) := by decide +kernel
theorem dX9_writeByte_23 : decode cX9_writeByte 23 = .ok (.iaload, 1) := by decide +kernel
theorem dX9_writeByte_24 : decode cX9_writeByte 24 = .ok (.isub, 1) := by decide +kernel
theorem dX9_writeByte_25 : decode cX9_writeByte 25 = .ok (.istore 4, 2) := by decide +kernel
theorem dX9_writeByte_27 : decode cX9_writeByte 27 = .ok (.iinc 3 1, 3) := by decide +kernel
theorem dX9_writeByte_30 : decode cX9_writeByte 30 = .ok (.goto (-25), 3) := by decide +kernel
theorem dX9_writeByte_33 : decode cX9_writeByte 33 = .ok (.aload_n 0, 1) := by decide +kernel
theorem dX9_writeByte_34 : decode cX9_writeByte 34 = .ok (.getfield 1, 3) := by decide +kernel
theorem dX9_writeByte_37 : decode cX9_writeByte 37 = .ok (.aload_n 0, 1) := by decide +kernel
theorem dX9_writeByte_38 : decode cX9_writeByte 38 = .ok (.getfield 64, 3) := by decide +kernel
theorem dX9_writeByte_41 : decode cX9_writeByte 41 = .ok (.iload_n 3, 1) := by decide +kernel
theorem dX9_writeByte_42 : decode cX9_writeByte 42 = .ok (.iaload, 1) := by decide +kernel
theorem dX9_writeByte_43 : decode cX9_writeByte 43 = .ok (.iload 4, 2) := by decide +kernel
theorem dX9_writeByte_45 : decode cX9_writeByte 45 = .ok (.iadd, 1) := by decide +kernel
theorem dX9_writeByte_46 : decode cX9_writeByte 46 = .ok (.iload_n 2, 1) := by decide +kernel
theorem dX9_writeByte_47 : decode cX9_writeByte 47 = .ok (.i2b, 1) := by decide +kernel
theorem dX9_writeByte_48 : decode cX9_writeByte 48 = .ok (.bastore, 1) := by decide +kernel
theorem dX9_writeByte_49 : decode cX9_writeByte 49 = .ok (.return_, 1) := by decide +kernel
theorem dX9_give_0 : decode cX9_give 0 = .ok (.aload_n 0, 1) := by decide +kernel
theorem dX9_give_1 : decode cX9_give 1 = .ok (.getfield 55, 3) := by decide +kernel
theorem dX9_give_4 : decode cX9_give 4 = .ok (.iload_n 1, 1) := by decide +kernel
theorem dX9_give_5 : decode cX9_give 5 = .ok (.iaload, 1) := by decide +kernel
theorem dX9_give_6 : decode cX9_give 6 = .ok (.iconst 4, 1) := by decide +kernel
theorem dX9_give_7 : decode cX9_give 7 = .ok (.iadd, 1) := by decide +kernel
theorem dX9_give_8 : decode cX9_give 8 = .ok (.bipush 8, 2) := by decide +kernel
theorem dX9_give_10 : decode cX9_give 10 = .ok (.aload_n 0, 1) := by decide +kernel
theorem dX9_give_11 : decode cX9_give 11 = .ok (.getfield 18, 3) := by decide +kernel
theorem dX9_give_14 : decode cX9_give 14 = .ok (.iload_n 1, 1) := by decide +kernel
theorem dX9_give_15 : decode cX9_give 15 = .ok (.iaload, 1) := by decide +kernel
theorem dX9_give_16 : decode cX9_give 16 = .ok (.aload_n 0, 1) := by decide +kernel
theorem dX9_give_17 : decode cX9_give 17 = .ok (.getfield 11, 3) := by decide +kernel
theorem dX9_give_20 : decode cX9_give 20 = .ok (.iload_n 1, 1) := by decide +kernel
theorem dX9_give_21 : decode cX9_give 21 = .ok (.iaload, 1) := by decide +kernel
theorem dX9_give_22 : decode cX9_give 22 = .ok (.irem, 1) := by decide +kernel
theorem dX9_give_23 : decode cX9_give 23 = .ok (.imul, 1) := by decide +kernel
theorem dX9_give_24 : decode cX9_give 24 = .ok (.iadd, 1) := by decide +kernel
theorem dX9_give_25 : decode cX9_give 25 = .ok (.istore_n 3, 1) := by decide +kernel
theorem dX9_give_26 : decode cX9_give 26 = .ok (.aload_n 0, 1) := by decide +kernel
theorem dX9_give_27 : decode cX9_give 27 = .ok (.iload_n 3, 1) := by decide +kernel
theorem dX9_give_28 : decode cX9_give 28 = .ok (.iconst 4, 1) := by decide +kernel
theorem dX9_give_29 : decode cX9_give 29 = .ok (.aload_n 0, 1) := by decide +kernel
theorem dX9_give_30 : decode cX9_give 30 = .ok (.getfield 107, 3) := by decide +kernel
theorem dX9_give_33 : decode cX9_give 33 = .ok (.i2l, 1) := by decide +kernel
theorem dX9_give_34 : decode cX9_give 34 = .ok (.invokevirtual 127, 3) := by decide +kernel
theorem dX9_give_37 : decode cX9_give 37 = .ok (.aload_n 0, 1) := by decide +kernel
theorem dX9_give_38 : decode cX9_give 38 = .ok (.iload_n 3, 1) := by decide +kernel
theorem dX9_give_39 : decode cX9_give 39 = .ok (.iconst 4, 1) := by decide +kernel
theorem dX9_give_40 : decode cX9_give 40 = .ok (.iadd, 1) := by decide +kernel
theorem dX9_give_41 : decode cX9_give 41 = .ok (.iconst 4, 1) := by decide +kernel
theorem dX9_give_42 : decode cX9_give 42 = .ok (.iload_n 2, 1) := by decide +kernel
theorem dX9_give_43 : decode cX9_give 43 = .ok (.i2l, 1) := by decide +kernel
theorem dX9_give_44 : decode cX9_give 44 = .ok (.invokevirtual 127, 3) := by decide +kernel
theorem dX9_give_47 : decode cX9_give 47 = .ok (.aload_n 0, 1) := by decide +kernel
theorem dX9_give_48 : decode cX9_give 48 = .ok (.getfield 18, 3) := by decide +kernel
theorem dX9_give_51 : decode cX9_give 51 = .ok (.iload_n 1, 1) := by decide +kernel
theorem dX9_give_52 : decode cX9_give 52 = .ok (.aload_n 0, 1) := by decide +kernel
theorem dX9_give_53 : decode cX9_give 53 = .ok (.getfield 18, 3) := by decide +kernel
theorem dX9_give_56 : decode cX9_give 56 = .ok (.iload_n 1, 1) := by decide +kernel
theorem dX9_give_57 : decode cX9_give 57 = .ok (.iaload, 1) := by decide +kernel
theorem dX9_give_58 : decode cX9_give 58 = .ok (.iconst 1, 1) := by decide +kernel
theorem dX9_give_59 : decode cX9_give 59 = .ok (.iadd, 1) := by decide +kernel
theorem dX9_give_60 : decode cX9_give 60 = .ok (.ldc 94, 2) := by decide +kernel
theorem dX9_give_62 : decode cX9_give 62 = .ok (.iand, 1) := by decide +kernel
theorem dX9_give_63 : decode cX9_give 63 = .ok (.iastore, 1) := by decide +kernel
theorem dX9_give_64 : decode cX9_give 64 = .ok (.aload_n 0, 1) := by decide +kernel
theorem dX9_give_65 : decode cX9_give 65 = .ok (.aload_n 0, 1) := by decide +kernel
theorem dX9_give_66 : decode cX9_give 66 = .ok (.getfield 55, 3) := by decide +kernel
theorem dX9_give_69 : decode cX9_give 69 = .ok (.iload_n 1, 1) := by decide +kernel
theorem dX9_give_70 : decode cX9_give 70 = .ok (.iaload, 1) := by decide +kernel
theorem dX9_give_71 : decode cX9_give 71 = .ok (.iconst 2, 1) := by decide +kernel
theorem dX9_give_72 : decode cX9_give 72 = .ok (.iadd, 1) := by decide +kernel
theorem dX9_give_73 : decode cX9_give 73 = .ok (.iconst 2, 1) := by decide +kernel
theorem dX9_give_74 : decode cX9_give 74 = .ok (.aload_n 0, 1) := by decide +kernel
theorem dX9_give_75 : decode cX9_give 75 = .ok (.getfield 18, 3) := by decide +kernel
theorem dX9_give_78 : decode cX9_give 78 = .ok (.iload_n 1, 1) := by decide +kernel
theorem dX9_give_79 : decode cX9_give 79 = .ok (.iaload, 1) := by decide +kernel
theorem dX9_give_80 : decode cX9_give 80 = .ok (.i2l, 1) := by decide +kernel
theorem dX9_give_81 : decode cX9_give 81 = .ok (.invokevirtual 127, 3) := by decide +kernel
theorem dX9_give_84 : decode cX9_give 84 = .ok (.aload_n 0, 1) := by decide +kernel
theorem dX9_give_85 : decode cX9_give 85 = .ok (.getfield 1, 3) := by decide +kernel
theorem dX9_give_88 : decode cX9_give 88 = .ok (.aload_n 0, 1) := by decide +kernel
theorem dX9_give_89 : decode cX9_give 89 = .ok (.getfield 52, 3) := by decide +kernel
theorem dX9_give_92 : decode cX9_give 92 = .ok (.iload_n 1, 1) := by decide +kernel
theorem dX9_give_93 : decode cX9_give 93 = .ok (.iaload, 1) := by decide +kernel
theorem dX9_give_94 : decode cX9_give 94 = .ok (.baload, 1) := by decide +kernel
theorem dX9_give_95 : decode cX9_give 95 = .ok (.iconst 1, 1) := by decide +kernel
theorem dX9_give_96 : decode cX9_give 96 = .ok (.iand, 1) := by decide +kernel
theorem dX9_give_97 : decode cX9_give 97 = .ok (.ifCond .ne 13, 3) := by decide +kernel
theorem dX9_give_100 : decode cX9_give 100 = .ok (.aload_n 0, 1) := by decide +kernel
theorem dX9_give_101 : decode cX9_give 101 = .ok (.getfield 21, 3) := by decide +kernel
theorem dX9_give_104 : decode cX9_give 104 = .ok (.iload_n 1, 1) := by decide +kernel
theorem dX9_give_105 : decode cX9_give 105 = .ok (.dup2, 1) := by decide +kernel
theorem dX9_give_106 : decode cX9_give 106 = .ok (.iaload, 1) := by decide +kernel
theorem dX9_give_107 : decode cX9_give 107 = .ok (.iconst 1, 1) := by decide +kernel
theorem dX9_give_108 : decode cX9_give 108 = .ok (.iadd, 1) := by decide +kernel
theorem dX9_give_109 : decode cX9_give 109 = .ok (.iastore, 1) := by decide +kernel
theorem dX9_give_110 : decode cX9_give 110 = .ok (.return_, 1) := by decide +kernel
theorem dX9_step_0 : decode cX9_step 0 = .ok (.iload_n 1, 1) := by decide +kernel
theorem dX9_step_1 : decode cX9_step 1 = .ok (.ifCond .eq 11, 3) := by decide +kernel
theorem dX9_step_4 : decode cX9_step 4 = .ok (.iload_n 1, 1) := by decide +kernel
theorem dX9_step_5 : decode cX9_step 5 = .ok (.iconst 2, 1) := by decide +kernel
theorem dX9_step_6 : decode cX9_step 6 = .ok (.if_icmp .eq 6, 3) := by decide +kernel
theorem dX9_step_9 : decode cX9_step 9 = .ok (.bipush (-2), 2) := by decide +kernel
theorem dX9_step_11 : decode cX9_step 11 = .ok (.ireturn, 1) := by decide +kernel
theorem dX9_step_12 : decode cX9_step 12 = .ok (.aload_n 0, 1) := by decide +kernel
theorem dX9_step_13 : decode cX9_step 13 = .ok (.getfield 86, 3) := by decide +kernel
theorem dX9_step_16 : decode cX9_step 16 = .ok (.ifCond .ne 6, 3) := by decide +kernel
theorem dX9_step_19 : decode cX9_step 19 = .ok (.bipush (-4), 2) := by decide +kernel
theorem dX9_step_21 : decode cX9_step 21 = .ok (.ireturn, 1) := by decide +kernel
theorem dX9_step_22 : decode cX9_step 22 = .ok (.aload_n 0, 1) := by decide +kernel
theorem dX9_step_23 : decode cX9_step 23 = .ok (.iload_n 1, 1) := by decide +kernel
theorem dX9_step_24 : decode cX9_step 24 = .ok (.invokevirtual 131, 3) := by decide +kernel
theorem dX9_step_27 : decode cX9_step 27 = .ok (.ifCond .ne 18, 3) := by decide +kernel
theorem dX9_step_30 : decode cX9_step 30 = .ok (.aload_n 0, 1) := by decide +kernel
theorem dX9_step_31 : decode cX9_step 31 = .ok (.getfield 86, 3) := by decide +kernel
theorem dX9_step_34 : decode cX9_step 34 = .ok (.iconst 2, 1) := by decide +kernel
theorem dX9_step_35 : decode cX9_step 35 = .ok (.if_icmp .ne 8, 3) := by decide +kernel
theorem dX9_step_38 : decode cX9_step 38 = .ok (.bipush (-5), 2) := by decide +kernel
theorem dX9_step_40 : decode cX9_step 40 = .ok (.goto 4, 3) := by decide +kernel
theorem dX9_step_43 : decode cX9_step 43 = .ok (.iconst 0, 1) := by decide +kernel
theorem dX9_step_44 : decode cX9_step 44 = .ok (.ireturn, 1) := by decide +kernel
theorem dX9_step_45 : decode cX9_step 45 = .ok (.aload_n 0, 1) := by decide +kernel
theorem dX9_step_46 : decode cX9_step 46 = .ok (.iload_n 1, 1) := by decide +kernel
theorem dX9_step_47 : decode cX9_step 47 = .ok (.invokevirtual 135, 3) := by decide +kernel
theorem dX9_step_50 : decode cX9_step 50 = .ok (.ifCond .ne 6, 3) := by decide +kernel
theorem dX9_step_53 : decode cX9_step 53 = .ok (.bipush (-5), 2) := by decide +kernel
theorem dX9_step_55 : decode cX9_step 55 = .ok (.ireturn, 1) := by decide +kernel
theorem dX9_step_56 : decode cX9_step 56 = .ok (.iload_n 1, 1) := by decide +kernel
theorem dX9_step_57 : decode cX9_step 57 = .ok (.ifCond .ne 15, 3) := by decide +kernel
theorem dX9_step_60 : decode cX9_step 60 = .ok (.aload_n 0, 1) := by decide +kernel
theorem dX9_step_61 : decode cX9_step 61 = .ok (.iconst 0, 1) := by decide +kernel
theorem dX9_step_62 : decode cX9_step 62 = .ok (.aload_n 0, 1) := by decide +kernel
theorem dX9_step_63 : decode cX9_step 63 = .ok (.invokevirtual 138, 3) := by decide +kernel
theorem dX9_step_66 : decode cX9_step 66 = .ok (.invokevirtual 142, 3) := by decide +kernel
theorem dX9_step_69 : decode cX9_step 69 = .ok (.goto 13, 3) := by decide +kernel
theorem dX9_step_72 : decode cX9_step 72 = .ok (.aload_n 0, 1) := by decide +kernel
theorem dX9_step_73 : decode cX9_step 73 = .ok (.invokevirtual 146, 3) := by decide +kernel
theorem dX9_step_76 : decode cX9_step 76 = .ok (.aload_n 0, 1) := by decide +kernel
theorem dX9_step_77 : decode cX9_step 77 = .ok (.iconst 2, 1) := by decide +kernel
theorem dX9_step_78 : decode cX9_step 78 = .ok (.iconst 0, 1) := by decide +kernel
theorem dX9_step_79 : decode cX9_step 79 = .ok (.invokevirtual 142, 3) := by decide +kernel
theorem dX9_step_82 : decode cX9_step 82 = .ok (.iconst 1, 1) := by decide +kernel
theorem dX9_step_83 : decode cX9_step 83 = .ok (.ireturn, 1) := by decide +kernel
theorem dX9_doDisk_0 : decode cX9_doDisk 0 = .ok (.aload_n 0, 1) := by decide +kernel
theorem dX9_doDisk_1 : decode cX9_doDisk 1 = .ok (.getfield 98, 3) := by decide +kernel
theorem dX9_doDisk_4 : decode cX9_doDisk 4 = .ok (.bipush 16, 2) := by decide +kernel
theorem dX9_doDisk_6 : decode cX9_doDisk 6 = .ok (.if_icmp .lt 10, 3) := by decide +kernel
theorem dX9_doDisk_9 : decode cX9_doDisk 9 = .ok (.aload_n 0, 1) := by decide +kernel
theorem dX9_doDisk_10 : decode cX9_doDisk 10 = .ok (.getfield 104, 3) := by decide +kernel
theorem dX9_doDisk_13 : decode cX9_doDisk 13 = .ok (.ifCond .ne 5, 3) := by decide +kernel
theorem dX9_doDisk_16 : decode cX9_doDisk 16 = .ok (.iconst 0, 1) := by decide +kernel
theorem dX9_doDisk_17 : decode cX9_doDisk 17 = .ok (.ireturn, 1) := by decide +kernel
theorem dX9_doDisk_18 : decode cX9_doDisk 18 = .ok (.aload_n 0, 1) := by decide +kernel
theorem dX9_doDisk_19 : decode cX9_doDisk 19 = .ok (.iconst 0, 1) := by decide +kernel
theorem dX9_doDisk_20 : decode cX9_doDisk 20 = .ok (.iconst 4, 1) := by decide +kernel
theorem dX9_doDisk_21 : decode cX9_doDisk 21 = .ok (.invokevirtual 149, 3) := by decide +kernel
theorem dX9_doDisk_24 : decode cX9_doDisk 24 = .ok (.lstore_n 1, 1) := by decide +kernel
theorem dX9_doDisk_25 : decode cX9_doDisk 25 = .ok (.aload_n 0, 1) := by decide +kernel
theorem dX9_doDisk_26 : decode cX9_doDisk 26 = .ok (.bipush 8, 2) := by decide +kernel
theorem dX9_doDisk_28 : decode cX9_doDisk 28 = .ok (.bipush 8, 2) := by decide +kernel
theorem dX9_doDisk_30 : decode cX9_doDisk 30 = .ok (.invokevirtual 149, 3) := by decide +kernel
theorem dX9_doDisk_33 : decode cX9_doDisk 33 = .ok (.lstore_n 3, 1) := by decide +kernel
theorem dX9_doDisk_34 : decode cX9_doDisk 34 = .ok (.lload_n 1, 1) := by decide +kernel
theorem dX9_doDisk_35 : decode cX9_doDisk 35 = .ok (.lconst 0, 1) := by decide +kernel
theorem dX9_doDisk_36 : decode cX9_doDisk 36 = .ok (.lcmp, 1) := by decide +kernel
theorem dX9_doDisk_37 : decode cX9_doDisk 37 = .ok (.ifCond .ne 12, 3) := by decide +kernel
theorem dX9_doDisk_40 : decode cX9_doDisk 40 = .ok (.aload_n 0, 1) := by decide +kernel
theorem dX9_doDisk_41 : decode cX9_doDisk 41 = .ok (.getfield 104, 3) := by decide +kernel
theorem dX9_doDisk_44 : decode cX9_doDisk 44 = .ok (.iconst 1, 1) := by decide +kernel
theorem dX9_doDisk_45 : decode cX9_doDisk 45 = .ok (.isub, 1) := by decide +kernel
theorem dX9_doDisk_46 : decode cX9_doDisk 46 = .ok (.goto 10, 3) := by decide +kernel
theorem dX9_doDisk_49 : decode cX9_doDisk 49 = .ok (.aload_n 0, 1) := by decide +kernel
theorem dX9_doDisk_50 : decode cX9_doDisk 50 = .ok (.getfield 98, 3) := by decide +kernel
theorem dX9_doDisk_53 : decode cX9_doDisk 53 = .ok (.bipush 16, 2) := by decide +kernel
theorem dX9_doDisk_55 : decode cX9_doDisk 55 = .ok (.isub, 1) := by decide +kernel
theorem dX9_doDisk_56 : decode cX9_doDisk 56 = .ok (.istore 5, 2) := by decide +kernel
theorem dX9_doDisk_58 : decode cX9_doDisk 58 = .ok (.iload 5, 2) := by decide +kernel
theorem dX9_doDisk_60 : decode cX9_doDisk 60 = .ok (.ifCond .eq 31, 3) := by decide +kernel
theorem dX9_doDisk_63 : decode cX9_doDisk 63 = .ok (.iload 5, 2) := by decide +kernel
theorem dX9_doDisk_65 : decode cX9_doDisk 65 = .ok (.bipush 64, 2) := by decide +kernel
theorem dX9_doDisk_67 : decode cX9_doDisk 67 = .ok (.irem, 1) := by decide +kernel
theorem dX9_doDisk_68 : decode cX9_doDisk 68 = .ok (.ifCond .ne 27, 3) := by decide +kernel
theorem dX9_doDisk_71 : decode cX9_doDisk 71 = .ok (.lload_n 3, 1) := by decide +kernel
theorem dX9_doDisk_72 : decode cX9_doDisk 72 = .ok (.lconst 0, 1) := by decide +kernel
theorem dX9_doDisk_73 : decode cX9_doDisk 73 = .ok (.lcmp, 1) := by decide +kernel
theorem dX9_doDisk_74 : decode cX9_doDisk 74 = .ok (.ifCond .lt 21, 3) := by decide +kernel
theorem dX9_doDisk_77 : decode cX9_doDisk 77 = .ok (.lload_n 3, 1) := by decide +kernel
theorem dX9_doDisk_78 : decode cX9_doDisk 78 = .ok (.bipush 32, 2) := by decide +kernel
theorem dX9_doDisk_80 : decode cX9_doDisk 80 = .ok (.iload 5, 2) := by decide +kernel
theorem dX9_doDisk_82 : decode cX9_doDisk 82 = .ok (.bipush 64, 2) := by decide +kernel
theorem dX9_doDisk_84 : decode cX9_doDisk 84 = .ok (.idiv, 1) := by decide +kernel
theorem dX9_doDisk_85 : decode cX9_doDisk 85 = .ok (.isub, 1) := by decide +kernel
theorem dX9_doDisk_86 : decode cX9_doDisk 86 = .ok (.i2l, 1) := by decide +kernel
theorem dX9_doDisk_87 : decode cX9_doDisk 87 = .ok (.lcmp, 1) := by decide +kernel
theorem dX9_doDisk_88 : decode cX9_doDisk 88 = .ok (.ifCond .gt 7, 3) := by decide +kernel
theorem dX9_doDisk_91 : decode cX9_doDisk 91 = .ok (.iconst 1, 1) := by decide +kernel
theorem dX9_doDisk_92 : decode cX9_doDisk 92 = .ok (.goto 4, 3) := by decide +kernel
theorem dX9_doDisk_95 : decode cX9_doDisk 95 = .ok (.iconst 0, 1) := by decide +kernel
theorem dX9_doDisk_96 : decode cX9_doDisk 96 = .ok (.istore 6, 2) := by decide +kernel
theorem dX9_doDisk_98 : decode cX9_doDisk 98 = .ok (.iconst 0, 1) := by decide +kernel
theorem dX9_doDisk_99 : decode cX9_doDisk 99 = .ok (.istore 7, 2) := by decide +kernel
theorem dX9_doDisk_101 : decode cX9_doDisk 101 = .ok (.iconst 1, 1) := by decide +kernel
theorem dX9_doDisk_102 : decode cX9_doDisk 102 = .ok (.istore 8, 2) := by decide +kernel
theorem dX9_doDisk_104 : decode cX9_doDisk 104 = .ok (.lload_n 1, 1) := by decide +kernel
theorem dX9_doDisk_105 : decode cX9_doDisk 105 = .ok (.lconst 0, 1) := by decide +kernel
theorem dX9_doDisk_106 : decode cX9_doDisk 106 = .ok (.lcmp, 1) := by decide +kernel
theorem dX9_doDisk_107 : decode cX9_doDisk 107 = .ok (.ifCond .ne 58, 3) := by decide +kernel
theorem dX9_doDisk_110 : decode cX9_doDisk 110 = .ok (.iload 6, 2) := by decide +kernel
theorem dX9_doDisk_112 : decode cX9_doDisk 112 = .ok (.ifCond .eq 47, 3) := by decide +kernel
theorem dX9_doDisk_115 : decode cX9_doDisk 115 = .ok (.iconst 0, 1) := by decide +kernel
theorem dX9_doDisk_116 : decode cX9_doDisk 116 = .ok (.istore 9, 2) := by decide +kernel
theorem dX9_doDisk_118 : decode cX9_doDisk 118 = .ok (.iload 9, 2) := by decide +kernel
theorem dX9_doDisk_120 : decode cX9_doDisk 120 = .ok (.iload 5, 2) := by decide +kernel
theorem dX9_doDisk_122 : decode cX9_doDisk 122 = .ok (.if_icmp .ge 28, 3) := by decide +kernel
theorem dX9_doDisk_125 : decode cX9_doDisk 125 = .ok (.aload_n 0, 1) := by decide +kernel
theorem dX9_doDisk_126 : decode cX9_doDisk 126 = .ok (.iload 9, 2) := by decide +kernel
theorem dX9_doDisk_128 : decode cX9_doDisk 128 = .ok (.aload_n 0, 1) := by decide +kernel
theorem dX9_doDisk_129 : decode cX9_doDisk 129 = .ok (.getfield 46, 3) := by decide +kernel
theorem dX9_doDisk_132 : decode cX9_doDisk 132 = .ok (.bipush 64, 2) := by decide +kernel
theorem dX9_doDisk_134 : decode cX9_doDisk 134 = .ok (.lload_n 3, 1) := by decide +kernel
theorem dX9_doDisk_135 : decode cX9_doDisk 135 = .ok (.l2i, 1) := by decide +kernel
theorem dX9_doDisk_136 : decode cX9_doDisk 136 = .ok (.imul, 1) := by decide +kernel
theorem dX9_doDisk_137 : decode cX9_doDisk 137 = .ok (.iload 9, 2) := by decide +kernel
theorem dX9_doDisk_139 : decode cX9_doDisk 139 = .ok (.iadd, 1) := by decide +kernel
theorem dX9_doDisk_140 : decode cX9_doDisk 140 = .ok (.baload, 1) := by decide +kernel
theorem dX9_doDisk_141 : decode cX9_doDisk 141 = .ok (.invokevirtual 152, 3) := by decide +kernel
theorem dX9_doDisk_144 : decode cX9_doDisk 144 = .ok (.iinc 9 1, 3) := by decide +kernel
theorem dX9_doDisk_147 : decode cX9_doDisk 147 = .ok (.goto (-29), 3) := by decide +kernel
theorem dX9_doDisk_150 : decode cX9_doDisk 150 = .ok (.iload 5, 2) := by decide +kernel
theorem dX9_doDisk_152 : decode cX9_doDisk 152 = .ok (.iconst 1, 1) := by decide +kernel
theorem dX9_doDisk_153 : decode cX9_doDisk 153 = .ok (.iadd, 1) := by decide +kernel
theorem dX9_doDisk_154 : decode cX9_doDisk 154 = .ok (.istore 8, 2) := by decide +kernel
theorem dX9_doDisk_156 : decode cX9_doDisk 156 = .ok (.goto 192, 3) := by decide +kernel
theorem dX9_doDisk_159 : decode cX9_doDisk 159 = .ok (.iconst 1, 1) := by decide +kernel
theorem dX9_doDisk_160 : decode cX9_doDisk 160 = .ok (.istore 7, 2) := by decide +kernel
theorem dX9_doDisk_162 : decode cX9_doDisk 162 = .ok (.goto 186, 3) := by decide +kernel
theorem dX9_doDisk_165 : decode cX9_doDisk 165 = .ok (.lload_n 1, 1) := by decide +kernel
theorem dX9_doDisk_166 : decode cX9_doDisk 166 = .ok (.lconst 1, 1) := by decide +kernel
theorem dX9_doDisk_167 : decode cX9_doDisk 167 = .ok (.lcmp, 1) := by decide +kernel
theorem dX9_doDisk_168 : decode cX9_doDisk 168 = .ok (.ifCond .ne 62, 3) := by decide +kernel
theorem dX9_doDisk_171 : decode cX9_doDisk 171 = .ok (.iconst 0, 1) := by decide +kernel
theorem dX9_doDisk_172 : decode cX9_doDisk 172 = .ok (.istore 9, 2) := by decide +kernel
theorem dX9_doDisk_174 : decode cX9_doDisk 174 = .ok (.iload 9, 2) := by decide +kernel
theorem dX9_doDisk_176 : decode cX9_doDisk 176 = .ok (.iload 5, 2) := by decide +kernel
theorem dX9_doDisk_178 : decode cX9_doDisk 178 = .ok (.if_icmp .ge 37, 3) := by decide +kernel
theorem dX9_doDisk_181 : decode cX9_doDisk 181 = .ok (.iload 6, 2) := by decide +kernel
theorem dX9_doDisk_183 : decode cX9_doDisk 183 = .ok (.ifCond .eq 32, 3) := by decide +kernel
theorem dX9_doDisk_186 : decode cX9_doDisk 186 = .ok (.aload_n 0, 1) := by decide +kernel
theorem dX9_doDisk_187 : decode cX9_doDisk 187 = .ok (.getfield 46, 3) := by decide +kernel
theorem dX9_doDisk_190 : decode cX9_doDisk 190 = .ok (.bipush 64, 2) := by decide +kernel
theorem dX9_doDisk_192 : decode cX9_doDisk 192 = .ok (.lload_n 3, 1) := by decide +kernel
theorem dX9_doDisk_193 : decode cX9_doDisk 193 = .ok (.l2i, 1) := by decide +kernel
theorem dX9_doDisk_194 : decode cX9_doDisk 194 = .ok (.imul, 1) := by decide +kernel
theorem dX9_doDisk_195 : decode cX9_doDisk 195 = .ok (.iload 9, 2) := by decide +kernel
theorem dX9_doDisk_197 : decode cX9_doDisk 197 = .ok (.iadd, 1) := by decide +kernel
theorem dX9_doDisk_198 : decode cX9_doDisk 198 = .ok (.aload_n 0, 1) := by decide +kernel
theorem dX9_doDisk_199 : decode cX9_doDisk 199 = .ok (.bipush 16, 2) := by decide +kernel
theorem dX9_doDisk_201 : decode cX9_doDisk 201 = .ok (.iload 9, 2) := by decide +kernel
theorem dX9_doDisk_203 : decode cX9_doDisk 203 = .ok (.iadd, 1) := by decide +kernel
theorem dX9_doDisk_204 : decode cX9_doDisk 204 = .ok (.invokevirtual 123, 3) := by decide +kernel
theorem dX9_doDisk_207 : decode cX9_doDisk 207 = .ok (.i2b, 1) := by decide +kernel
theorem dX9_doDisk_208 : decode cX9_doDisk 208 = .ok (.bastore, 1) := by decide +kernel
theorem dX9_doDisk_209 : decode cX9_doDisk 209 = .ok (.iinc 9 1, 3) := by decide +kernel
theorem dX9_doDisk_212 : decode cX9_doDisk 212 = .ok (.goto (-38), 3) := by decide +kernel
theorem dX9_doDisk_215 : decode cX9_doDisk 215 = .ok (.iload 6, 2) := by decide +kernel
theorem dX9_doDisk_217 : decode cX9_doDisk 217 = .ok (.ifCond .eq 7, 3) := by decide +kernel
theorem dX9_doDisk_220 : decode cX9_doDisk 220 = .ok (.iconst 0, 1) := by decide +kernel
theorem dX9_doDisk_221 : decode cX9_doDisk 221 = .ok (.goto 4, 3) := by decide +kernel
theorem dX9_doDisk_224 : decode cX9_doDisk 224 = .ok (.iconst 1, 1) := by decide +kernel
theorem dX9_doDisk_225 : decode cX9_doDisk 225 = .ok (.istore 7, 2) := by decide +kernel
theorem dX9_doDisk_227 : decode cX9_doDisk 227 = .ok (.goto 121, 3) := by decide +kernel
theorem dX9_doDisk_230 : decode cX9_doDisk 230 = .ok (.lload_n 1, 1) := by decide +kernel
theorem dX9_doDisk_231 : decode cX9_doDisk 231 = .ok (.ldc2_w 155, 3) := by decide +kernel
theorem dX9_doDisk_234 : decode cX9_doDisk 234 = .ok (.lcmp, 1) := by decide +kernel
theorem dX9_doDisk_235 : decode cX9_doDisk 235 = .ok (.ifCond .ne 102, 3) := by decide +kernel
theorem dX9_doDisk_238 : decode cX9_doDisk 238 = .ok (.bipush 20, 2) := by decide +kernel
theorem dX9_doDisk_240 : decode cX9_doDisk 240 = .ok (.aload_n 0, 1) := by decide +kernel
theorem dX9_doDisk_241 : decode cX9_doDisk 241 = .ok (.getfield 104, 3) := by decide +kernel
theorem dX9_doDisk_244 : decode cX9_doDisk 244 = .ok (.iconst 1, 1) := by decide +kernel
theorem dX9_doDisk_245 : decode cX9_doDisk 245 = .ok (.isub, 1) := by decide +kernel
theorem dX9_doDisk_246 : decode cX9_doDisk 246 = .ok (.invokestatic 157, 3) := by decide +kernel
theorem dX9_doDisk_249 : decode cX9_doDisk 249 = .ok (.istore 9, 2) := by decide +kernel
theorem dX9_doDisk_251 : decode cX9_doDisk 251 = .ok (.iconst 0, 1) := by decide +kernel
theorem dX9_doDisk_252 : decode cX9_doDisk 252 = .ok (.istore 10, 2) := by decide +kernel
theorem dX9_doDisk_254 : decode cX9_doDisk 254 = .ok (.iload 10, 2) := by decide +kernel
theorem dX9_doDisk_256 : decode cX9_doDisk 256 = .ok (.iload 9, 2) := by decide +kernel
theorem dX9_doDisk_258 : decode cX9_doDisk 258 = .ok (.if_icmp .ge 70, 3) := by decide +kernel
theorem dX9_doDisk_261 : decode cX9_doDisk 261 = .ok (.aload_n 0, 1) := by decide +kernel
theorem dX9_doDisk_262 : decode cX9_doDisk 262 = .ok (.iload 10, 2) := by decide +kernel
theorem dX9_doDisk_264 : decode cX9_doDisk 264 = .ok (.iload 10, 2) := by decide +kernel
theorem dX9_doDisk_266 : decode cX9_doDisk 266 = .ok (.ifCond .ne 8, 3) := by decide +kernel
theorem dX9_doDisk_269 : decode cX9_doDisk 269 = .ok (.bipush 114, 2) := by decide +kernel
theorem dX9_doDisk_271 : decode cX9_doDisk 271 = .ok (.goto 48, 3) := by decide +kernel
theorem dX9_doDisk_274 : decode cX9_doDisk 274 = .ok (.iload 10, 2) := by decide +kernel
theorem dX9_doDisk_276 : decode cX9_doDisk 276 = .ok (.iconst 1, 1) := by decide +kernel
theorem dX9_doDisk_277 : decode cX9_doDisk 277 = .ok (.if_icmp .ne 8, 3) := by decide +kernel
theorem dX9_doDisk_280 : decode cX9_doDisk 280 = .ok (.bipush 105, 2) := by decide +kernel
theorem dX9_doDisk_282 : decode cX9_doDisk 282 = .ok (.goto 37, 3) := by decide +kernel
theorem dX9_doDisk_285 : decode cX9_doDisk 285 = .ok (.iload 10, 2) := by decide +kernel
theorem dX9_doDisk_287 : decode cX9_doDisk 287 = .ok (.iconst 2, 1) := by decide +kernel
theorem dX9_doDisk_288 : decode cX9_doDisk 288 = .ok (.if_icmp .ne 8, 3) := by decide +kernel
theorem dX9_doDisk_291 : decode cX9_doDisk 291 = .ok (.bipush 110, 2) := by decide +kernel
theorem dX9_doDisk_293 : decode cX9_doDisk 293 = .ok (.goto 26, 3) := by decide +kernel
theorem dX9_doDisk_296 : decode cX9_doDisk 296 = .ok (.iload 10, 2) := by decide +kernel
theorem dX9_doDisk_298 : decode cX9_doDisk 298 = .ok (.iconst 3, 1) := by decide +kernel
theorem dX9_doDisk_299 : decode cX9_doDisk 299 = .ok (.if_icmp .ne 8, 3) := by decide +kernel
theorem dX9_doDisk_302 : decode cX9_doDisk 302 = .ok (.bipush 103, 2) := by decide +kernel
theorem dX9_doDisk_304 : decode cX9_doDisk 304 = .ok (.goto 15, 3) := by decide +kernel
theorem dX9_doDisk_307 : decode cX9_doDisk 307 = .ok (.iload 10, 2) := by decide +kernel
theorem dX9_doDisk_309 : decode cX9_doDisk 309 = .ok (.iconst 4, 1) := by decide +kernel
theorem dX9_doDisk_310 : decode cX9_doDisk 310 = .ok (.if_icmp .ne 8, 3) := by decide +kernel
theorem dX9_doDisk_313 : decode cX9_doDisk 313 = .ok (.bipush 115, 2) := by decide +kernel
theorem dX9_doDisk_315 : decode cX9_doDisk 315 = .ok (.goto 4, 3) := by decide +kernel
theorem dX9_doDisk_318 : decode cX9_doDisk 318 = .ok (.iconst 0, 1) := by decide +kernel
theorem dX9_doDisk_319 : decode cX9_doDisk 319 = .ok (.invokevirtual 152, 3) := by decide +kernel
theorem dX9_doDisk_322 : decode cX9_doDisk 322 = .ok (.iinc 10 1, 3) := by decide +kernel
theorem dX9_doDisk_325 : decode cX9_doDisk 325 = .ok (.goto (-71), 3) := by decide +kernel
theorem dX9_doDisk_328 : decode cX9_doDisk 328 = .ok (.iload 9, 2) := by decide +kernel
theorem dX9_doDisk_330 : decode cX9_doDisk 330 = .ok (.iconst 1, 1) := by decide +kernel
theorem dX9_doDisk_331 : decode cX9_doDisk 331 = .ok (.iadd, 1) := by decide +kernel
theorem dX9_doDisk_332 : decode cX9_doDisk 332 = .ok (.istore 8, 2) := by decide +kernel
theorem dX9_doDisk_334 : decode cX9_doDisk 334 = .ok (.goto 14, 3) := by decide +kernel
theorem dX9_doDisk_337 : decode cX9_doDisk 337 = .ok (.lload_n 1, 1) := by decide +kernel
theorem dX9_doDisk_338 : decode cX9_doDisk 338 = .ok (.ldc2_w 163, 3) := by decide +kernel
theorem dX9_doDisk_341 : decode cX9_doDisk 341 = .ok (.lcmp, 1) := by decide +kernel
theorem dX9_doDisk_342 : decode cX9_doDisk 342 = .ok (.ifCond .eq 6, 3) := by decide +kernel
theorem dX9_doDisk_345 : decode cX9_doDisk 345 = .ok (.iconst 2, 1) := by decide +kernel
theorem dX9_doDisk_346 : decode cX9_doDisk 346 = .ok (.istore 7, 2) := by decide +kernel
theorem dX9_doDisk_348 : decode cX9_doDisk 348 = .ok (.aload_n 0, 1) := by decide +kernel
theorem dX9_doDisk_349 : decode cX9_doDisk 349 = .ok (.aload_n 0, 1) := by decide +kernel
theorem dX9_doDisk_350 : decode cX9_doDisk 350 = .ok (.getfield 104, 3) := by decide +kernel
theorem dX9_doDisk_353 : decode cX9_doDisk 353 = .ok (.iconst 1, 1) := by decide +kernel
theorem dX9_doDisk_354 : decode cX9_doDisk 354 = .ok (.isub, 1) := by decide +kernel
theorem dX9_doDisk_355 : decode cX9_doDisk 355 = .ok (.iload 7, 2) := by decide +kernel
theorem dX9_doDisk_357 : decode cX9_doDisk 357 = .ok (.invokevirtual 152, 3) := by decide +kernel
theorem dX9_doDisk_360 : decode cX9_doDisk 360 = .ok (.iload 8, 2) := by decide +kernel
theorem dX9_doDisk_362 : decode cX9_doDisk 362 = .ok (.ireturn, 1) := by decide +kernel
theorem dX9_doWire_0 : decode cX9_doWire 0 = .ok (.aload_n 0, 1) := by decide +kernel
theorem dX9_doWire_1 : decode cX9_doWire 1 = .ok (.getfield 98, 3) := by decide +kernel
theorem dX9_doWire_4 : decode cX9_doWire 4 = .ok (.bipush 12, 2) := by decide +kernel
theorem dX9_doWire_6 : decode cX9_doWire 6 = .ok (.isub, 1) := by decide +kernel
theorem dX9_doWire_7 : decode cX9_doWire 7 = .ok (.istore_n 1, 1) := by decide +kernel
theorem dX9_doWire_8 : decode cX9_doWire 8 = .ok (.iload_n 1, 1) := by decide +kernel
theorem dX9_doWire_9 : decode cX9_doWire 9 = .ok (.iconst 1, 1) := by decide +kernel
theorem dX9_doWire_10 : decode cX9_doWire 10 = .ok (.bipush 80, 2) := by decide +kernel
theorem dX9_doWire_12 : decode cX9_doWire 12 = .ok (.invokestatic 7, 3) := by decide +kernel
theorem dX9_doWire_15 : decode cX9_doWire 15 = .ok (.ifCond .ne 4, 3) := by decide +kernel
theorem dX9_doWire_18 : decode cX9_doWire 18 = .ok (.return_, 1) := by decide +kernel
theorem dX9_doWire_19 : decode cX9_doWire 19 = .ok (.aload_n 0, 1) := by decide +kernel
theorem dX9_doWire_20 : decode cX9_doWire 20 = .ok (.getfield 165, 3) := by decide +kernel
theorem dX9_doWire_23 : decode cX9_doWire 23 = .ok (.bipush 16, 2) := by decide +kernel
theorem dX9_doWire_25 : decode cX9_doWire 25 = .ok (.irem, 1) := by decide +kernel
theorem dX9_doWire_26 : decode cX9_doWire 26 = .ok (.istore_n 2, 1) := by decide +kernel
theorem dX9_doWire_27 : decode cX9_doWire 27 = .ok (.iconst 0, 1) := by decide +kernel
theorem dX9_doWire_28 : decode cX9_doWire 28 = .ok (.istore_n 3, 1) := by decide +kernel
theorem dX9_doWire_29 : decode cX9_doWire 29 = .ok (.iload_n 3, 1) := by decide +kernel
theorem dX9_doWire_30 : decode cX9_doWire 30 = .ok (.iload_n 1, 1) := by decide +kernel
theorem dX9_doWire_31 : decode cX9_doWire 31 = .ok (.if_icmp .ge 29, 3) := by decide +kernel
theorem dX9_doWire_34 : decode cX9_doWire 34 = .ok (.aload_n 0, 1) := by decide +kernel
theorem dX9_doWire_35 : decode cX9_doWire 35 = .ok (.getfield 70, 3) := by decide +kernel
theorem dX9_doWire_38 : decode cX9_doWire 38 = .ok (.bipush 80, 2) := by decide +kernel
theorem dX9_doWire_40 : decode cX9_doWire 40 = .ok (.iload_n 2, 1) := by decide +kernel
theorem dX9_doWire_41 : decode cX9_doWire 41 = .ok (.imul, 1) := by decide +kernel
theorem dX9_doWire_42 : decode cX9_doWire 42 = .ok (.iload_n 3, 1) := by decide +kernel
theorem dX9_doWire_43 : decode cX9_doWire 43 = .ok (.iadd, 1) := by decide +kernel
theorem dX9_doWire_44 : decode cX9_doWire 44 = .ok (.aload_n 0, 1) := by decide +kernel
theorem dX9_doWire_45 : decode cX9_doWire 45 = .ok (.bipush 12, 2) := by decide +kernel
theorem dX9_doWire_47 : decode cX9_doWire 47 = .ok (.iload_n 3, 1) := by decide +kernel
theorem dX9_doWire_48 : decode cX9_doWire 48 = .ok (.iadd, 1) := by decide +kernel
theorem dX9_doWire_49 : decode cX9_doWire 49 = .ok (.invokevirtual 123, 3) := by decide +kernel
theorem dX9_doWire_52 : decode cX9_doWire 52 = .ok (.i2b, 1) := by decide +kernel
theorem dX9_doWire_53 : decode cX9_doWire 53 = .ok (.bastore, 1) := by decide +kernel
theorem dX9_doWire_54 : decode cX9_doWire 54 = .ok (.iinc 3 1, 3) := by decide +kernel
theorem dX9_doWire_57 : decode cX9_doWire 57 = .ok (.goto (-28), 3) := by decide +kernel
theorem dX9_doWire_60 : decode cX9_doWire 60 = .ok (.aload_n 0, 1) := by decide +kernel
theorem dX9_doWire_61 : decode cX9_doWire 61 = .ok (.getfield 73, 3) := by decide +kernel
theorem dX9_doWire_64 : decode cX9_doWire 64 = .ok (.iload_n 2, 1) := by decide +kernel
theorem dX9_doWire_65 : decode cX9_doWire 65 = .ok (.iload_n 1, 1) := by decide +kernel
theorem dX9_doWire_66 : decode cX9_doWire 66 = .ok (.iastore, 1) := by decide +kernel
theorem dX9_doWire_67 : decode cX9_doWire 67 = .ok (.aload_n 0, 1) := by decide +kernel
theorem dX9_doWire_68 : decode cX9_doWire 68 = .ok (.dup, 1) := by decide +kernel
theorem dX9_doWire_69 : decode cX9_doWire 69 = .ok (.getfield 165, 3) := by decide +kernel
theorem dX9_doWire_72 : decode cX9_doWire 72 = .ok (.iconst 1, 1) := by decide +kernel
theorem dX9_doWire_73 : decode cX9_doWire 73 = .ok (.iadd, 1) := by decide +kernel
theorem dX9_doWire_74 : decode cX9_doWire 74 = .ok (.putfield 165, 3) := by decide +kernel
theorem dX9_doWire_77 : decode cX9_doWire 77 = .ok (.return_, 1) := by decide +kernel
theorem dX9_frameByte_0 : decode cX9_frameByte 0 = .ok (.lload_n 0, 1) := by decide +kernel
theorem dX9_frameByte_1 : decode cX9_frameByte 1 = .ok (.bipush 8, 2) := by decide +kernel
theorem dX9_frameByte_3 : decode cX9_frameByte 3 = .ok (.iload_n 2, 1) := by decide +kernel
theorem dX9_frameByte_4 : decode cX9_frameByte 4 = .ok (.bipush 8, 2) := by decide +kernel
theorem dX9_frameByte_6 : decode cX9_frameByte 6 = .ok (.irem, 1) := by decide +kernel
theorem dX9_frameByte_7 : decode cX9_frameByte 7 = .ok (.imul, 1) := by decide +kernel
theorem dX9_frameByte_8 : decode cX9_frameByte 8 = .ok (.lshr, 1) := by decide +kernel
theorem dX9_frameByte_9 : decode cX9_frameByte 9 = .ok (.ldc2_w 168, 3) := by decide +kernel
theorem dX9_frameByte_12 : decode cX9_frameByte 12 = .ok (.land, 1) := by decide +kernel
theorem dX9_frameByte_13 : decode cX9_frameByte 13 = .ok (.l2i, 1) := by decide +kernel
theorem dX9_frameByte_14 : decode cX9_frameByte 14 = .ok (.iload_n 2, 1) := by decide +kernel
theorem dX9_frameByte_15 : decode cX9_frameByte 15 = .ok (.iadd, 1) := by decide +kernel
theorem dX9_frameByte_16 : decode cX9_frameByte 16 = .ok (.sipush 255, 3) := by decide +kernel
theorem dX9_frameByte_19 : decode cX9_frameByte 19 = .ok (.iand, 1) := by decide +kernel
theorem dX9_frameByte_20 : decode cX9_frameByte 20 = .ok (.ireturn, 1) := by decide +kernel
theorem dX9_arrive_0 : decode cX9_arrive 0 = .ok (.iload_n 1, 1) := by decide +kernel
theorem dX9_arrive_1 : decode cX9_arrive 1 = .ok (.iconst 1, 1) := by decide +kernel
theorem dX9_arrive_2 : decode cX9_arrive 2 = .ok (.bipush 80, 2) := by decide +kernel
theorem dX9_arrive_4 : decode cX9_arrive 4 = .ok (.invokestatic 7, 3) := by decide +kernel
theorem dX9_arrive_7 : decode cX9_arrive 7 = .ok (.ifCond .ne 6, 3) := by decide +kernel
theorem dX9_arrive_10 : decode cX9_arrive 10 = .ok (.bipush (-2), 2) := by decide +kernel
theorem dX9_arrive_12 : decode cX9_arrive 12 = .ok (.ireturn, 1) := by decide +kernel
theorem dX9_arrive_13 : decode cX9_arrive 13 = .ok (.aload_n 0, 1) := by decide +kernel
theorem dX9_arrive_14 : decode cX9_arrive 14 = .ok (.getfield 86, 3) := by decide +kernel
theorem dX9_arrive_17 : decode cX9_arrive 17 = .ok (.ifCond .ne 6, 3) := by decide +kernel
theorem dX9_arrive_20 : decode cX9_arrive 20 = .ok (.bipush (-4), 2) := by decide +kernel
theorem dX9_arrive_22 : decode cX9_arrive 22 = .ok (.ireturn, 1) := by decide +kernel
theorem dX9_arrive_23 : decode cX9_arrive 23 = .ok (.aload_n 0, 1) := by decide +kernel
theorem dX9_arrive_24 : decode cX9_arrive 24 = .ok (.iconst 1, 1) := by decide +kernel
theorem dX9_arrive_25 : decode cX9_arrive 25 = .ok (.invokevirtual 131, 3) := by decide +kernel
theorem dX9_arrive_28 : decode cX9_arrive 28 = .ok (.istore 4, 2) := by decide +kernel
theorem dX9_arrive_30 : decode cX9_arrive 30 = .ok (.aload_n 0, 1) := by decide +kernel
theorem dX9_arrive_31 : decode cX9_arrive 31 = .ok (.getfield 86, 3) := by decide +kernel
theorem dX9_arrive_34 : decode cX9_arrive 34 = .ok (.iconst 2, 1) := by decide +kernel
theorem dX9_arrive_35 : decode cX9_arrive 35 = .ok (.if_icmp .ne 6, 3) := by decide +kernel
theorem dX9_arrive_38 : decode cX9_arrive 38 = .ok (.bipush (-5), 2) := by decide +kernel
theorem dX9_arrive_40 : decode cX9_arrive 40 = .ok (.ireturn, 1) := by decide +kernel
theorem dX9_arrive_41 : decode cX9_arrive 41 = .ok (.iload 4, 2) := by decide +kernel
theorem dX9_arrive_43 : decode cX9_arrive 43 = .ok (.ifCond .ne 15, 3) := by decide +kernel
theorem dX9_arrive_46 : decode cX9_arrive 46 = .ok (.aload_n 0, 1) := by decide +kernel
theorem dX9_arrive_47 : decode cX9_arrive 47 = .ok (.dup, 1) := by decide +kernel
theorem dX9_arrive_48 : decode cX9_arrive 48 = .ok (.getfield 170, 3) := by decide +kernel
theorem dX9_arrive_51 : decode cX9_arrive 51 = .ok (.iconst 1, 1) := by decide +kernel
theorem dX9_arrive_52 : decode cX9_arrive 52 = .ok (.iadd, 1) := by decide +kernel
theorem dX9_arrive_53 : decode cX9_arrive 53 = .ok (.putfield 170, 3) := by decide +kernel
theorem dX9_arrive_56 : decode cX9_arrive 56 = .ok (.iconst 0, 1) := by decide +kernel
theorem dX9_arrive_57 : decode cX9_arrive 57 = .ok (.ireturn, 1) := by decide +kernel
theorem dX9_arrive_58 : decode cX9_arrive 58 = .ok (.aload_n 0, 1) := by decide +kernel
theorem dX9_arrive_59 : decode cX9_arrive 59 = .ok (.iconst 1, 1) := by decide +kernel
theorem dX9_arrive_60 : decode cX9_arrive 60 = .ok (.invokevirtual 135, 3) := by decide +kernel
theorem dX9_arrive_63 : decode cX9_arrive 63 = .ok (.ifCond .ne 6, 3) := by decide +kernel
theorem dX9_arrive_66 : decode cX9_arrive 66 = .ok (.bipush (-5), 2) := by decide +kernel
theorem dX9_arrive_68 : decode cX9_arrive 68 = .ok (.ireturn, 1) := by decide +kernel
theorem dX9_arrive_69 : decode cX9_arrive 69 = .ok (.aload_n 0, 1) := by decide +kernel
theorem dX9_arrive_70 : decode cX9_arrive 70 = .ok (.getfield 98, 3) := by decide +kernel
theorem dX9_arrive_73 : decode cX9_arrive 73 = .ok (.ifCond .gt 14, 3) := by decide +kernel
theorem dX9_arrive_76 : decode cX9_arrive 76 = .ok (.aload_n 0, 1) := by decide +kernel
theorem dX9_arrive_77 : decode cX9_arrive 77 = .ok (.getfield 104, 3) := by decide +kernel
theorem dX9_arrive_80 : decode cX9_arrive 80 = .ok (.bipush 12, 2) := by decide +kernel
theorem dX9_arrive_82 : decode cX9_arrive 82 = .ok (.iload_n 1, 1) := by decide +kernel
theorem dX9_arrive_83 : decode cX9_arrive 83 = .ok (.iadd, 1) := by decide +kernel
theorem dX9_arrive_84 : decode cX9_arrive 84 = .ok (.if_icmp .ge 21, 3) := by decide +kernel
theorem dX9_arrive_87 : decode cX9_arrive 87 = .ok (.aload_n 0, 1) := by decide +kernel
theorem dX9_arrive_88 : decode cX9_arrive 88 = .ok (.iconst 1, 1) := by decide +kernel
theorem dX9_arrive_89 : decode cX9_arrive 89 = .ok (.iconst 0, 1) := by decide +kernel
theorem dX9_arrive_90 : decode cX9_arrive 90 = .ok (.invokevirtual 142, 3) := by decide +kernel
theorem dX9_arrive_93 : decode cX9_arrive 93 = .ok (.aload_n 0, 1) := by decide +kernel
theorem dX9_arrive_94 : decode cX9_arrive 94 = .ok (.dup, 1) := by decide +kernel
theorem dX9_arrive_95 : decode cX9_arrive 95 = .ok (.getfield 170, 3) := by decide +kernel
theorem dX9_arrive_98 : decode cX9_arrive 98 = .ok (.iconst 1, 1) := by decide +kernel
theorem dX9_arrive_99 : decode cX9_arrive 99 = .ok (.iadd, 1) := by decide +kernel
theorem dX9_arrive_100 : decode cX9_arrive 100 = .ok (.putfield 170, 3) := by decide +kernel
theorem dX9_arrive_103 : decode cX9_arrive 103 = .ok (.iconst 0, 1) := by decide +kernel
theorem dX9_arrive_104 : decode cX9_arrive 104 = .ok (.ireturn, 1) := by decide +kernel
theorem dX9_arrive_105 : decode cX9_arrive 105 = .ok (.iconst 0, 1) := by decide +kernel
theorem dX9_arrive_106 : decode cX9_arrive 106 = .ok (.istore 5, 2) := by decide +kernel
theorem dX9_arrive_108 : decode cX9_arrive 108 = .ok (.iload 5, 2) := by decide +kernel
theorem dX9_arrive_110 : decode cX9_arrive 110 = .ok (.bipush 12, 2) := by decide +kernel
theorem dX9_arrive_112 : decode cX9_arrive 112 = .ok (.iload_n 1, 1) := by decide +kernel
theorem dX9_arrive_113 : decode cX9_arrive 113 = .ok (.iadd, 1) := by decide +kernel
theorem dX9_arrive_114 : decode cX9_arrive 114 = .ok (.if_icmp .ge 35, 3) := by decide +kernel
theorem dX9_arrive_117 : decode cX9_arrive 117 = .ok (.aload_n 0, 1) := by decide +kernel
theorem dX9_arrive_118 : decode cX9_arrive 118 = .ok (.iload 5, 2) := by decide +kernel
theorem dX9_arrive_120 : decode cX9_arrive 120 = .ok (.iload 5, 2) := by decide +kernel
theorem dX9_arrive_122 : decode cX9_arrive 122 = .ok (.bipush 12, 2) := by decide +kernel
theorem dX9_arrive_124 : decode cX9_arrive 124 = .ok (.if_icmp .ge 7, 3) := by decide +kernel
theorem dX9_arrive_127 : decode cX9_arrive 127 = .ok (.iconst 0, 1) := by decide +kernel
theorem dX9_arrive_128 : decode cX9_arrive 128 = .ok (.goto 12, 3) := by decide +kernel
theorem dX9_arrive_131 : decode cX9_arrive 131 = .ok (.lload_n 2, 1) := by decide +kernel
theorem dX9_arrive_132 : decode cX9_arrive 132 = .ok (.iload 5, 2) := by decide +kernel
theorem dX9_arrive_134 : decode cX9_arrive 134 = .ok (.bipush 12, 2) := by decide +kernel
theorem dX9_arrive_136 : decode cX9_arrive 136 = .ok (.isub, 1) := by decide +kernel
theorem dX9_arrive_137 : decode cX9_arrive 137 = .ok (.invokestatic 173, 3) := by decide +kernel
theorem dX9_arrive_140 : decode cX9_arrive 140 = .ok (.invokevirtual 152, 3) := by decide +kernel
theorem dX9_arrive_143 : decode cX9_arrive 143 = .ok (.iinc 5 1, 3) := by decide +kernel
theorem dX9_arrive_146 : decode cX9_arrive 146 = .ok (.goto (-38), 3) := by decide +kernel
theorem dX9_arrive_149 : decode cX9_arrive 149 = .ok (.aload_n 0, 1) := by decide +kernel
theorem dX9_arrive_150 : decode cX9_arrive 150 = .ok (.iconst 1, 1) := by decide +kernel
theorem dX9_arrive_151 : decode cX9_arrive 151 = .ok (.bipush 12, 2) := by decide +kernel
theorem dX9_arrive_153 : decode cX9_arrive 153 = .ok (.iload_n 1, 1) := by decide +kernel
theorem dX9_arrive_154 : decode cX9_arrive 154 = .ok (.iadd, 1) := by decide +kernel
theorem dX9_arrive_155 : decode cX9_arrive 155 = .ok (.invokevirtual 142, 3) := by decide +kernel
theorem dX9_arrive_158 : decode cX9_arrive 158 = .ok (.aload_n 0, 1) := by decide +kernel
theorem dX9_arrive_159 : decode cX9_arrive 159 = .ok (.dup, 1) := by decide +kernel
theorem dX9_arrive_160 : decode cX9_arrive 160 = .ok (.getfield 177, 3) := by decide +kernel
theorem dX9_arrive_163 : decode cX9_arrive 163 = .ok (.iconst 1, 1) := by decide +kernel
theorem dX9_arrive_164 : decode cX9_arrive 164 = .ok (.iadd, 1) := by decide +kernel
theorem dX9_arrive_165 : decode cX9_arrive 165 = .ok (.putfield 177, 3) := by decide +kernel
theorem dX9_arrive_168 : decode cX9_arrive 168 = .ok (.iconst 1, 1) := by decide +kernel
theorem dX9_arrive_169 : decode cX9_arrive 169 = .ok (.ireturn, 1) := by decide +kernel
theorem dX9_freeOnes_0 : decode cX9_freeOnes 0 = .ok (.iconst 0, 1) := by decide +kernel
theorem dX9_freeOnes_1 : decode cX9_freeOnes 1 = .ok (.istore_n 2, 1) := by decide +kernel
theorem dX9_freeOnes_2 : decode cX9_freeOnes 2 = .ok (.iconst 0, 1) := by decide +kernel
theorem dX9_freeOnes_3 : decode cX9_freeOnes 3 = .ok (.istore_n 3, 1) := by decide +kernel
theorem dX9_freeOnes_4 : decode cX9_freeOnes 4 = .ok (.iload_n 3, 1) := by decide +kernel
theorem dX9_freeOnes_5 : decode cX9_freeOnes 5 = .ok (.bipush 8, 2) := by decide +kernel
theorem dX9_freeOnes_7 : decode cX9_freeOnes 7 = .ok (.if_icmp .ge 31, 3) := by decide +kernel
theorem dX9_freeOnes_10 : decode cX9_freeOnes 10 = .ok (.aload_n 0, 1) := by decide +kernel
theorem dX9_freeOnes_11 : decode cX9_freeOnes 11 = .ok (.getfield 33, 3) := by decide +kernel
theorem dX9_freeOnes_14 : decode cX9_freeOnes 14 = .ok (.bipush 8, 2) := by decide +kernel
theorem dX9_freeOnes_16 : decode cX9_freeOnes 16 = .ok (.iload_n 1, 1) := by decide +kernel
theorem dX9_freeOnes_17 : decode cX9_freeOnes 17 = .ok (.imul, 1) := by decide +kernel
theorem dX9_freeOnes_18 : decode cX9_freeOnes 18 = .ok (.iload_n 3, 1) := by decide +kernel
theorem dX9_freeOnes_19 : decode cX9_freeOnes 19 = .ok (.iadd, 1) := by decide +kernel
theorem dX9_freeOnes_20 : decode cX9_freeOnes 20 = .ok (.baload, 1) := by decide +kernel
theorem dX9_freeOnes_21 : decode cX9_freeOnes 21 = .ok (.ifCond .eq 7, 3) := by decide +kernel
theorem dX9_freeOnes_24 : decode cX9_freeOnes 24 = .ok (.iload_n 2, 1) := by decide +kernel
theorem dX9_freeOnes_25 : decode cX9_freeOnes 25 = .ok (.goto 6, 3) := by decide +kernel
theorem dX9_freeOnes_28 : decode cX9_freeOnes 28 = .ok (.iload_n 2, 1) := by decide +kernel
theorem dX9_freeOnes_29 : decode cX9_freeOnes 29 = .ok (.iconst 1, 1) := by decide +kernel
theorem dX9_freeOnes_30 : decode cX9_freeOnes 30 = .ok (.iadd, 1) := by decide +kernel
theorem dX9_freeOnes_31 : decode cX9_freeOnes 31 = .ok (.istore_n 2, 1) := by decide +kernel
theorem dX9_freeOnes_32 : decode cX9_freeOnes 32 = .ok (.iinc 3 1, 3) := by decide +kernel
theorem dX9_freeOnes_35 : decode cX9_freeOnes 35 = .ok (.goto (-31), 3) := by decide +kernel
theorem dX9_freeOnes_38 : decode cX9_freeOnes 38 = .ok (.iload_n 2, 1) := by decide +kernel
theorem dX9_freeOnes_39 : decode cX9_freeOnes 39 = .ok (.ireturn, 1) := by decide +kernel
theorem dX9_lend_0 : decode cX9_lend 0 = .ok (.iconst 0, 1) := by decide +kernel
theorem dX9_lend_1 : decode cX9_lend 1 = .ok (.istore_n 3, 1) := by decide +kernel
theorem dX9_lend_2 : decode cX9_lend 2 = .ok (.aload_n 0, 1) := by decide +kernel
theorem dX9_lend_3 : decode cX9_lend 3 = .ok (.getfield 33, 3) := by decide +kernel
theorem dX9_lend_6 : decode cX9_lend 6 = .ok (.bipush 8, 2) := by decide +kernel
theorem dX9_lend_8 : decode cX9_lend 8 = .ok (.iload_n 1, 1) := by decide +kernel
theorem dX9_lend_9 : decode cX9_lend 9 = .ok (.imul, 1) := by decide +kernel
theorem dX9_lend_10 : decode cX9_lend 10 = .ok (.iload_n 3, 1) := by decide +kernel
theorem dX9_lend_11 : decode cX9_lend 11 = .ok (.iadd, 1) := by decide +kernel
theorem dX9_lend_12 : decode cX9_lend 12 = .ok (.baload, 1) := by decide +kernel
theorem dX9_lend_13 : decode cX9_lend 13 = .ok (.ifCond .eq 9, 3) := by decide +kernel
theorem dX9_lend_16 : decode cX9_lend 16 = .ok (.iinc 3 1, 3) := by decide +kernel
theorem dX9_lend_19 : decode cX9_lend 19 = .ok (.goto (-17), 3) := by decide +kernel
theorem dX9_lend_22 : decode cX9_lend 22 = .ok (.aload_n 0, 1) := by decide +kernel
theorem dX9_lend_23 : decode cX9_lend 23 = .ok (.getfield 33, 3) := by decide +kernel
theorem dX9_lend_26 : decode cX9_lend 26 = .ok (.bipush 8, 2) := by decide +kernel
theorem dX9_lend_28 : decode cX9_lend 28 = .ok (.iload_n 1, 1) := by decide +kernel
theorem dX9_lend_29 : decode cX9_lend 29 = .ok (.imul, 1) := by decide +kernel
theorem dX9_lend_30 : decode cX9_lend 30 = .ok (.iload_n 3, 1) := by decide +kernel
theorem dX9_lend_31 : decode cX9_lend 31 = .ok (.iadd, 1) := by decide +kernel
theorem dX9_lend_32 : decode cX9_lend 32 = .ok (.iconst 1, 1) := by decide +kernel
theorem dX9_lend_33 : decode cX9_lend 33 = .ok (.bastore, 1) := by decide +kernel
theorem dX9_lend_34 : decode cX9_lend 34 = .ok (.aload_n 0, 1) := by decide +kernel
theorem dX9_lend_35 : decode cX9_lend 35 = .ok (.getfield 37, 3) := by decide +kernel
theorem dX9_lend_38 : decode cX9_lend 38 = .ok (.bipush 8, 2) := by decide +kernel
theorem dX9_lend_40 : decode cX9_lend 40 = .ok (.iload_n 1, 1) := by decide +kernel
theorem dX9_lend_41 : decode cX9_lend 41 = .ok (.imul, 1) := by decide +kernel
theorem dX9_lend_42 : decode cX9_lend 42 = .ok (.iload_n 3, 1) := by decide +kernel
theorem dX9_lend_43 : decode cX9_lend 43 = .ok (.iadd, 1) := by decide +kernel
theorem dX9_lend_44 : decode cX9_lend 44 = .ok (.iload_n 2, 1) := by decide +kernel
theorem dX9_lend_45 : decode cX9_lend 45 = .ok (.ifCond .ge 7, 3) := by decide +kernel
theorem dX9_lend_48 : decode cX9_lend 48 = .ok (.iload_n 3, 1) := by decide +kernel
theorem dX9_lend_49 : decode cX9_lend 49 = .ok (.goto 4, 3) := by decide +kernel
theorem dX9_lend_52 : decode cX9_lend 52 = .ok (.iload_n 2, 1) := by decide +kernel
theorem dX9_lend_53 : decode cX9_lend 53 = .ok (.iastore, 1) := by decide +kernel
theorem dX9_lend_54 : decode cX9_lend 54 = .ok (.iload_n 3, 1) := by decide +kernel
theorem dX9_lend_55 : decode cX9_lend 55 = .ok (.ireturn, 1) := by decide +kernel
theorem dX9_describe_0 : decode cX9_describe 0 = .ok (.aload_n 0, 1) := by decide +kernel
theorem dX9_describe_1 : decode cX9_describe 1 = .ok (.iload_n 1, 1) := by decide +kernel
theorem dX9_describe_2 : decode cX9_describe 2 = .ok (.bipush 8, 2) := by decide +kernel
theorem dX9_describe_4 : decode cX9_describe 4 = .ok (.iload_n 2, 1) := by decide +kernel
theorem dX9_describe_5 : decode cX9_describe 5 = .ok (.i2l, 1) := by decide +kernel
theorem dX9_describe_6 : decode cX9_describe 6 = .ok (.invokevirtual 127, 3) := by decide +kernel
theorem dX9_describe_9 : decode cX9_describe 9 = .ok (.aload_n 0, 1) := by decide +kernel
theorem dX9_describe_10 : decode cX9_describe 10 = .ok (.iload_n 1, 1) := by decide +kernel
theorem dX9_describe_11 : decode cX9_describe 11 = .ok (.bipush 8, 2) := by decide +kernel
theorem dX9_describe_13 : decode cX9_describe 13 = .ok (.iadd, 1) := by decide +kernel
theorem dX9_describe_14 : decode cX9_describe 14 = .ok (.iconst 4, 1) := by decide +kernel
theorem dX9_describe_15 : decode cX9_describe 15 = .ok (.iload_n 3, 1) := by decide +kernel
theorem dX9_describe_16 : decode cX9_describe 16 = .ok (.i2l, 1) := by decide +kernel
theorem dX9_describe_17 : decode cX9_describe 17 = .ok (.invokevirtual 127, 3) := by decide +kernel
theorem dX9_describe_20 : decode cX9_describe 20 = .ok (.aload_n 0, 1) := by decide +kernel
theorem dX9_describe_21 : decode cX9_describe 21 = .ok (.iload_n 1, 1) := by decide +kernel
theorem dX9_describe_22 : decode cX9_describe 22 = .ok (.bipush 12, 2) := by decide +kernel
theorem dX9_describe_24 : decode cX9_describe 24 = .ok (.iadd, 1) := by decide +kernel
theorem dX9_describe_25 : decode cX9_describe 25 = .ok (.iconst 2, 1) := by decide +kernel
theorem dX9_describe_26 : decode cX9_describe 26 = .ok (.iload 4, 2) := by decide +kernel
theorem dX9_describe_28 : decode cX9_describe 28 = .ok (.i2l, 1) := by decide +kernel
theorem dX9_describe_29 : decode cX9_describe 29 = .ok (.invokevirtual 127, 3) := by decide +kernel
theorem dX9_describe_32 : decode cX9_describe 32 = .ok (.aload_n 0, 1) := by decide +kernel
theorem dX9_describe_33 : decode cX9_describe 33 = .ok (.iload_n 1, 1) := by decide +kernel
theorem dX9_describe_34 : decode cX9_describe 34 = .ok (.bipush 14, 2) := by decide +kernel
theorem dX9_describe_36 : decode cX9_describe 36 = .ok (.iadd, 1) := by decide +kernel
theorem dX9_describe_37 : decode cX9_describe 37 = .ok (.iconst 2, 1) := by decide +kernel
theorem dX9_describe_38 : decode cX9_describe 38 = .ok (.iload 5, 2) := by decide +kernel
theorem dX9_describe_40 : decode cX9_describe 40 = .ok (.i2l, 1) := by decide +kernel
theorem dX9_describe_41 : decode cX9_describe 41 = .ok (.invokevirtual 127, 3) := by decide +kernel
theorem dX9_describe_44 : decode cX9_describe 44 = .ok (.return_, 1) := by decide +kernel
theorem dX9_offer_0 : decode cX9_offer 0 = .ok (.aload_n 0, 1) := by decide +kernel
theorem dX9_offer_1 : decode cX9_offer 1 = .ok (.sipush 256, 3) := by decide +kernel
theorem dX9_offer_4 : decode cX9_offer 4 = .ok (.iload_n 1, 1) := by decide +kernel
theorem dX9_offer_5 : decode cX9_offer 5 = .ok (.imul, 1) := by decide +kernel
theorem dX9_offer_6 : decode cX9_offer 6 = .ok (.sipush 132, 3) := by decide +kernel
theorem dX9_offer_9 : decode cX9_offer 9 = .ok (.iadd, 1) := by decide +kernel
theorem dX9_offer_10 : decode cX9_offer 10 = .ok (.iconst 2, 1) := by decide +kernel
theorem dX9_offer_11 : decode cX9_offer 11 = .ok (.aload_n 0, 1) := by decide +kernel
theorem dX9_offer_12 : decode cX9_offer 12 = .ok (.getfield 24, 3) := by decide +kernel
theorem dX9_offer_15 : decode cX9_offer 15 = .ok (.iload_n 1, 1) := by decide +kernel
theorem dX9_offer_16 : decode cX9_offer 16 = .ok (.iaload, 1) := by decide +kernel
theorem dX9_offer_17 : decode cX9_offer 17 = .ok (.bipush 8, 2) := by decide +kernel
theorem dX9_offer_19 : decode cX9_offer 19 = .ok (.irem, 1) := by decide +kernel
theorem dX9_offer_20 : decode cX9_offer 20 = .ok (.imul, 1) := by decide +kernel
theorem dX9_offer_21 : decode cX9_offer 21 = .ok (.iadd, 1) := by decide +kernel
theorem dX9_offer_22 : decode cX9_offer 22 = .ok (.iconst 2, 1) := by decide +kernel
theorem dX9_offer_23 : decode cX9_offer 23 = .ok (.iload_n 2, 1) := by decide +kernel
theorem dX9_offer_24 : decode cX9_offer 24 = .ok (.i2l, 1) := by decide +kernel
theorem dX9_offer_25 : decode cX9_offer 25 = .ok (.invokevirtual 127, 3) := by decide +kernel
theorem dX9_offer_28 : decode cX9_offer 28 = .ok (.aload_n 0, 1) := by decide +kernel
theorem dX9_offer_29 : decode cX9_offer 29 = .ok (.getfield 24, 3) := by decide +kernel
theorem dX9_offer_32 : decode cX9_offer 32 = .ok (.iload_n 1, 1) := by decide +kernel
theorem dX9_offer_33 : decode cX9_offer 33 = .ok (.aload_n 0, 1) := by decide +kernel
theorem dX9_offer_34 : decode cX9_offer 34 = .ok (.getfield 24, 3) := by decide +kernel
theorem dX9_offer_37 : decode cX9_offer 37 = .ok (.iload_n 1, 1) := by decide +kernel
theorem dX9_offer_38 : decode cX9_offer 38 = .ok (.iaload, 1) := by decide +kernel
theorem dX9_offer_39 : decode cX9_offer 39 = .ok (.iconst 1, 1) := by decide +kernel
theorem dX9_offer_40 : decode cX9_offer 40 = .ok (.iadd, 1) := by decide +kernel
theorem dX9_offer_41 : decode cX9_offer 41 = .ok (.ldc 94, 2) := by decide +kernel
theorem dX9_offer_43 : decode cX9_offer 43 = .ok (.iand, 1) := by decide +kernel
theorem dX9_offer_44 : decode cX9_offer 44 = .ok (.iastore, 1) := by decide +kernel
theorem dX9_offer_45 : decode cX9_offer 45 = .ok (.aload_n 0, 1) := by decide +kernel
theorem dX9_offer_46 : decode cX9_offer 46 = .ok (.sipush 256, 3) := by decide +kernel
theorem dX9_offer_49 : decode cX9_offer 49 = .ok (.iload_n 1, 1) := by decide +kernel
theorem dX9_offer_50 : decode cX9_offer 50 = .ok (.imul, 1) := by decide +kernel
theorem dX9_offer_51 : decode cX9_offer 51 = .ok (.sipush 130, 3) := by decide +kernel
theorem dX9_offer_54 : decode cX9_offer 54 = .ok (.iadd, 1) := by decide +kernel
theorem dX9_offer_55 : decode cX9_offer 55 = .ok (.iconst 2, 1) := by decide +kernel
theorem dX9_offer_56 : decode cX9_offer 56 = .ok (.aload_n 0, 1) := by decide +kernel
theorem dX9_offer_57 : decode cX9_offer 57 = .ok (.getfield 24, 3) := by decide +kernel
theorem dX9_offer_60 : decode cX9_offer 60 = .ok (.iload_n 1, 1) := by decide +kernel
theorem dX9_offer_61 : decode cX9_offer 61 = .ok (.iaload, 1) := by decide +kernel
theorem dX9_offer_62 : decode cX9_offer 62 = .ok (.i2l, 1) := by decide +kernel
theorem dX9_offer_63 : decode cX9_offer 63 = .ok (.invokevirtual 127, 3) := by decide +kernel
theorem dX9_offer_66 : decode cX9_offer 66 = .ok (.return_, 1) := by decide +kernel
theorem dX9_ask_0 : decode cX9_ask 0 = .ok (.iload_n 2, 1) := by decide +kernel
theorem dX9_ask_1 : decode cX9_ask 1 = .ok (.iconst 0, 1) := by decide +kernel
theorem dX9_ask_2 : decode cX9_ask 2 = .ok (.bipush 31, 2) := by decide +kernel
theorem dX9_ask_4 : decode cX9_ask 4 = .ok (.invokestatic 7, 3) := by decide +kernel
theorem dX9_ask_7 : decode cX9_ask 7 = .ok (.ifCond .ne 6, 3) := by decide +kernel
theorem dX9_ask_10 : decode cX9_ask 10 = .ok (.bipush (-2), 2) := by decide +kernel
theorem dX9_ask_12 : decode cX9_ask 12 = .ok (.ireturn, 1) := by decide +kernel
theorem dX9_ask_13 : decode cX9_ask 13 = .ok (.aload_n 0, 1) := by decide +kernel
theorem dX9_ask_14 : decode cX9_ask 14 = .ok (.getfield 83, 3) := by decide +kernel
theorem dX9_ask_17 : decode cX9_ask 17 = .ok (.ifCond .ne 6, 3) := by decide +kernel
theorem dX9_ask_20 : decode cX9_ask 20 = .ok (.bipush (-4), 2) := by decide +kernel
theorem dX9_ask_22 : decode cX9_ask 22 = .ok (.ireturn, 1) := by decide +kernel
theorem dX9_ask_23 : decode cX9_ask 23 = .ok (.aload_n 0, 1) := by decide +kernel
theorem dX9_ask_24 : decode cX9_ask 24 = .ok (.iconst 0, 1) := by decide +kernel
theorem dX9_ask_25 : decode cX9_ask 25 = .ok (.invokevirtual 180, 3) := by decide +kernel
theorem dX9_ask_28 : decode cX9_ask 28 = .ok (.aload_n 0, 1) := by decide +kernel
theorem dX9_ask_29 : decode cX9_ask 29 = .ok (.getfield 79, 3) := by decide +kernel
theorem dX9_ask_32 : decode cX9_ask 32 = .ok (.ifCond .eq 7, 3) := by decide +kernel
theorem dX9_ask_35 : decode cX9_ask 35 = .ok (.iconst 1, 1) := by decide +kernel
theorem dX9_ask_36 : decode cX9_ask 36 = .ok (.goto 4, 3) := by decide +kernel
theorem dX9_ask_39 : decode cX9_ask 39 = .ok (.iconst 3, 1) := by decide +kernel
theorem dX9_ask_40 : decode cX9_ask 40 = .ok (.if_icmp .ge 5, 3) := by decide +kernel
theorem dX9_ask_43 : decode cX9_ask 43 = .ok (.iconst (-1), 1) := by decide +kernel
theorem dX9_ask_44 : decode cX9_ask 44 = .ok (.ireturn, 1) := by decide +kernel
theorem dX9_ask_45 : decode cX9_ask 45 = .ok (.aload_n 0, 1) := by decide +kernel
theorem dX9_ask_46 : decode cX9_ask 46 = .ok (.iconst 0, 1) := by decide +kernel
theorem dX9_ask_47 : decode cX9_ask 47 = .ok (.iconst (-1), 1) := by decide +kernel
theorem dX9_ask_48 : decode cX9_ask 48 = .ok (.invokevirtual 183, 3) := by decide +kernel
theorem dX9_ask_51 : decode cX9_ask 51 = .ok (.istore 5, 2) := by decide +kernel
theorem dX9_ask_53 : decode cX9_ask 53 = .ok (.sipush 1024, 3) := by decide +kernel
theorem dX9_ask_56 : decode cX9_ask 56 = .ok (.bipush 96, 2) := by decide +kernel
theorem dX9_ask_58 : decode cX9_ask 58 = .ok (.iload 5, 2) := by decide +kernel
theorem dX9_ask_60 : decode cX9_ask 60 = .ok (.imul, 1) := by decide +kernel
theorem dX9_ask_61 : decode cX9_ask 61 = .ok (.iadd, 1) := by decide +kernel
theorem dX9_ask_62 : decode cX9_ask 62 = .ok (.istore 6, 2) := by decide +kernel
theorem dX9_ask_64 : decode cX9_ask 64 = .ok (.iconst 1, 1) := by decide +kernel
theorem dX9_ask_65 : decode cX9_ask 65 = .ok (.istore 7, 2) := by decide +kernel
theorem dX9_ask_67 : decode cX9_ask 67 = .ok (.iconst 2, 1) := by decide +kernel
theorem dX9_ask_68 : decode cX9_ask 68 = .ok (.istore 8, 2) := by decide +kernel
theorem dX9_ask_70 : decode cX9_ask 70 = .ok (.sipush 1792, 3) := by decide +kernel
theorem dX9_ask_73 : decode cX9_ask 73 = .ok (.bipush 64, 2) := by decide +kernel
theorem dX9_ask_75 : decode cX9_ask 75 = .ok (.iload 5, 2) := by decide +kernel
theorem dX9_ask_77 : decode cX9_ask 77 = .ok (.imul, 1) := by decide +kernel
theorem dX9_ask_78 : decode cX9_ask 78 = .ok (.iadd, 1) := by decide +kernel
theorem dX9_ask_79 : decode cX9_ask 79 = .ok (.istore 9, 2) := by decide +kernel
theorem dX9_ask_81 : decode cX9_ask 81 = .ok (.aload_n 0, 1) := by decide +kernel
theorem dX9_ask_82 : decode cX9_ask 82 = .ok (.getfield 79, 3) := by decide +kernel
theorem dX9_ask_85 : decode cX9_ask 85 = .ok (.ifCond .ne 24, 3) := by decide +kernel
theorem dX9_ask_88 : decode cX9_ask 88 = .ok (.aload_n 0, 1) := by decide +kernel
theorem dX9_ask_89 : decode cX9_ask 89 = .ok (.iconst 0, 1) := by decide +kernel
theorem dX9_ask_90 : decode cX9_ask 90 = .ok (.iload 5, 2) := by decide +kernel
theorem dX9_ask_92 : decode cX9_ask 92 = .ok (.invokevirtual 183, 3) := by decide +kernel
theorem dX9_ask_95 : decode cX9_ask 95 = .ok (.istore 7, 2) := by decide +kernel
theorem dX9_ask_97 : decode cX9_ask 97 = .ok (.aload_n 0, 1) := by decide +kernel
theorem dX9_ask_98 : decode cX9_ask 98 = .ok (.iconst 0, 1) := by decide +kernel
theorem dX9_ask_99 : decode cX9_ask 99 = .ok (.iload 5, 2) := by decide +kernel
theorem dX9_ask_101 : decode cX9_ask 101 = .ok (.invokevirtual 183, 3) := by decide +kernel
theorem dX9_ask_104 : decode cX9_ask 104 = .ok (.istore 8, 2) := by decide +kernel
theorem dX9_ask_106 : decode cX9_ask 106 = .ok (.iconst 0, 1) := by decide +kernel
theorem dX9_ask_107 : decode cX9_ask 107 = .ok (.istore 9, 2) := by decide +kernel
theorem dX9_ask_109 : decode cX9_ask 109 = .ok (.iload_n 1, 1) := by decide +kernel
theorem dX9_ask_110 : decode cX9_ask 110 = .ok (.ifCond .ne 7, 3) := by decide +kernel
theorem dX9_ask_113 : decode cX9_ask 113 = .ok (.iconst 3, 1) := by decide +kernel
theorem dX9_ask_114 : decode cX9_ask 114 = .ok (.goto 4, 3) := by decide +kernel
theorem dX9_ask_117 : decode cX9_ask 117 = .ok (.iconst 1, 1) := by decide +kernel
theorem dX9_ask_118 : decode cX9_ask 118 = .ok (.istore 10, 2) := by decide +kernel
theorem dX9_ask_120 : decode cX9_ask 120 = .ok (.aload_n 0, 1) := by decide +kernel
theorem dX9_ask_121 : decode cX9_ask 121 = .ok (.aload_n 0, 1) := by decide +kernel
theorem dX9_ask_122 : decode cX9_ask 122 = .ok (.getfield 79, 3) := by decide +kernel
theorem dX9_ask_125 : decode cX9_ask 125 = .ok (.ifCond .eq 8, 3) := by decide +kernel
theorem dX9_ask_128 : decode cX9_ask 128 = .ok (.iload 9, 2) := by decide +kernel
theorem dX9_ask_130 : decode cX9_ask 130 = .ok (.goto 8, 3) := by decide +kernel
theorem dX9_ask_133 : decode cX9_ask 133 = .ok (.bipush 16, 2) := by decide +kernel
theorem dX9_ask_135 : decode cX9_ask 135 = .ok (.iload 5, 2) := by decide +kernel
theorem dX9_ask_137 : decode cX9_ask 137 = .ok (.imul, 1) := by decide +kernel
theorem dX9_ask_138 : decode cX9_ask 138 = .ok (.iload 6, 2) := by decide +kernel
theorem dX9_ask_140 : decode cX9_ask 140 = .ok (.bipush 16, 2) := by decide +kernel
theorem dX9_ask_142 : decode cX9_ask 142 = .ok (.iconst 1, 1) := by decide +kernel
theorem dX9_ask_143 : decode cX9_ask 143 = .ok (.iload 7, 2) := by decide +kernel
theorem dX9_ask_145 : decode cX9_ask 145 = .ok (.invokevirtual 186, 3) := by decide +kernel
theorem dX9_ask_148 : decode cX9_ask 148 = .ok (.aload_n 0, 1) := by decide +kernel
theorem dX9_ask_149 : decode cX9_ask 149 = .ok (.iload 9, 2) := by decide +kernel
theorem dX9_ask_151 : decode cX9_ask 151 = .ok (.bipush 16, 2) := by decide +kernel
theorem dX9_ask_153 : decode cX9_ask 153 = .ok (.iload 7, 2) := by decide +kernel
theorem dX9_ask_155 : decode cX9_ask 155 = .ok (.imul, 1) := by decide +kernel
theorem dX9_ask_156 : decode cX9_ask 156 = .ok (.iadd, 1) := by decide +kernel
theorem dX9_ask_157 : decode cX9_ask 157 = .ok (.iload 6, 2) := by decide +kernel
theorem dX9_ask_159 : decode cX9_ask 159 = .ok (.bipush 16, 2) := by decide +kernel
theorem dX9_ask_161 : decode cX9_ask 161 = .ok (.iadd, 1) := by decide +kernel
theorem dX9_ask_162 : decode cX9_ask 162 = .ok (.bipush 64, 2) := by decide +kernel
theorem dX9_ask_164 : decode cX9_ask 164 = .ok (.iload 10, 2) := by decide +kernel
theorem dX9_ask_166 : decode cX9_ask 166 = .ok (.iload 8, 2) := by decide +kernel
theorem dX9_ask_168 : decode cX9_ask 168 = .ok (.invokevirtual 186, 3) := by decide +kernel
theorem dX9_ask_171 : decode cX9_ask 171 = .ok (.aload_n 0, 1) := by decide +kernel
theorem dX9_ask_172 : decode cX9_ask 172 = .ok (.iload 9, 2) := by decide +kernel
theorem dX9_ask_174 : decode cX9_ask 174 = .ok (.bipush 16, 2) := by decide +kernel
theorem dX9_ask_176 : decode cX9_ask 176 = .ok (.iload 8, 2) := by decide +kernel
theorem dX9_ask_178 : decode cX9_ask 178 = .ok (.imul, 1) := by decide +kernel
theorem dX9_ask_179 : decode cX9_ask 179 = .ok (.iadd, 1) := by decide +kernel
theorem dX9_ask_180 : decode cX9_ask 180 = .ok (.iload 6, 2) := by decide +kernel
theorem dX9_ask_182 : decode cX9_ask 182 = .ok (.bipush 80, 2) := by decide +kernel
theorem dX9_ask_184 : decode cX9_ask 184 = .ok (.iadd, 1) := by decide +kernel
theorem dX9_ask_185 : decode cX9_ask 185 = .ok (.iconst 1, 1) := by decide +kernel
theorem dX9_ask_186 : decode cX9_ask 186 = .ok (.iconst 2, 1) := by decide +kernel
theorem dX9_ask_187 : decode cX9_ask 187 = .ok (.iconst 0, 1) := by decide +kernel
theorem dX9_ask_188 : decode cX9_ask 188 = .ok (.invokevirtual 186, 3) := by decide +kernel
theorem dX9_ask_191 : decode cX9_ask 191 = .ok (.aload_n 0, 1) := by decide +kernel
theorem dX9_ask_192 : decode cX9_ask 192 = .ok (.getfield 79, 3) := by decide +kernel
theorem dX9_ask_195 : decode cX9_ask 195 = .ok (.ifCond .eq 18, 3) := by decide +kernel
theorem dX9_ask_198 : decode cX9_ask 198 = .ok (.aload_n 0, 1) := by decide +kernel
theorem dX9_ask_199 : decode cX9_ask 199 = .ok (.bipush 16, 2) := by decide +kernel
theorem dX9_ask_201 : decode cX9_ask 201 = .ok (.iload 5, 2) := by decide +kernel
theorem dX9_ask_203 : decode cX9_ask 203 = .ok (.imul, 1) := by decide +kernel
theorem dX9_ask_204 : decode cX9_ask 204 = .ok (.iload 9, 2) := by decide +kernel
theorem dX9_ask_206 : decode cX9_ask 206 = .ok (.bipush 48, 2) := by decide +kernel
theorem dX9_ask_208 : decode cX9_ask 208 = .ok (.iconst 4, 1) := by decide +kernel
theorem dX9_ask_209 : decode cX9_ask 209 = .ok (.iconst 0, 1) := by decide +kernel
theorem dX9_ask_210 : decode cX9_ask 210 = .ok (.invokevirtual 186, 3) := by decide +kernel
theorem dX9_ask_213 : decode cX9_ask 213 = .ok (.aload_n 0, 1) := by decide +kernel
theorem dX9_ask_214 : decode cX9_ask 214 = .ok (.iload 6, 2) := by decide +kernel
theorem dX9_ask_216 : decode cX9_ask 216 = .ok (.bipush 8, 2) := by decide +kernel
theorem dX9_ask_218 : decode cX9_ask 218 = .ok (.iload_n 1, 1) := by decide +kernel
theorem dX9_ask_219 : decode cX9_ask 219 = .ok (.i2l, 1) := by decide +kernel
theorem dX9_ask_220 : decode cX9_ask 220 = .ok (.invokevirtual 127, 3) := by decide +kernel
theorem dX9_ask_223 : decode cX9_ask 223 = .ok (.aload_n 0, 1) := by decide +kernel
theorem dX9_ask_224 : decode cX9_ask 224 = .ok (.iload 6, 2) := by decide +kernel
theorem dX9_ask_226 : decode cX9_ask 226 = .ok (.bipush 8, 2) := by decide +kernel
theorem dX9_ask_228 : decode cX9_ask 228 = .ok (.iadd, 1) := by decide +kernel
theorem dX9_ask_229 : decode cX9_ask 229 = .ok (.bipush 8, 2) := by decide +kernel
theorem dX9_ask_231 : decode cX9_ask 231 = .ok (.iload_n 2, 1) := by decide +kernel
theorem dX9_ask_232 : decode cX9_ask 232 = .ok (.i2l, 1) := by decide +kernel
theorem dX9_ask_233 : decode cX9_ask 233 = .ok (.invokevirtual 127, 3) := by decide +kernel
theorem dX9_ask_236 : decode cX9_ask 236 = .ok (.iconst 0, 1) := by decide +kernel
theorem dX9_ask_237 : decode cX9_ask 237 = .ok (.istore 11, 2) := by decide +kernel
theorem dX9_ask_239 : decode cX9_ask 239 = .ok (.iload 11, 2) := by decide +kernel
theorem dX9_ask_241 : decode cX9_ask 241 = .ok (.bipush 64, 2) := by decide +kernel
theorem dX9_ask_243 : decode cX9_ask 243 = .ok (.if_icmp .ge 34, 3) := by decide +kernel
theorem dX9_ask_246 : decode cX9_ask 246 = .ok (.iload_n 1, 1) := by decide +kernel
theorem dX9_ask_247 : decode cX9_ask 247 = .ok (.iconst 1, 1) := by decide +kernel
theorem dX9_ask_248 : decode cX9_ask 248 = .ok (.if_icmp .ne 29, 3) := by decide +kernel
theorem dX9_ask_251 : decode cX9_ask 251 = .ok (.aload_n 0, 1) := by decide +kernel
theorem dX9_ask_252 : decode cX9_ask 252 = .ok (.getfield 1, 3) := by decide +kernel
theorem dX9_ask_255 : decode cX9_ask 255 = .ok (.iload 6, 2) := by decide +kernel
theorem dX9_ask_257 : decode cX9_ask 257 = .ok (.bipush 16, 2) := by decide +kernel
theorem dX9_ask_259 : decode cX9_ask 259 = .ok (.iadd, 1) := by decide +kernel
theorem dX9_ask_260 : decode cX9_ask 260 = .ok (.iload 11, 2) := by decide +kernel
theorem dX9_ask_262 : decode cX9_ask 262 = .ok (.iadd, 1) := by decide +kernel
theorem dX9_ask_263 : decode cX9_ask 263 = .ok (.lload_n 3, 1) := by decide +kernel
theorem dX9_ask_264 : decode cX9_ask 264 = .ok (.iload 11, 2) := by decide +kernel
theorem dX9_ask_266 : decode cX9_ask 266 = .ok (.invokestatic 173, 3) := by decide +kernel
theorem dX9_ask_269 : decode cX9_ask 269 = .ok (.i2b, 1) := by decide +kernel
theorem dX9_ask_270 : decode cX9_ask 270 = .ok (.bastore, 1) := by decide +kernel
theorem dX9_ask_271 : decode cX9_ask 271 = .ok (.iinc 11 1, 3) := by decide +kernel
theorem dX9_ask_274 : decode cX9_ask 274 = .ok (.goto (-35), 3) := by decide +kernel
theorem dX9_ask_277 : decode cX9_ask 277 = .ok (.aload_n 0, 1) := by decide +kernel
theorem dX9_ask_278 : decode cX9_ask 278 = .ok (.iconst 0, 1) := by decide +kernel
theorem dX9_ask_279 : decode cX9_ask 279 = .ok (.iload 5, 2) := by decide +kernel
theorem dX9_ask_281 : decode cX9_ask 281 = .ok (.invokevirtual 190, 3) := by decide +kernel
theorem dX9_ask_284 : decode cX9_ask 284 = .ok (.iload 5, 2) := by decide +kernel
theorem dX9_ask_286 : decode cX9_ask 286 = .ok (.ireturn, 1) := by decide +kernel
theorem dX9_read_0 : decode cX9_read 0 = .ok (.aload_n 0, 1) := by decide +kernel
theorem dX9_read_1 : decode cX9_read 1 = .ok (.iconst 0, 1) := by decide +kernel
theorem dX9_read_2 : decode cX9_read 2 = .ok (.iload_n 1, 1) := by decide +kernel
theorem dX9_read_3 : decode cX9_read 3 = .ok (.lconst 0, 1) := by decide +kernel
theorem dX9_read_4 : decode cX9_read 4 = .ok (.invokevirtual 193, 3) := by decide +kernel
theorem dX9_read_7 : decode cX9_read 7 = .ok (.ireturn, 1) := by decide +kernel
theorem dX9_write_0 : decode cX9_write 0 = .ok (.aload_n 0, 1) := by decide +kernel
theorem dX9_write_1 : decode cX9_write 1 = .ok (.iconst 1, 1) := by decide +kernel
theorem dX9_write_2 : decode cX9_write 2 = .ok (.iload_n 1, 1) := by decide +kernel
theorem dX9_write_3 : decode cX9_write 3 = .ok (.lload_n 2, 1) := by decide +kernel
theorem dX9_write_4 : decode cX9_write 4 = .ok (.invokevirtual 193, 3) := by decide +kernel
theorem dX9_write_7 : decode cX9_write 7 = .ok (.ireturn, 1) := by decide +kernel
theorem dX9_send_0 : decode cX9_send 0 = .ok (.iload_n 1, 1) := by decide +kernel
theorem dX9_send_1 : decode cX9_send 1 = .ok (.iconst 1, 1) := by decide +kernel
theorem dX9_send_2 : decode cX9_send 2 = .ok (.bipush 80, 2) := by decide +kernel
theorem dX9_send_4 : decode cX9_send 4 = .ok (.invokestatic 7, 3) := by decide +kernel
theorem dX9_send_7 : decode cX9_send 7 = .ok (.ifCond .ne 6, 3) := by decide +kernel
theorem dX9_send_10 : decode cX9_send 10 = .ok (.bipush (-2), 2) := by decide +kernel
theorem dX9_send_12 : decode cX9_send 12 = .ok (.ireturn, 1) := by decide +kernel
theorem dX9_send_13 : decode cX9_send 13 = .ok (.aload_n 0, 1) := by decide +kernel
theorem dX9_send_14 : decode cX9_send 14 = .ok (.getfield 83, 3) := by decide +kernel
theorem dX9_send_17 : decode cX9_send 17 = .ok (.ifCond .ne 6, 3) := by decide +kernel
theorem dX9_send_20 : decode cX9_send 20 = .ok (.bipush (-4), 2) := by decide +kernel
theorem dX9_send_22 : decode cX9_send 22 = .ok (.ireturn, 1) := by decide +kernel
theorem dX9_send_23 : decode cX9_send 23 = .ok (.aload_n 0, 1) := by decide +kernel
theorem dX9_send_24 : decode cX9_send 24 = .ok (.iconst 2, 1) := by decide +kernel
theorem dX9_send_25 : decode cX9_send 25 = .ok (.invokevirtual 180, 3) := by decide +kernel
theorem dX9_send_28 : decode cX9_send 28 = .ok (.iconst 2, 1) := by decide +kernel
theorem dX9_send_29 : decode cX9_send 29 = .ok (.if_icmp .ge 5, 3) := by decide +kernel
theorem dX9_send_32 : decode cX9_send 32 = .ok (.iconst (-1), 1) := by decide +kernel
theorem dX9_send_33 : decode cX9_send 33 = .ok (.ireturn, 1) := by decide +kernel
theorem dX9_send_34 : decode cX9_send 34 = .ok (.aload_n 0, 1) := by decide +kernel
theorem dX9_send_35 : decode cX9_send 35 = .ok (.iconst 2, 1) := by decide +kernel
theorem dX9_send_36 : decode cX9_send 36 = .ok (.iconst (-1), 1) := by decide +kernel
theorem dX9_send_37 : decode cX9_send 37 = .ok (.invokevirtual 183, 3) := by decide +kernel
theorem dX9_send_40 : decode cX9_send 40 = .ok (.istore 4, 2) := by decide +kernel
theorem dX9_send_42 : decode cX9_send 42 = .ok (.aload_n 0, 1) := by decide +kernel
theorem dX9_send_43 : decode cX9_send 43 = .ok (.iconst 2, 1) := by decide +kernel
theorem dX9_send_44 : decode cX9_send 44 = .ok (.iload 4, 2) := by decide +kernel
theorem dX9_send_46 : decode cX9_send 46 = .ok (.invokevirtual 183, 3) := by decide +kernel
theorem dX9_send_49 : decode cX9_send 49 = .ok (.istore 5, 2) := by decide +kernel
theorem dX9_send_51 : decode cX9_send 51 = .ok (.sipush 2304, 3) := by decide +kernel
theorem dX9_send_54 : decode cX9_send 54 = .ok (.bipush 96, 2) := by decide +kernel
theorem dX9_send_56 : decode cX9_send 56 = .ok (.iload 4, 2) := by decide +kernel
theorem dX9_send_58 : decode cX9_send 58 = .ok (.imul, 1) := by decide +kernel
theorem dX9_send_59 : decode cX9_send 59 = .ok (.iadd, 1) := by decide +kernel
theorem dX9_send_60 : decode cX9_send 60 = .ok (.istore 6, 2) := by decide +kernel
theorem dX9_send_62 : decode cX9_send 62 = .ok (.aload_n 0, 1) := by decide +kernel
theorem dX9_send_63 : decode cX9_send 63 = .ok (.sipush 512, 3) := by decide +kernel
theorem dX9_send_66 : decode cX9_send 66 = .ok (.bipush 16, 2) := by decide +kernel
theorem dX9_send_68 : decode cX9_send 68 = .ok (.iload 4, 2) := by decide +kernel
theorem dX9_send_70 : decode cX9_send 70 = .ok (.imul, 1) := by decide +kernel
theorem dX9_send_71 : decode cX9_send 71 = .ok (.iadd, 1) := by decide +kernel
theorem dX9_send_72 : decode cX9_send 72 = .ok (.iload 6, 2) := by decide +kernel
theorem dX9_send_74 : decode cX9_send 74 = .ok (.bipush 12, 2) := by decide +kernel
theorem dX9_send_76 : decode cX9_send 76 = .ok (.iconst 1, 1) := by decide +kernel
theorem dX9_send_77 : decode cX9_send 77 = .ok (.iload 5, 2) := by decide +kernel
theorem dX9_send_79 : decode cX9_send 79 = .ok (.invokevirtual 186, 3) := by decide +kernel
theorem dX9_send_82 : decode cX9_send 82 = .ok (.aload_n 0, 1) := by decide +kernel
theorem dX9_send_83 : decode cX9_send 83 = .ok (.sipush 512, 3) := by decide +kernel
theorem dX9_send_86 : decode cX9_send 86 = .ok (.bipush 16, 2) := by decide +kernel
theorem dX9_send_88 : decode cX9_send 88 = .ok (.iload 5, 2) := by decide +kernel
theorem dX9_send_90 : decode cX9_send 90 = .ok (.imul, 1) := by decide +kernel
theorem dX9_send_91 : decode cX9_send 91 = .ok (.iadd, 1) := by decide +kernel
theorem dX9_send_92 : decode cX9_send 92 = .ok (.iload 6, 2) := by decide +kernel
theorem dX9_send_94 : decode cX9_send 94 = .ok (.bipush 12, 2) := by decide +kernel
theorem dX9_send_96 : decode cX9_send 96 = .ok (.iadd, 1) := by decide +kernel
theorem dX9_send_97 : decode cX9_send 97 = .ok (.iload_n 1, 1) := by decide +kernel
theorem dX9_send_98 : decode cX9_send 98 = .ok (.iconst 0, 1) := by decide +kernel
theorem dX9_send_99 : decode cX9_send 99 = .ok (.iconst 0, 1) := by decide +kernel
theorem dX9_send_100 : decode cX9_send 100 = .ok (.invokevirtual 186, 3) := by decide +kernel
theorem dX9_send_103 : decode cX9_send 103 = .ok (.iconst 0, 1) := by decide +kernel
theorem dX9_send_104 : decode cX9_send 104 = .ok (.istore 7, 2) := by decide +kernel
theorem dX9_send_106 : decode cX9_send 106 = .ok (.iload 7, 2) := by decide +kernel
theorem dX9_send_108 : decode cX9_send 108 = .ok (.bipush 12, 2) := by decide +kernel
theorem dX9_send_110 : decode cX9_send 110 = .ok (.iload_n 1, 1) := by decide +kernel
theorem dX9_send_111 : decode cX9_send 111 = .ok (.iadd, 1) := by decide +kernel
theorem dX9_send_112 : decode cX9_send 112 = .ok (.if_icmp .ge 40, 3) := by decide +kernel
theorem dX9_send_115 : decode cX9_send 115 = .ok (.aload_n 0, 1) := by decide +kernel
theorem dX9_send_116 : decode cX9_send 116 = .ok (.getfield 1, 3) := by decide +kernel
theorem dX9_send_119 : decode cX9_send 119 = .ok (.iload 6, 2) := by decide +kernel
theorem dX9_send_121 : decode cX9_send 121 = .ok (.iload 7, 2) := by decide +kernel
theorem dX9_send_123 : decode cX9_send 123 = .ok (.iadd, 1) := by decide +kernel
theorem dX9_send_124 : decode cX9_send 124 = .ok (.iload 7, 2) := by decide +kernel
theorem dX9_send_126 : decode cX9_send 126 = .ok (.bipush 12, 2) := by decide +kernel
theorem dX9_send_128 : decode cX9_send 128 = .ok (.if_icmp .ge 7, 3) := by decide +kernel
theorem dX9_send_131 : decode cX9_send 131 = .ok (.iconst 0, 1) := by decide +kernel
theorem dX9_send_132 : decode cX9_send 132 = .ok (.goto 12, 3) := by decide +kernel
theorem dX9_send_135 : decode cX9_send 135 = .ok (.lload_n 2, 1) := by decide +kernel
theorem dX9_send_136 : decode cX9_send 136 = .ok (.iload 7, 2) := by decide +kernel
theorem dX9_send_138 : decode cX9_send 138 = .ok (.bipush 12, 2) := by decide +kernel
theorem dX9_send_140 : decode cX9_send 140 = .ok (.isub, 1) := by decide +kernel
theorem dX9_send_141 : decode cX9_send 141 = .ok (.invokestatic 173, 3) := by decide +kernel
theorem dX9_send_144 : decode cX9_send 144 = .ok (.i2b, 1) := by decide +kernel
theorem dX9_send_145 : decode cX9_send 145 = .ok (.bastore, 1) := by decide +kernel
theorem dX9_send_146 : decode cX9_send 146 = .ok (.iinc 7 1, 3) := by decide +kernel
theorem dX9_send_149 : decode cX9_send 149 = .ok (.goto (-43), 3) := by decide +kernel
theorem dX9_send_152 : decode cX9_send 152 = .ok (.aload_n 0, 1) := by decide +kernel
theorem dX9_send_153 : decode cX9_send 153 = .ok (.iconst 2, 1) := by decide +kernel
theorem dX9_send_154 : decode cX9_send 154 = .ok (.iload 4, 2) := by decide +kernel
theorem dX9_send_156 : decode cX9_send 156 = .ok (.invokevirtual 190, 3) := by decide +kernel
theorem dX9_send_159 : decode cX9_send 159 = .ok (.iload 4, 2) := by decide +kernel
theorem dX9_send_161 : decode cX9_send 161 = .ok (.ireturn, 1) := by decide +kernel
theorem dX9_post_0 : decode cX9_post 0 = .ok (.aload_n 0, 1) := by decide +kernel
theorem dX9_post_1 : decode cX9_post 1 = .ok (.getfield 83, 3) := by decide +kernel
theorem dX9_post_4 : decode cX9_post 4 = .ok (.ifCond .ne 6, 3) := by decide +kernel
theorem dX9_post_7 : decode cX9_post 7 = .ok (.bipush (-4), 2) := by decide +kernel
theorem dX9_post_9 : decode cX9_post 9 = .ok (.ireturn, 1) := by decide +kernel
theorem dX9_post_10 : decode cX9_post 10 = .ok (.aload_n 0, 1) := by decide +kernel
theorem dX9_post_11 : decode cX9_post 11 = .ok (.iconst 1, 1) := by decide +kernel
theorem dX9_post_12 : decode cX9_post 12 = .ok (.invokevirtual 180, 3) := by decide +kernel
theorem dX9_post_15 : decode cX9_post 15 = .ok (.iconst 1, 1) := by decide +kernel
theorem dX9_post_16 : decode cX9_post 16 = .ok (.if_icmp .ge 5, 3) := by decide +kernel
theorem dX9_post_19 : decode cX9_post 19 = .ok (.iconst (-1), 1) := by decide +kernel
theorem dX9_post_20 : decode cX9_post 20 = .ok (.ireturn, 1) := by decide +kernel
theorem dX9_post_21 : decode cX9_post 21 = .ok (.aload_n 0, 1) := by decide +kernel
theorem dX9_post_22 : decode cX9_post 22 = .ok (.iconst 1, 1) := by decide +kernel
theorem dX9_post_23 : decode cX9_post 23 = .ok (.iconst (-1), 1) := by decide +kernel
theorem dX9_post_24 : decode cX9_post 24 = .ok (.invokevirtual 183, 3) := by decide +kernel
theorem dX9_post_27 : decode cX9_post 27 = .ok (.istore_n 1, 1) := by decide +kernel
theorem dX9_post_28 : decode cX9_post 28 = .ok (.aload_n 0, 1) := by decide +kernel
theorem dX9_post_29 : decode cX9_post 29 = .ok (.sipush 256, 3) := by decide +kernel
theorem dX9_post_32 : decode cX9_post 32 = .ok (.bipush 16, 2) := by decide +kernel
theorem dX9_post_34 : decode cX9_post 34 = .ok (.iload_n 1, 1) := by decide +kernel
theorem dX9_post_35 : decode cX9_post 35 = .ok (.imul, 1) := by decide +kernel
theorem dX9_post_36 : decode cX9_post 36 = .ok (.iadd, 1) := by decide +kernel
theorem dX9_post_37 : decode cX9_post 37 = .ok (.sipush 3072, 3) := by decide +kernel
theorem dX9_post_40 : decode cX9_post 40 = .ok (.bipush 96, 2) := by decide +kernel
theorem dX9_post_42 : decode cX9_post 42 = .ok (.iload_n 1, 1) := by decide +kernel
theorem dX9_post_43 : decode cX9_post 43 = .ok (.imul, 1) := by decide +kernel
theorem dX9_post_44 : decode cX9_post 44 = .ok (.iadd, 1) := by decide +kernel
theorem dX9_post_45 : decode cX9_post 45 = .ok (.bipush 92, 2) := by decide +kernel
theorem dX9_post_47 : decode cX9_post 47 = .ok (.iconst 2, 1) := by decide +kernel
theorem dX9_post_48 : decode cX9_post 48 = .ok (.iconst 0, 1) := by decide +kernel
theorem dX9_post_49 : decode cX9_post 49 = .ok (.invokevirtual 186, 3) := by decide +kernel
theorem dX9_post_52 : decode cX9_post 52 = .ok (.aload_n 0, 1) := by decide +kernel
theorem dX9_post_53 : decode cX9_post 53 = .ok (.iconst 1, 1) := by decide +kernel
theorem dX9_post_54 : decode cX9_post 54 = .ok (.iload_n 1, 1) := by decide +kernel
theorem dX9_post_55 : decode cX9_post 55 = .ok (.invokevirtual 190, 3) := by decide +kernel
theorem dX9_post_58 : decode cX9_post 58 = .ok (.iload_n 1, 1) := by decide +kernel
theorem dX9_post_59 : decode cX9_post 59 = .ok (.ireturn, 1) := by decide +kernel
theorem dX9_collect_0 : decode cX9_collect 0 = .ok (.iload_n 1, 1) := by decide +kernel
theorem dX9_collect_1 : decode cX9_collect 1 = .ok (.iconst 0, 1) := by decide +kernel
theorem dX9_collect_2 : decode cX9_collect 2 = .ok (.iconst 2, 1) := by decide +kernel
theorem dX9_collect_3 : decode cX9_collect 3 = .ok (.invokestatic 7, 3) := by decide +kernel
theorem dX9_collect_6 : decode cX9_collect 6 = .ok (.ifCond .ne 6, 3) := by decide +kernel
theorem dX9_collect_9 : decode cX9_collect 9 = .ok (.bipush (-2), 2) := by decide +kernel
theorem dX9_collect_11 : decode cX9_collect 11 = .ok (.ireturn, 1) := by decide +kernel
theorem dX9_collect_12 : decode cX9_collect 12 = .ok (.aload_n 0, 1) := by decide +kernel
theorem dX9_collect_13 : decode cX9_collect 13 = .ok (.getfield 83, 3) := by decide +kernel
theorem dX9_collect_16 : decode cX9_collect 16 = .ok (.ifCond .ne 6, 3) := by decide +kernel
theorem dX9_collect_19 : decode cX9_collect 19 = .ok (.bipush (-4), 2) := by decide +kernel
theorem dX9_collect_21 : decode cX9_collect 21 = .ok (.ireturn, 1) := by decide +kernel
theorem dX9_collect_22 : decode cX9_collect 22 = .ok (.aload_n 0, 1) := by decide +kernel
theorem dX9_collect_23 : decode cX9_collect 23 = .ok (.sipush 256, 3) := by decide +kernel
theorem dX9_collect_26 : decode cX9_collect 26 = .ok (.iload_n 1, 1) := by decide +kernel
theorem dX9_collect_27 : decode cX9_collect 27 = .ok (.imul, 1) := by decide +kernel
theorem dX9_collect_28 : decode cX9_collect 28 = .ok (.sipush 154, 3) := by decide +kernel
theorem dX9_collect_31 : decode cX9_collect 31 = .ok (.iadd, 1) := by decide +kernel
theorem dX9_collect_32 : decode cX9_collect 32 = .ok (.iconst 2, 1) := by decide +kernel
theorem dX9_collect_33 : decode cX9_collect 33 = .ok (.invokevirtual 90, 3) := by decide +kernel
theorem dX9_collect_36 : decode cX9_collect 36 = .ok (.l2i, 1) := by decide +kernel
theorem dX9_collect_37 : decode cX9_collect 37 = .ok (.istore_n 2, 1) := by decide +kernel
theorem dX9_collect_38 : decode cX9_collect 38 = .ok (.iload_n 2, 1) := by decide +kernel
theorem dX9_collect_39 : decode cX9_collect 39 = .ok (.aload_n 0, 1) := by decide +kernel
theorem dX9_collect_40 : decode cX9_collect 40 = .ok (.getfield 27, 3) := by decide +kernel
theorem dX9_collect_43 : decode cX9_collect 43 = .ok (.iload_n 1, 1) := by decide +kernel
theorem dX9_collect_44 : decode cX9_collect 44 = .ok (.iaload, 1) := by decide +kernel
theorem dX9_collect_45 : decode cX9_collect 45 = .ok (.if_icmp .ne 5, 3) := by decide +kernel
theorem dX9_collect_48 : decode cX9_collect 48 = .ok (.iconst (-1), 1) := by decide +kernel
theorem dX9_collect_49 : decode cX9_collect 49 = .ok (.ireturn, 1) := by decide +kernel
theorem dX9_collect_50 : decode cX9_collect 50 = .ok (.sipush 256, 3) := by decide +kernel
theorem dX9_collect_53 : decode cX9_collect 53 = .ok (.iload_n 1, 1) := by decide +kernel
theorem dX9_collect_54 : decode cX9_collect 54 = .ok (.imul, 1) := by decide +kernel
theorem dX9_collect_55 : decode cX9_collect 55 = .ok (.sipush 156, 3) := by decide +kernel
theorem dX9_collect_58 : decode cX9_collect 58 = .ok (.iadd, 1) := by decide +kernel
theorem dX9_collect_59 : decode cX9_collect 59 = .ok (.bipush 8, 2) := by decide +kernel
theorem dX9_collect_61 : decode cX9_collect 61 = .ok (.aload_n 0, 1) := by decide +kernel
theorem dX9_collect_62 : decode cX9_collect 62 = .ok (.getfield 27, 3) := by decide +kernel
theorem dX9_collect_65 : decode cX9_collect 65 = .ok (.iload_n 1, 1) := by decide +kernel
theorem dX9_collect_66 : decode cX9_collect 66 = .ok (.iaload, 1) := by decide +kernel
theorem dX9_collect_67 : decode cX9_collect 67 = .ok (.bipush 8, 2) := by decide +kernel
theorem dX9_collect_69 : decode cX9_collect 69 = .ok (.irem, 1) := by decide +kernel
theorem dX9_collect_70 : decode cX9_collect 70 = .ok (.imul, 1) := by decide +kernel
theorem dX9_collect_71 : decode cX9_collect 71 = .ok (.iadd, 1) := by decide +kernel
theorem dX9_collect_72 : decode cX9_collect 72 = .ok (.istore_n 3, 1) := by decide +kernel
theorem dX9_collect_73 : decode cX9_collect 73 = .ok (.aload_n 0, 1) := by decide +kernel
theorem dX9_collect_74 : decode cX9_collect 74 = .ok (.iload_n 3, 1) := by decide +kernel
theorem dX9_collect_75 : decode cX9_collect 75 = .ok (.iconst 4, 1) := by decide +kernel
theorem dX9_collect_76 : decode cX9_collect 76 = .ok (.invokevirtual 90, 3) := by decide +kernel
theorem dX9_collect_79 : decode cX9_collect 79 = .ok (.lstore 4, 2) := by decide +kernel
theorem dX9_collect_81 : decode cX9_collect 81 = .ok (.aload_n 0, 1) := by decide +kernel
theorem dX9_collect_82 : decode cX9_collect 82 = .ok (.getfield 27, 3) := by decide +kernel
theorem dX9_collect_85 : decode cX9_collect 85 = .ok (.iload_n 1, 1) := by decide +kernel
theorem dX9_collect_86 : decode cX9_collect 86 = .ok (.aload_n 0, 1) := by decide +kernel
theorem dX9_collect_87 : decode cX9_collect 87 = .ok (.getfield 27, 3) := by decide +kernel
theorem dX9_collect_90 : decode cX9_collect 90 = .ok (.iload_n 1, 1) := by decide +kernel
theorem dX9_collect_91 : decode cX9_collect 91 = .ok (.iaload, 1) := by decide +kernel
theorem dX9_collect_92 : decode cX9_collect 92 = .ok (.iconst 1, 1) := by decide +kernel
theorem dX9_collect_93 : decode cX9_collect 93 = .ok (.iadd, 1) := by decide +kernel
theorem dX9_collect_94 : decode cX9_collect 94 = .ok (.ldc 94, 2) := by decide +kernel
theorem dX9_collect_96 : decode cX9_collect 96 = .ok (.iand, 1) := by decide +kernel
theorem dX9_collect_97 : decode cX9_collect 97 = .ok (.iastore, 1) := by decide +kernel
theorem dX9_collect_98 : decode cX9_collect 98 = .ok (.lload 4, 2) := by decide +kernel
theorem dX9_collect_100 : decode cX9_collect 100 = .ok (.ldc2_w 197, 3) := by decide +kernel
theorem dX9_collect_103 : decode cX9_collect 103 = .ok (.lcmp, 1) := by decide +kernel
theorem dX9_collect_104 : decode cX9_collect 104 = .ok (.ifCond .gt 39, 3) := by decide +kernel
theorem dX9_collect_107 : decode cX9_collect 107 = .ok (.aload_n 0, 1) := by decide +kernel
theorem dX9_collect_108 : decode cX9_collect 108 = .ok (.getfield 33, 3) := by decide +kernel
theorem dX9_collect_111 : decode cX9_collect 111 = .ok (.bipush 8, 2) := by decide +kernel
theorem dX9_collect_113 : decode cX9_collect 113 = .ok (.iload_n 1, 1) := by decide +kernel
theorem dX9_collect_114 : decode cX9_collect 114 = .ok (.imul, 1) := by decide +kernel
theorem dX9_collect_115 : decode cX9_collect 115 = .ok (.lload 4, 2) := by decide +kernel
theorem dX9_collect_117 : decode cX9_collect 117 = .ok (.l2i, 1) := by decide +kernel
theorem dX9_collect_118 : decode cX9_collect 118 = .ok (.iadd, 1) := by decide +kernel
theorem dX9_collect_119 : decode cX9_collect 119 = .ok (.baload, 1) := by decide +kernel
theorem dX9_collect_120 : decode cX9_collect 120 = .ok (.ifCond .eq 23, 3) := by decide +kernel
theorem dX9_collect_123 : decode cX9_collect 123 = .ok (.aload_n 0, 1) := by decide +kernel
theorem dX9_collect_124 : decode cX9_collect 124 = .ok (.getfield 37, 3) := by decide +kernel
theorem dX9_collect_127 : decode cX9_collect 127 = .ok (.bipush 8, 2) := by decide +kernel
theorem dX9_collect_129 : decode cX9_collect 129 = .ok (.iload_n 1, 1) := by decide +kernel
theorem dX9_collect_130 : decode cX9_collect 130 = .ok (.imul, 1) := by decide +kernel
theorem dX9_collect_131 : decode cX9_collect 131 = .ok (.lload 4, 2) := by decide +kernel
theorem dX9_collect_133 : decode cX9_collect 133 = .ok (.l2i, 1) := by decide +kernel
theorem dX9_collect_134 : decode cX9_collect 134 = .ok (.iadd, 1) := by decide +kernel
theorem dX9_collect_135 : decode cX9_collect 135 = .ok (.iaload, 1) := by decide +kernel
theorem dX9_collect_136 : decode cX9_collect 136 = .ok (.i2l, 1) := by decide +kernel
theorem dX9_collect_137 : decode cX9_collect 137 = .ok (.lload 4, 2) := by decide +kernel
theorem dX9_collect_139 : decode cX9_collect 139 = .ok (.lcmp, 1) := by decide +kernel
theorem dX9_collect_140 : decode cX9_collect 140 = .ok (.ifCond .eq 6, 3) := by decide +kernel
theorem dX9_collect_143 : decode cX9_collect 143 = .ok (.bipush (-3), 2) := by decide +kernel
theorem dX9_collect_145 : decode cX9_collect 145 = .ok (.ireturn, 1) := by decide +kernel
theorem dX9_collect_146 : decode cX9_collect 146 = .ok (.aload_n 0, 1) := by decide +kernel
theorem dX9_collect_147 : decode cX9_collect 147 = .ok (.getfield 30, 3) := by decide +kernel
theorem dX9_collect_150 : decode cX9_collect 150 = .ok (.iload_n 1, 1) := by decide +kernel
theorem dX9_collect_151 : decode cX9_collect 151 = .ok (.aload_n 0, 1) := by decide +kernel
theorem dX9_collect_152 : decode cX9_collect 152 = .ok (.iload_n 3, 1) := by decide +kernel
theorem dX9_collect_153 : decode cX9_collect 153 = .ok (.iconst 4, 1) := by decide +kernel
theorem dX9_collect_154 : decode cX9_collect 154 = .ok (.iadd, 1) := by decide +kernel
theorem dX9_collect_155 : decode cX9_collect 155 = .ok (.iconst 4, 1) := by decide +kernel
theorem dX9_collect_156 : decode cX9_collect 156 = .ok (.invokevirtual 90, 3) := by decide +kernel
theorem dX9_collect_159 : decode cX9_collect 159 = .ok (.ldc2_w 199, 3) := by decide +kernel
theorem dX9_collect_162 : decode cX9_collect 162 = .ok (.land, 1) := by decide +kernel
theorem dX9_collect_163 : decode cX9_collect 163 = .ok (.l2i, 1) := by decide +kernel
theorem dX9_collect_164 : decode cX9_collect 164 = .ok (.iastore, 1) := by decide +kernel
theorem dX9_collect_165 : decode cX9_collect 165 = .ok (.iconst 0, 1) := by decide +kernel
theorem dX9_collect_166 : decode cX9_collect 166 = .ok (.istore 6, 2) := by decide +kernel
theorem dX9_collect_168 : decode cX9_collect 168 = .ok (.iload 6, 2) := by decide +kernel
theorem dX9_collect_170 : decode cX9_collect 170 = .ok (.bipush 8, 2) := by decide +kernel
theorem dX9_collect_172 : decode cX9_collect 172 = .ok (.if_icmp .ge 70, 3) := by decide +kernel
theorem dX9_collect_175 : decode cX9_collect 175 = .ok (.aload_n 0, 1) := by decide +kernel
theorem dX9_collect_176 : decode cX9_collect 176 = .ok (.getfield 33, 3) := by decide +kernel
theorem dX9_collect_179 : decode cX9_collect 179 = .ok (.bipush 8, 2) := by decide +kernel
theorem dX9_collect_181 : decode cX9_collect 181 = .ok (.iload_n 1, 1) := by decide +kernel
theorem dX9_collect_182 : decode cX9_collect 182 = .ok (.imul, 1) := by decide +kernel
theorem dX9_collect_183 : decode cX9_collect 183 = .ok (.iload 6, 2) := by decide +kernel
theorem dX9_collect_185 : decode cX9_collect 185 = .ok (.iadd, 1) := by decide +kernel
theorem dX9_collect_186 : decode cX9_collect 186 = .ok (.baload, 1) := by decide +kernel
theorem dX9_collect_187 : decode cX9_collect 187 = .ok (.ifCond .eq 49, 3) := by decide +kernel
theorem dX9_collect_190 : decode cX9_collect 190 = .ok (.aload_n 0, 1) := by decide +kernel
theorem dX9_collect_191 : decode cX9_collect 191 = .ok (.getfield 37, 3) := by decide +kernel
theorem dX9_collect_194 : decode cX9_collect 194 = .ok (.bipush 8, 2) := by decide +kernel
theorem dX9_collect_196 : decode cX9_collect 196 = .ok (.iload_n 1, 1) := by decide +kernel
theorem dX9_collect_197 : decode cX9_collect 197 = .ok (.imul, 1) := by decide +kernel
theorem dX9_collect_198 : decode cX9_collect 198 = .ok (.iload 6, 2) := by decide +kernel
theorem dX9_collect_200 : decode cX9_collect 200 = .ok (.iadd, 1) := by decide +kernel
theorem dX9_collect_201 : decode cX9_collect 201 = .ok (.iaload, 1) := by decide +kernel
theorem dX9_collect_202 : decode cX9_collect 202 = .ok (.i2l, 1) := by decide +kernel
theorem dX9_collect_203 : decode cX9_collect 203 = .ok (.lload 4, 2) := by decide +kernel
theorem dX9_collect_205 : decode cX9_collect 205 = .ok (.lcmp, 1) := by decide +kernel
theorem dX9_collect_206 : decode cX9_collect 206 = .ok (.ifCond .ne 30, 3) := by decide +kernel
theorem dX9_collect_209 : decode cX9_collect 209 = .ok (.aload_n 0, 1) := by decide +kernel
theorem dX9_collect_210 : decode cX9_collect 210 = .ok (.getfield 33, 3) := by decide +kernel
theorem dX9_collect_213 : decode cX9_collect 213 = .ok (.bipush 8, 2) := by decide +kernel
theorem dX9_collect_215 : decode cX9_collect 215 = .ok (.iload_n 1, 1) := by decide +kernel
theorem dX9_collect_216 : decode cX9_collect 216 = .ok (.imul, 1) := by decide +kernel
theorem dX9_collect_217 : decode cX9_collect 217 = .ok (.iload 6, 2) := by decide +kernel
theorem dX9_collect_219 : decode cX9_collect 219 = .ok (.iadd, 1) := by decide +kernel
theorem dX9_collect_220 : decode cX9_collect 220 = .ok (.iconst 0, 1) := by decide +kernel
theorem dX9_collect_221 : decode cX9_collect 221 = .ok (.bastore, 1) := by decide +kernel
theorem dX9_collect_222 : decode cX9_collect 222 = .ok (.aload_n 0, 1) := by decide +kernel
theorem dX9_collect_223 : decode cX9_collect 223 = .ok (.getfield 37, 3) := by decide +kernel
theorem dX9_collect_226 : decode cX9_collect 226 = .ok (.bipush 8, 2) := by decide +kernel
theorem dX9_collect_228 : decode cX9_collect 228 = .ok (.iload_n 1, 1) := by decide +kernel
theorem dX9_collect_229 : decode cX9_collect 229 = .ok (.imul, 1) := by decide +kernel
theorem dX9_collect_230 : decode cX9_collect 230 = .ok (.iload 6, 2) := by decide +kernel
theorem dX9_collect_232 : decode cX9_collect 232 = .ok (.iadd, 1) := by decide +kernel
theorem dX9_collect_233 : decode cX9_collect 233 = .ok (.bipush (-2), 2) := by decide +kernel
theorem dX9_collect_235 : decode cX9_collect 235 = .ok (.iastore, 1) := by decide +kernel
theorem dX9_collect_236 : decode cX9_collect 236 = .ok (.iinc 6 1, 3) := by decide +kernel
theorem dX9_collect_239 : decode cX9_collect 239 = .ok (.goto (-71), 3) := by decide +kernel
theorem dX9_collect_242 : decode cX9_collect 242 = .ok (.lload 4, 2) := by decide +kernel
theorem dX9_collect_244 : decode cX9_collect 244 = .ok (.l2i, 1) := by decide +kernel
theorem dX9_collect_245 : decode cX9_collect 245 = .ok (.ireturn, 1) := by decide +kernel
theorem dX9_written_0 : decode cX9_written 0 = .ok (.iload_n 1, 1) := by decide +kernel
theorem dX9_written_1 : decode cX9_written 1 = .ok (.iconst 0, 1) := by decide +kernel
theorem dX9_written_2 : decode cX9_written 2 = .ok (.iconst 2, 1) := by decide +kernel
theorem dX9_written_3 : decode cX9_written 3 = .ok (.invokestatic 7, 3) := by decide +kernel
theorem dX9_written_6 : decode cX9_written 6 = .ok (.ifCond .eq 12, 3) := by decide +kernel
theorem dX9_written_9 : decode cX9_written 9 = .ok (.aload_n 0, 1) := by decide +kernel
theorem dX9_written_10 : decode cX9_written 10 = .ok (.getfield 30, 3) := by decide +kernel
theorem dX9_written_13 : decode cX9_written 13 = .ok (.iload_n 1, 1) := by decide +kernel
theorem dX9_written_14 : decode cX9_written 14 = .ok (.iaload, 1) := by decide +kernel
theorem dX9_written_15 : decode cX9_written 15 = .ok (.goto 5, 3) := by decide +kernel
theorem dX9_written_18 : decode cX9_written 18 = .ok (.bipush (-2), 2) := by decide +kernel
theorem dX9_written_20 : decode cX9_written 20 = .ok (.ireturn, 1) := by decide +kernel
theorem dX9_wire_0 : decode cX9_wire 0 = .ok (.iload_n 1, 1) := by decide +kernel
theorem dX9_wire_1 : decode cX9_wire 1 = .ok (.iconst 0, 1) := by decide +kernel
theorem dX9_wire_2 : decode cX9_wire 2 = .ok (.aload_n 0, 1) := by decide +kernel
theorem dX9_wire_3 : decode cX9_wire 3 = .ok (.getfield 165, 3) := by decide +kernel
theorem dX9_wire_6 : decode cX9_wire 6 = .ok (.bipush 16, 2) := by decide +kernel
theorem dX9_wire_8 : decode cX9_wire 8 = .ok (.invokestatic 157, 3) := by decide +kernel
theorem dX9_wire_11 : decode cX9_wire 11 = .ok (.iconst 1, 1) := by decide +kernel
theorem dX9_wire_12 : decode cX9_wire 12 = .ok (.isub, 1) := by decide +kernel
theorem dX9_wire_13 : decode cX9_wire 13 = .ok (.invokestatic 7, 3) := by decide +kernel
theorem dX9_wire_16 : decode cX9_wire 16 = .ok (.ifCond .ne 5, 3) := by decide +kernel
theorem dX9_wire_19 : decode cX9_wire 19 = .ok (.iconst (-1), 1) := by decide +kernel
theorem dX9_wire_20 : decode cX9_wire 20 = .ok (.ireturn, 1) := by decide +kernel
theorem dX9_wire_21 : decode cX9_wire 21 = .ok (.aload_n 0, 1) := by decide +kernel
theorem dX9_wire_22 : decode cX9_wire 22 = .ok (.getfield 165, 3) := by decide +kernel
theorem dX9_wire_25 : decode cX9_wire 25 = .ok (.iconst 1, 1) := by decide +kernel
theorem dX9_wire_26 : decode cX9_wire 26 = .ok (.isub, 1) := by decide +kernel
theorem dX9_wire_27 : decode cX9_wire 27 = .ok (.iload_n 1, 1) := by decide +kernel
theorem dX9_wire_28 : decode cX9_wire 28 = .ok (.isub, 1) := by decide +kernel
theorem dX9_wire_29 : decode cX9_wire 29 = .ok (.bipush 16, 2) := by decide +kernel
theorem dX9_wire_31 : decode cX9_wire 31 = .ok (.irem, 1) := by decide +kernel
theorem dX9_wire_32 : decode cX9_wire 32 = .ok (.istore_n 3, 1) := by decide +kernel
theorem dX9_wire_33 : decode cX9_wire 33 = .ok (.iload_n 2, 1) := by decide +kernel
theorem dX9_wire_34 : decode cX9_wire 34 = .ok (.iconst 0, 1) := by decide +kernel
theorem dX9_wire_35 : decode cX9_wire 35 = .ok (.aload_n 0, 1) := by decide +kernel
theorem dX9_wire_36 : decode cX9_wire 36 = .ok (.getfield 73, 3) := by decide +kernel
theorem dX9_wire_39 : decode cX9_wire 39 = .ok (.iload_n 3, 1) := by decide +kernel
theorem dX9_wire_40 : decode cX9_wire 40 = .ok (.iaload, 1) := by decide +kernel
theorem dX9_wire_41 : decode cX9_wire 41 = .ok (.iconst 1, 1) := by decide +kernel
theorem dX9_wire_42 : decode cX9_wire 42 = .ok (.isub, 1) := by decide +kernel
theorem dX9_wire_43 : decode cX9_wire 43 = .ok (.invokestatic 7, 3) := by decide +kernel
theorem dX9_wire_46 : decode cX9_wire 46 = .ok (.ifCond .eq 21, 3) := by decide +kernel
theorem dX9_wire_49 : decode cX9_wire 49 = .ok (.aload_n 0, 1) := by decide +kernel
theorem dX9_wire_50 : decode cX9_wire 50 = .ok (.getfield 70, 3) := by decide +kernel
theorem dX9_wire_53 : decode cX9_wire 53 = .ok (.bipush 80, 2) := by decide +kernel
theorem dX9_wire_55 : decode cX9_wire 55 = .ok (.iload_n 3, 1) := by decide +kernel
theorem dX9_wire_56 : decode cX9_wire 56 = .ok (.imul, 1) := by decide +kernel
theorem dX9_wire_57 : decode cX9_wire 57 = .ok (.iload_n 2, 1) := by decide +kernel
theorem dX9_wire_58 : decode cX9_wire 58 = .ok (.iadd, 1) := by decide +kernel
theorem dX9_wire_59 : decode cX9_wire 59 = .ok (.baload, 1) := by decide +kernel
theorem dX9_wire_60 : decode cX9_wire 60 = .ok (.sipush 255, 3) := by decide +kernel
theorem dX9_wire_63 : decode cX9_wire 63 = .ok (.iand, 1) := by decide +kernel
theorem dX9_wire_64 : decode cX9_wire 64 = .ok (.goto 4, 3) := by decide +kernel
theorem dX9_wire_67 : decode cX9_wire 67 = .ok (.iconst (-1), 1) := by decide +kernel
theorem dX9_wire_68 : decode cX9_wire 68 = .ok (.ireturn, 1) := by decide +kernel
theorem dX9_disk_0 : decode cX9_disk 0 = .ok (.iload_n 1, 1) := by decide +kernel
theorem dX9_disk_1 : decode cX9_disk 1 = .ok (.iconst 0, 1) := by decide +kernel
theorem dX9_disk_2 : decode cX9_disk 2 = .ok (.bipush 31, 2) := by decide +kernel
theorem dX9_disk_4 : decode cX9_disk 4 = .ok (.invokestatic 7, 3) := by decide +kernel
theorem dX9_disk_7 : decode cX9_disk 7 = .ok (.ifCond .eq 31, 3) := by decide +kernel
theorem dX9_disk_10 : decode cX9_disk 10 = .ok (.iload_n 2, 1) := by decide +kernel
theorem dX9_disk_11 : decode cX9_disk 11 = .ok (.iconst 0, 1) := by decide +kernel
theorem dX9_disk_12 : decode cX9_disk 12 = .ok (.bipush 63, 2) := by decide +kernel
theorem dX9_disk_14 : decode cX9_disk 14 = .ok (.invokestatic 7, 3) := by decide +kernel
theorem dX9_disk_17 : decode cX9_disk 17 = .ok (.ifCond .eq 21, 3) := by decide +kernel
theorem dX9_disk_20 : decode cX9_disk 20 = .ok (.aload_n 0, 1) := by decide +kernel
theorem dX9_disk_21 : decode cX9_disk 21 = .ok (.getfield 46, 3) := by decide +kernel
theorem dX9_disk_24 : decode cX9_disk 24 = .ok (.bipush 64, 2) := by decide +kernel
theorem dX9_disk_26 : decode cX9_disk 26 = .ok (.iload_n 1, 1) := by decide +kernel
theorem dX9_disk_27 : decode cX9_disk 27 = .ok (.imul, 1) := by decide +kernel
theorem dX9_disk_28 : decode cX9_disk 28 = .ok (.iload_n 2, 1) := by decide +kernel
theorem dX9_disk_29 : decode cX9_disk 29 = .ok (.iadd, 1) := by decide +kernel
theorem dX9_disk_30 : decode cX9_disk 30 = .ok (.baload, 1) := by decide +kernel
theorem dX9_disk_31 : decode cX9_disk 31 = .ok (.sipush 255, 3) := by decide +kernel
theorem dX9_disk_34 : decode cX9_disk 34 = .ok (.iand, 1) := by decide +kernel
theorem dX9_disk_35 : decode cX9_disk 35 = .ok (.goto 5, 3) := by decide +kernel
theorem dX9_disk_38 : decode cX9_disk 38 = .ok (.bipush (-2), 2) := by decide +kernel
theorem dX9_disk_40 : decode cX9_disk 40 = .ok (.ireturn, 1) := by decide +kernel
theorem dX9_told_0 : decode cX9_told 0 = .ok (.iload_n 1, 1) := by decide +kernel
theorem dX9_told_1 : decode cX9_told 1 = .ok (.iconst 0, 1) := by decide +kernel
theorem dX9_told_2 : decode cX9_told 2 = .ok (.iconst 2, 1) := by decide +kernel
theorem dX9_told_3 : decode cX9_told 3 = .ok (.invokestatic 7, 3) := by decide +kernel
theorem dX9_told_6 : decode cX9_told 6 = .ok (.ifCond .eq 13, 3) := by decide +kernel
theorem dX9_told_9 : decode cX9_told 9 = .ok (.iload_n 2, 1) := by decide +kernel
theorem dX9_told_10 : decode cX9_told 10 = .ok (.iconst 0, 1) := by decide +kernel
theorem dX9_told_11 : decode cX9_told 11 = .ok (.bipush 6, 2) := by decide +kernel
theorem dX9_told_13 : decode cX9_told 13 = .ok (.invokestatic 7, 3) := by decide +kernel
theorem dX9_told_16 : decode cX9_told 16 = .ok (.ifCond .ne 6, 3) := by decide +kernel
theorem dX9_told_19 : decode cX9_told 19 = .ok (.bipush (-2), 2) := by decide +kernel
theorem dX9_told_21 : decode cX9_told 21 = .ok (.ireturn, 1) := by decide +kernel
theorem dX9_told_22 : decode cX9_told 22 = .ok (.iload_n 2, 1) := by decide +kernel
theorem dX9_told_23 : decode cX9_told 23 = .ok (.tableswitch 97 0 5 #[37, 52, 59, 66, 73, 80], 37) := by decide +kernel
theorem dX9_told_60 : decode cX9_told 60 = .ok (.aload_n 0, 1) := by decide +kernel
theorem dX9_told_61 : decode cX9_told 61 = .ok (.getfield 11, 3) := by decide +kernel
theorem dX9_told_64 : decode cX9_told 64 = .ok (.iload_n 1, 1) := by decide +kernel
theorem dX9_told_65 : decode cX9_told 65 = .ok (.iaload, 1) := by decide +kernel
theorem dX9_told_66 : decode cX9_told 66 = .ok (.ifCond .le 7, 3) := by decide +kernel
theorem dX9_told_69 : decode cX9_told 69 = .ok (.iconst 1, 1) := by decide +kernel
theorem dX9_told_70 : decode cX9_told 70 = .ok (.goto 4, 3) := by decide +kernel
theorem dX9_told_73 : decode cX9_told 73 = .ok (.iconst 0, 1) := by decide +kernel
theorem dX9_told_74 : decode cX9_told 74 = .ok (.ireturn, 1) := by decide +kernel
theorem dX9_told_75 : decode cX9_told 75 = .ok (.aload_n 0, 1) := by decide +kernel
theorem dX9_told_76 : decode cX9_told 76 = .ok (.getfield 15, 3) := by decide +kernel
theorem dX9_told_79 : decode cX9_told 79 = .ok (.iload_n 1, 1) := by decide +kernel
theorem dX9_told_80 : decode cX9_told 80 = .ok (.iaload, 1) := by decide +kernel
theorem dX9_told_81 : decode cX9_told 81 = .ok (.ireturn, 1) := by decide +kernel
theorem dX9_told_82 : decode cX9_told 82 = .ok (.aload_n 0, 1) := by decide +kernel
theorem dX9_told_83 : decode cX9_told 83 = .ok (.getfield 18, 3) := by decide +kernel
theorem dX9_told_86 : decode cX9_told 86 = .ok (.iload_n 1, 1) := by decide +kernel
theorem dX9_told_87 : decode cX9_told 87 = .ok (.iaload, 1) := by decide +kernel
theorem dX9_told_88 : decode cX9_told 88 = .ok (.ireturn, 1) := by decide +kernel
theorem dX9_told_89 : decode cX9_told 89 = .ok (.aload_n 0, 1) := by decide +kernel
theorem dX9_told_90 : decode cX9_told 90 = .ok (.getfield 21, 3) := by decide +kernel
theorem dX9_told_93 : decode cX9_told 93 = .ok (.iload_n 1, 1) := by decide +kernel
theorem dX9_told_94 : decode cX9_told 94 = .ok (.iaload, 1) := by decide +kernel
theorem dX9_told_95 : decode cX9_told 95 = .ok (.ireturn, 1) := by decide +kernel
theorem dX9_told_96 : decode cX9_told 96 = .ok (.aload_n 0, 1) := by decide +kernel
theorem dX9_told_97 : decode cX9_told 97 = .ok (.getfield 11, 3) := by decide +kernel
theorem dX9_told_100 : decode cX9_told 100 = .ok (.iload_n 1, 1) := by decide +kernel
theorem dX9_told_101 : decode cX9_told 101 = .ok (.iaload, 1) := by decide +kernel
theorem dX9_told_102 : decode cX9_told 102 = .ok (.ireturn, 1) := by decide +kernel
theorem dX9_told_103 : decode cX9_told 103 = .ok (.aload_n 0, 1) := by decide +kernel
theorem dX9_told_104 : decode cX9_told 104 = .ok (.getfield 83, 3) := by decide +kernel
theorem dX9_told_107 : decode cX9_told 107 = .ok (.ifCond .eq 11, 3) := by decide +kernel
theorem dX9_told_110 : decode cX9_told 110 = .ok (.aload_n 0, 1) := by decide +kernel
theorem dX9_told_111 : decode cX9_told 111 = .ok (.iload_n 1, 1) := by decide +kernel
theorem dX9_told_112 : decode cX9_told 112 = .ok (.invokevirtual 180, 3) := by decide +kernel
theorem dX9_told_115 : decode cX9_told 115 = .ok (.goto 4, 3) := by decide +kernel
theorem dX9_told_118 : decode cX9_told 118 = .ok (.iconst 0, 1) := by decide +kernel
theorem dX9_told_119 : decode cX9_told 119 = .ok (.ireturn, 1) := by decide +kernel
theorem dX9_told_120 : decode cX9_told 120 = .ok (.aload_n 0, 1) := by decide +kernel
theorem dX9_told_121 : decode cX9_told 121 = .ok (.getfield 27, 3) := by decide +kernel
theorem dX9_told_124 : decode cX9_told 124 = .ok (.iload_n 1, 1) := by decide +kernel
theorem dX9_told_125 : decode cX9_told 125 = .ok (.iaload, 1) := by decide +kernel
theorem dX9_told_126 : decode cX9_told 126 = .ok (.ireturn, 1) := by decide +kernel
theorem dX9_count_0 : decode cX9_count 0 = .ok (.iload_n 1, 1) := by decide +kernel
theorem dX9_count_1 : decode cX9_count 1 = .ok (.tableswitch 68 0 4 #[35, 40, 45, 50, 55], 35) := by decide +kernel
theorem dX9_count_36 : decode cX9_count 36 = .ok (.aload_n 0, 1) := by decide +kernel
theorem dX9_count_37 : decode cX9_count 37 = .ok (.getfield 86, 3) := by decide +kernel
theorem dX9_count_40 : decode cX9_count 40 = .ok (.ireturn, 1) := by decide +kernel
theorem dX9_count_41 : decode cX9_count 41 = .ok (.aload_n 0, 1) := by decide +kernel
theorem dX9_count_42 : decode cX9_count 42 = .ok (.getfield 165, 3) := by decide +kernel
theorem dX9_count_45 : decode cX9_count 45 = .ok (.ireturn, 1) := by decide +kernel
theorem dX9_count_46 : decode cX9_count 46 = .ok (.aload_n 0, 1) := by decide +kernel
theorem dX9_count_47 : decode cX9_count 47 = .ok (.getfield 177, 3) := by decide +kernel
theorem dX9_count_50 : decode cX9_count 50 = .ok (.ireturn, 1) := by decide +kernel
theorem dX9_count_51 : decode cX9_count 51 = .ok (.aload_n 0, 1) := by decide +kernel
theorem dX9_count_52 : decode cX9_count 52 = .ok (.getfield 170, 3) := by decide +kernel
theorem dX9_count_55 : decode cX9_count 55 = .ok (.ireturn, 1) := by decide +kernel
theorem dX9_count_56 : decode cX9_count 56 = .ok (.aload_n 0, 1) := by decide +kernel
theorem dX9_count_57 : decode cX9_count 57 = .ok (.getfield 79, 3) := by decide +kernel
theorem dX9_count_60 : decode cX9_count 60 = .ok (.ifCond .eq 7, 3) := by decide +kernel
theorem dX9_count_63 : decode cX9_count 63 = .ok (.iconst 1, 1) := by decide +kernel
theorem dX9_count_64 : decode cX9_count 64 = .ok (.goto 4, 3) := by decide +kernel
theorem dX9_count_67 : decode cX9_count 67 = .ok (.iconst 0, 1) := by decide +kernel
theorem dX9_count_68 : decode cX9_count 68 = .ok (.ireturn, 1) := by decide +kernel
theorem dX9_count_69 : decode cX9_count 69 = .ok (.bipush (-2), 2) := by decide +kernel
theorem dX9_count_71 : decode cX9_count 71 = .ok (.ireturn, 1) := by decide +kernel
end
section
theorem dJ6_bitCount_0f7a4_0 : decode cJ6_bitCount_0f7a4 0 = .ok (.iload_n 0, 1) := by decide +kernel
theorem dJ6_bitCount_0f7a4_1 : decode cJ6_bitCount_0f7a4 1 = .ok (.iload_n 0, 1) := by decide +kernel
theorem dJ6_bitCount_0f7a4_2 : decode cJ6_bitCount_0f7a4 2 = .ok (.iconst 1, 1) := by decide +kernel
theorem dJ6_bitCount_0f7a4_3 : decode cJ6_bitCount_0f7a4 3 = .ok (.iushr, 1) := by decide +kernel
theorem dJ6_bitCount_0f7a4_4 : decode cJ6_bitCount_0f7a4 4 = .ok (.ldc_w 265, 3) := by decide +kernel
theorem dJ6_bitCount_0f7a4_7 : decode cJ6_bitCount_0f7a4 7 = .ok (.iand, 1) := by decide +kernel
theorem dJ6_bitCount_0f7a4_8 : decode cJ6_bitCount_0f7a4 8 = .ok (.isub, 1) := by decide +kernel
theorem dJ6_bitCount_0f7a4_9 : decode cJ6_bitCount_0f7a4 9 = .ok (.istore_n 0, 1) := by decide +kernel
theorem dJ6_bitCount_0f7a4_10 : decode cJ6_bitCount_0f7a4 10 = .ok (.iload_n 0, 1) := by decide +kernel
theorem dJ6_bitCount_0f7a4_11 : decode cJ6_bitCount_0f7a4 11 = .ok (.ldc_w 266, 3) := by decide +kernel
theorem dJ6_bitCount_0f7a4_14 : decode cJ6_bitCount_0f7a4 14 = .ok (.iand, 1) := by decide +kernel
theorem dJ6_bitCount_0f7a4_15 : decode cJ6_bitCount_0f7a4 15 = .ok (.iload_n 0, 1) := by decide +kernel
theorem dJ6_bitCount_0f7a4_16 : decode cJ6_bitCount_0f7a4 16 = .ok (.iconst 2, 1) := by decide +kernel
theorem dJ6_bitCount_0f7a4_17 : decode cJ6_bitCount_0f7a4 17 = .ok (.iushr, 1) := by decide +kernel
theorem dJ6_bitCount_0f7a4_18 : decode cJ6_bitCount_0f7a4 18 = .ok (.ldc_w 266, 3) := by decide +kernel
theorem dJ6_bitCount_0f7a4_21 : decode cJ6_bitCount_0f7a4 21 = .ok (.iand, 1) := by decide +kernel
theorem dJ6_bitCount_0f7a4_22 : decode cJ6_bitCount_0f7a4 22 = .ok (.iadd, 1) := by decide +kernel
theorem dJ6_bitCount_0f7a4_23 : decode cJ6_bitCount_0f7a4 23 = .ok (.istore_n 0, 1) := by decide +kernel
theorem dJ6_bitCount_0f7a4_24 : decode cJ6_bitCount_0f7a4 24 = .ok (.iload_n 0, 1) := by decide +kernel
theorem dJ6_bitCount_0f7a4_25 : decode cJ6_bitCount_0f7a4 25 = .ok (.iload_n 0, 1) := by decide +kernel
theorem dJ6_bitCount_0f7a4_26 : decode cJ6_bitCount_0f7a4 26 = .ok (.iconst 4, 1) := by decide +kernel
theorem dJ6_bitCount_0f7a4_27 : decode cJ6_bitCount_0f7a4 27 = .ok (.iushr, 1) := by decide +kernel
theorem dJ6_bitCount_0f7a4_28 : decode cJ6_bitCount_0f7a4 28 = .ok (.iadd, 1) := by decide +kernel
theorem dJ6_bitCount_0f7a4_29 : decode cJ6_bitCount_0f7a4 29 = .ok (.ldc_w 267, 3) := by decide +kernel
theorem dJ6_bitCount_0f7a4_32 : decode cJ6_bitCount_0f7a4 32 = .ok (.iand, 1) := by decide +kernel
theorem dJ6_bitCount_0f7a4_33 : decode cJ6_bitCount_0f7a4 33 = .ok (.istore_n 0, 1) := by decide +kernel
theorem dJ6_bitCount_0f7a4_34 : decode cJ6_bitCount_0f7a4 34 = .ok (.iload_n 0, 1) := by decide +kernel
theorem dJ6_bitCount_0f7a4_35 : decode cJ6_bitCount_0f7a4 35 = .ok (.iload_n 0, 1) := by decide +kernel
theorem dJ6_bitCount_0f7a4_36 : decode cJ6_bitCount_0f7a4 36 = .ok (.bipush 8, 2) := by decide +kernel
theorem dJ6_bitCount_0f7a4_38 : decode cJ6_bitCount_0f7a4 38 = .ok (.iushr, 1) := by decide +kernel
theorem dJ6_bitCount_0f7a4_39 : decode cJ6_bitCount_0f7a4 39 = .ok (.iadd, 1) := by decide +kernel
theorem dJ6_bitCount_0f7a4_40 : decode cJ6_bitCount_0f7a4 40 = .ok (.istore_n 0, 1) := by decide +kernel
theorem dJ6_bitCount_0f7a4_41 : decode cJ6_bitCount_0f7a4 41 = .ok (.iload_n 0, 1) := by decide +kernel
theorem dJ6_bitCount_0f7a4_42 : decode cJ6_bitCount_0f7a4 42 = .ok (.iload_n 0, 1) := by decide +kernel
theorem dJ6_bitCount_0f7a4_43 : decode cJ6_bitCount_0f7a4 43 = .ok (.bipush 16, 2) := by decide +kernel
theorem dJ6_bitCount_0f7a4_45 : decode cJ6_bitCount_0f7a4 45 = .ok (.iushr, 1) := by decide +kernel
theorem dJ6_bitCount_0f7a4_46 : decode cJ6_bitCount_0f7a4 46 = .ok (.iadd, 1) := by decide +kernel
theorem dJ6_bitCount_0f7a4_47 : decode cJ6_bitCount_0f7a4 47 = .ok (.istore_n 0, 1) := by decide +kernel
theorem dJ6_bitCount_0f7a4_48 : decode cJ6_bitCount_0f7a4 48 = .ok (.iload_n 0, 1) := by decide +kernel
theorem dJ6_bitCount_0f7a4_49 : decode cJ6_bitCount_0f7a4 49 = .ok (.bipush 63, 2) := by decide +kernel
theorem dJ6_bitCount_0f7a4_51 : decode cJ6_bitCount_0f7a4 51 = .ok (.iand, 1) := by decide +kernel
theorem dJ6_bitCount_0f7a4_52 : decode cJ6_bitCount_0f7a4 52 = .ok (.ireturn, 1) := by decide +kernel
theorem dJ9_min_7cf53_0 : decode cJ9_min_7cf53 0 = .ok (.iload_n 0, 1) := by decide +kernel
theorem dJ9_min_7cf53_1 : decode cJ9_min_7cf53 1 = .ok (.iload_n 1, 1) := by decide +kernel
theorem dJ9_min_7cf53_2 : decode cJ9_min_7cf53 2 = .ok (.if_icmp .gt 7, 3) := by decide +kernel
theorem dJ9_min_7cf53_5 : decode cJ9_min_7cf53 5 = .ok (.iload_n 0, 1) := by decide +kernel
theorem dJ9_min_7cf53_6 : decode cJ9_min_7cf53 6 = .ok (.goto 4, 3) := by decide +kernel
theorem dJ9_min_7cf53_9 : decode cJ9_min_7cf53 9 = .ok (.iload_n 1, 1) := by decide +kernel
theorem dJ9_min_7cf53_10 : decode cJ9_min_7cf53 10 = .ok (.ireturn, 1) := by decide +kernel
theorem dJ0_length_8abf5_0 : decode cJ0_length_8abf5 0 = .ok (.aload_n 0, 1) := by decide +kernel
theorem dJ0_length_8abf5_1 : decode cJ0_length_8abf5 1 = .ok (.getfield 9, 3) := by decide +kernel
theorem dJ0_length_8abf5_4 : decode cJ0_length_8abf5 4 = .ok (.arraylength, 1) := by decide +kernel
theorem dJ0_length_8abf5_5 : decode cJ0_length_8abf5 5 = .ok (.aload_n 0, 1) := by decide +kernel
theorem dJ0_length_8abf5_6 : decode cJ0_length_8abf5 6 = .ok (.invokevirtual 335, 3) := by decide +kernel
theorem dJ0_length_8abf5_9 : decode cJ0_length_8abf5 9 = .ok (.ishr, 1) := by decide +kernel
theorem dJ0_length_8abf5_10 : decode cJ0_length_8abf5 10 = .ok (.ireturn, 1) := by decide +kernel
theorem dJ0_charAt_5068e_0 : decode cJ0_charAt_5068e 0 = .ok (.aload_n 0, 1) := by decide +kernel
theorem dJ0_charAt_5068e_1 : decode cJ0_charAt_5068e 1 = .ok (.invokevirtual 492, 3) := by decide +kernel
theorem dJ0_charAt_5068e_4 : decode cJ0_charAt_5068e 4 = .ok (.ifCond .eq 12, 3) := by decide +kernel
theorem dJ0_charAt_5068e_7 : decode cJ0_charAt_5068e 7 = .ok (.aload_n 0, 1) := by decide +kernel
theorem dJ0_charAt_5068e_8 : decode cJ0_charAt_5068e 8 = .ok (.getfield 9, 3) := by decide +kernel
theorem dJ0_charAt_5068e_11 : decode cJ0_charAt_5068e 11 = .ok (.iload_n 1, 1) := by decide +kernel
theorem dJ0_charAt_5068e_12 : decode cJ0_charAt_5068e 12 = .ok (.invokestatic 495, 3) := by decide +kernel
theorem dJ0_charAt_5068e_15 : decode cJ0_charAt_5068e 15 = .ok (.ireturn, 1) := by decide +kernel
theorem dJ0_charAt_5068e_16 : decode cJ0_charAt_5068e 16 = .ok (.aload_n 0, 1) := by decide +kernel
theorem dJ0_charAt_5068e_17 : decode cJ0_charAt_5068e 17 = .ok (.getfield 9, 3) := by decide +kernel
theorem dJ0_charAt_5068e_20 : decode cJ0_charAt_5068e 20 = .ok (.iload_n 1, 1) := by decide +kernel
theorem dJ0_charAt_5068e_21 : decode cJ0_charAt_5068e 21 = .ok (.invokestatic 498, 3) := by decide +kernel
theorem dJ0_charAt_5068e_24 : decode cJ0_charAt_5068e 24 = .ok (.ireturn, 1) := by decide +kernel
theorem dJ0_coder_7d493_0 : decode cJ0_coder_7d493 0 = .ok (.getstatic 38, 3) := by decide +kernel
theorem dJ0_coder_7d493_3 : decode cJ0_coder_7d493 3 = .ok (.ifCond .eq 10, 3) := by decide +kernel
theorem dJ0_coder_7d493_6 : decode cJ0_coder_7d493 6 = .ok (.aload_n 0, 1) := by decide +kernel
theorem dJ0_coder_7d493_7 : decode cJ0_coder_7d493 7 = .ok (.getfield 15, 3) := by decide +kernel
theorem dJ0_coder_7d493_10 : decode cJ0_coder_7d493 10 = .ok (.goto 4, 3) := by decide +kernel
theorem dJ0_coder_7d493_13 : decode cJ0_coder_7d493 13 = .ok (.iconst 1, 1) := by decide +kernel
theorem dJ0_coder_7d493_14 : decode cJ0_coder_7d493 14 = .ok (.ireturn, 1) := by decide +kernel
theorem dJ0_isLatin1_aae02_0 : decode cJ0_isLatin1_aae02 0 = .ok (.getstatic 38, 3) := by decide +kernel
theorem dJ0_isLatin1_aae02_3 : decode cJ0_isLatin1_aae02 3 = .ok (.ifCond .eq 14, 3) := by decide +kernel
theorem dJ0_isLatin1_aae02_6 : decode cJ0_isLatin1_aae02 6 = .ok (.aload_n 0, 1) := by decide +kernel
theorem dJ0_isLatin1_aae02_7 : decode cJ0_isLatin1_aae02 7 = .ok (.getfield 15, 3) := by decide +kernel
theorem dJ0_isLatin1_aae02_10 : decode cJ0_isLatin1_aae02 10 = .ok (.ifCond .ne 7, 3) := by decide +kernel
theorem dJ0_isLatin1_aae02_13 : decode cJ0_isLatin1_aae02 13 = .ok (.iconst 1, 1) := by decide +kernel
theorem dJ0_isLatin1_aae02_14 : decode cJ0_isLatin1_aae02 14 = .ok (.goto 4, 3) := by decide +kernel
theorem dJ0_isLatin1_aae02_17 : decode cJ0_isLatin1_aae02 17 = .ok (.iconst 0, 1) := by decide +kernel
theorem dJ0_isLatin1_aae02_18 : decode cJ0_isLatin1_aae02 18 = .ok (.ireturn, 1) := by decide +kernel
theorem dJ0_checkIndex_df160_0 : decode cJ0_checkIndex_df160 0 = .ok (.iload_n 0, 1) := by decide +kernel
theorem dJ0_checkIndex_df160_1 : decode cJ0_checkIndex_df160 1 = .ok (.iload_n 1, 1) := by decide +kernel
theorem dJ0_checkIndex_df160_2 : decode cJ0_checkIndex_df160 2 = .ok (.getstatic 1053, 3) := by decide +kernel
theorem dJ0_checkIndex_df160_5 : decode cJ0_checkIndex_df160 5 = .ok (.invokestatic 1059, 3) := by decide +kernel
theorem dJ0_checkIndex_df160_8 : decode cJ0_checkIndex_df160 8 = .ok (.pop, 1) := by decide +kernel
theorem dJ0_checkIndex_df160_9 : decode cJ0_checkIndex_df160 9 = .ok (.return_, 1) := by decide +kernel
theorem dJ1_charAt_3b067_0 : decode cJ1_charAt_3b067 0 = .ok (.iload_n 1, 1) := by decide +kernel
theorem dJ1_charAt_3b067_1 : decode cJ1_charAt_3b067 1 = .ok (.aload_n 0, 1) := by decide +kernel
theorem dJ1_charAt_3b067_2 : decode cJ1_charAt_3b067 2 = .ok (.arraylength, 1) := by decide +kernel
theorem dJ1_charAt_3b067_3 : decode cJ1_charAt_3b067 3 = .ok (.invokestatic 9, 3) := by decide +kernel
theorem dJ1_charAt_3b067_6 : decode cJ1_charAt_3b067 6 = .ok (.aload_n 0, 1) := by decide +kernel
theorem dJ1_charAt_3b067_7 : decode cJ1_charAt_3b067 7 = .ok (.iload_n 1, 1) := by decide +kernel
theorem dJ1_charAt_3b067_8 : decode cJ1_charAt_3b067 8 = .ok (.baload, 1) := by decide +kernel
theorem dJ1_charAt_3b067_9 : decode cJ1_charAt_3b067 9 = .ok (.sipush 255, 3) := by decide +kernel
theorem dJ1_charAt_3b067_12 : decode cJ1_charAt_3b067 12 = .ok (.iand, 1) := by decide +kernel
theorem dJ1_charAt_3b067_13 : decode cJ1_charAt_3b067 13 = .ok (.i2c, 1) := by decide +kernel
theorem dJ1_charAt_3b067_14 : decode cJ1_charAt_3b067 14 = .ok (.ireturn, 1) := by decide +kernel
theorem dJ2_getChar_3b067_0 : decode cJ2_getChar_3b067 0 = .ok (.getstatic 44, 3) := by decide +kernel
theorem dJ2_getChar_3b067_3 : decode cJ2_getChar_3b067 3 = .ok (.ifCond .ne 25, 3) := by decide +kernel
theorem dJ2_getChar_3b067_6 : decode cJ2_getChar_3b067 6 = .ok (.iload_n 1, 1) := by decide +kernel
theorem dJ2_getChar_3b067_7 : decode cJ2_getChar_3b067 7 = .ok (.ifCond .lt 11, 3) := by decide +kernel
theorem dJ2_getChar_3b067_10 : decode cJ2_getChar_3b067 10 = .ok (.iload_n 1, 1) := by decide +kernel
theorem dJ2_getChar_3b067_11 : decode cJ2_getChar_3b067 11 = .ok (.aload_n 0, 1) := by decide +kernel
theorem dJ2_getChar_3b067_12 : decode cJ2_getChar_3b067 12 = .ok (.invokestatic 48, 3) := by decide +kernel
theorem dJ2_getChar_3b067_15 : decode cJ2_getChar_3b067 15 = .ok (.if_icmp .lt 13, 3) := by decide +kernel
theorem dJ2_getChar_3b067_18 : decode cJ2_getChar_3b067 18 = .ok (.new 52, 3) := by decide +kernel
theorem dJ2_getChar_3b067_21 : decode cJ2_getChar_3b067 21 = .ok (.dup, 1) := by decide +kernel
theorem dJ2_getChar_3b067_22 : decode cJ2_getChar_3b067 22 = .ok (.ldc 54, 2) := by decide +kernel
theorem dJ2_getChar_3b067_24 : decode cJ2_getChar_3b067 24 = .ok (.invokespecial 56, 3) := by decide +kernel
theorem dJ2_getChar_3b067_27 : decode cJ2_getChar_3b067 27 = .ok (.athrow, 1) := by decide +kernel
theorem dJ2_getChar_3b067_28 : decode cJ2_getChar_3b067 28 = .ok (.iload_n 1, 1) := by decide +kernel
theorem dJ2_getChar_3b067_29 : decode cJ2_getChar_3b067 29 = .ok (.iconst 1, 1) := by decide +kernel
theorem dJ2_getChar_3b067_30 : decode cJ2_getChar_3b067 30 = .ok (.ishl, 1) := by decide +kernel
theorem dJ2_getChar_3b067_31 : decode cJ2_getChar_3b067 31 = .ok (.istore_n 1, 1) := by decide +kernel
theorem dJ2_getChar_3b067_32 : decode cJ2_getChar_3b067 32 = .ok (.aload_n 0, 1) := by decide +kernel
theorem dJ2_getChar_3b067_33 : decode cJ2_getChar_3b067 33 = .ok (.iload_n 1, 1) := by decide +kernel
theorem dJ2_getChar_3b067_34 : decode cJ2_getChar_3b067 34 = .ok (.iinc 1 1, 3) := by decide +kernel
theorem dJ2_getChar_3b067_37 : decode cJ2_getChar_3b067 37 = .ok (.baload, 1) := by decide +kernel
theorem dJ2_getChar_3b067_38 : decode cJ2_getChar_3b067 38 = .ok (.sipush 255, 3) := by decide +kernel
theorem dJ2_getChar_3b067_41 : decode cJ2_getChar_3b067 41 = .ok (.iand, 1) := by decide +kernel
theorem dJ2_getChar_3b067_42 : decode cJ2_getChar_3b067 42 = .ok (.getstatic 59, 3) := by decide +kernel
theorem dJ2_getChar_3b067_45 : decode cJ2_getChar_3b067 45 = .ok (.ishl, 1) := by decide +kernel
theorem dJ2_getChar_3b067_46 : decode cJ2_getChar_3b067 46 = .ok (.aload_n 0, 1) := by decide +kernel
theorem dJ2_getChar_3b067_47 : decode cJ2_getChar_3b067 47 = .ok (.iload_n 1, 1) := by decide +kernel
theorem dJ2_getChar_3b067_48 : decode cJ2_getChar_3b067 48 = .ok (.baload, 1) := by decide +kernel
theorem dJ2_getChar_3b067_49 : decode cJ2_getChar_3b067 49 = .ok (.sipush 255, 3) := by decide +kernel
theorem dJ2_getChar_3b067_52 : decode cJ2_getChar_3b067 52 = .ok (.iand, 1) := by decide +kernel
theorem dJ2_getChar_3b067_53 : decode cJ2_getChar_3b067 53 = .ok (.getstatic 63, 3) := by decide +kernel
theorem dJ2_getChar_3b067_56 : decode cJ2_getChar_3b067 56 = .ok (.ishl, 1) := by decide +kernel
theorem dJ2_getChar_3b067_57 : decode cJ2_getChar_3b067 57 = .ok (.ior, 1) := by decide +kernel
theorem dJ2_getChar_3b067_58 : decode cJ2_getChar_3b067 58 = .ok (.i2c, 1) := by decide +kernel
theorem dJ2_getChar_3b067_59 : decode cJ2_getChar_3b067 59 = .ok (.ireturn, 1) := by decide +kernel
theorem dJ2_length_9d52b_0 : decode cJ2_length_9d52b 0 = .ok (.aload_n 0, 1) := by decide +kernel
theorem dJ2_length_9d52b_1 : decode cJ2_length_9d52b 1 = .ok (.arraylength, 1) := by decide +kernel
theorem dJ2_length_9d52b_2 : decode cJ2_length_9d52b 2 = .ok (.iconst 1, 1) := by decide +kernel
theorem dJ2_length_9d52b_3 : decode cJ2_length_9d52b 3 = .ok (.ishr, 1) := by decide +kernel
theorem dJ2_length_9d52b_4 : decode cJ2_length_9d52b 4 = .ok (.ireturn, 1) := by decide +kernel
theorem dJ2_charAt_3b067_0 : decode cJ2_charAt_3b067 0 = .ok (.iload_n 1, 1) := by decide +kernel
theorem dJ2_charAt_3b067_1 : decode cJ2_charAt_3b067 1 = .ok (.aload_n 0, 1) := by decide +kernel
theorem dJ2_charAt_3b067_2 : decode cJ2_charAt_3b067 2 = .ok (.invokestatic 67, 3) := by decide +kernel
theorem dJ2_charAt_3b067_5 : decode cJ2_charAt_3b067 5 = .ok (.aload_n 0, 1) := by decide +kernel
theorem dJ2_charAt_3b067_6 : decode cJ2_charAt_3b067 6 = .ok (.iload_n 1, 1) := by decide +kernel
theorem dJ2_charAt_3b067_7 : decode cJ2_charAt_3b067 7 = .ok (.invokestatic 71, 3) := by decide +kernel
theorem dJ2_charAt_3b067_10 : decode cJ2_charAt_3b067 10 = .ok (.ireturn, 1) := by decide +kernel
theorem dJ2_checkIndex_2214a_0 : decode cJ2_checkIndex_2214a 0 = .ok (.iload_n 0, 1) := by decide +kernel
theorem dJ2_checkIndex_2214a_1 : decode cJ2_checkIndex_2214a 1 = .ok (.aload_n 1, 1) := by decide +kernel
theorem dJ2_checkIndex_2214a_2 : decode cJ2_checkIndex_2214a 2 = .ok (.invokestatic 48, 3) := by decide +kernel
theorem dJ2_checkIndex_2214a_5 : decode cJ2_checkIndex_2214a 5 = .ok (.invokestatic 414, 3) := by decide +kernel
theorem dJ2_checkIndex_2214a_8 : decode cJ2_checkIndex_2214a 8 = .ok (.return_, 1) := by decide +kernel
theorem dJ7_fill_53178_0 : decode cJ7_fill_53178 0 = .ok (.iconst 0, 1) := by decide +kernel
theorem dJ7_fill_53178_1 : decode cJ7_fill_53178 1 = .ok (.istore_n 2, 1) := by decide +kernel
theorem dJ7_fill_53178_2 : decode cJ7_fill_53178 2 = .ok (.aload_n 0, 1) := by decide +kernel
theorem dJ7_fill_53178_3 : decode cJ7_fill_53178 3 = .ok (.arraylength, 1) := by decide +kernel
theorem dJ7_fill_53178_4 : decode cJ7_fill_53178 4 = .ok (.istore_n 3, 1) := by decide +kernel
theorem dJ7_fill_53178_5 : decode cJ7_fill_53178 5 = .ok (.iload_n 2, 1) := by decide +kernel
theorem dJ7_fill_53178_6 : decode cJ7_fill_53178 6 = .ok (.iload_n 3, 1) := by decide +kernel
theorem dJ7_fill_53178_7 : decode cJ7_fill_53178 7 = .ok (.if_icmp .ge 13, 3) := by decide +kernel
theorem dJ7_fill_53178_10 : decode cJ7_fill_53178 10 = .ok (.aload_n 0, 1) := by decide +kernel
theorem dJ7_fill_53178_11 : decode cJ7_fill_53178 11 = .ok (.iload_n 2, 1) := by decide +kernel
theorem dJ7_fill_53178_12 : decode cJ7_fill_53178 12 = .ok (.iload_n 1, 1) := by decide +kernel
theorem dJ7_fill_53178_13 : decode cJ7_fill_53178 13 = .ok (.iastore, 1) := by decide +kernel
theorem dJ7_fill_53178_14 : decode cJ7_fill_53178 14 = .ok (.iinc 2 1, 3) := by decide +kernel
theorem dJ7_fill_53178_17 : decode cJ7_fill_53178 17 = .ok (.goto (-12), 3) := by decide +kernel
theorem dJ7_fill_53178_20 : decode cJ7_fill_53178 20 = .ok (.return_, 1) := by decide +kernel
theorem dJ7_fill_031fb_0 : decode cJ7_fill_031fb 0 = .ok (.iconst 0, 1) := by decide +kernel
theorem dJ7_fill_031fb_1 : decode cJ7_fill_031fb 1 = .ok (.istore_n 2, 1) := by decide +kernel
theorem dJ7_fill_031fb_2 : decode cJ7_fill_031fb 2 = .ok (.aload_n 0, 1) := by decide +kernel
theorem dJ7_fill_031fb_3 : decode cJ7_fill_031fb 3 = .ok (.arraylength, 1) := by decide +kernel
theorem dJ7_fill_031fb_4 : decode cJ7_fill_031fb 4 = .ok (.istore_n 3, 1) := by decide +kernel
theorem dJ7_fill_031fb_5 : decode cJ7_fill_031fb 5 = .ok (.iload_n 2, 1) := by decide +kernel
theorem dJ7_fill_031fb_6 : decode cJ7_fill_031fb 6 = .ok (.iload_n 3, 1) := by decide +kernel
theorem dJ7_fill_031fb_7 : decode cJ7_fill_031fb 7 = .ok (.if_icmp .ge 13, 3) := by decide +kernel
theorem dJ7_fill_031fb_10 : decode cJ7_fill_031fb 10 = .ok (.aload_n 0, 1) := by decide +kernel
theorem dJ7_fill_031fb_11 : decode cJ7_fill_031fb 11 = .ok (.iload_n 2, 1) := by decide +kernel
theorem dJ7_fill_031fb_12 : decode cJ7_fill_031fb 12 = .ok (.iload_n 1, 1) := by decide +kernel
theorem dJ7_fill_031fb_13 : decode cJ7_fill_031fb 13 = .ok (.bastore, 1) := by decide +kernel
theorem dJ7_fill_031fb_14 : decode cJ7_fill_031fb 14 = .ok (.iinc 2 1, 3) := by decide +kernel
theorem dJ7_fill_031fb_17 : decode cJ7_fill_031fb 17 = .ok (.goto (-12), 3) := by decide +kernel
theorem dJ7_fill_031fb_20 : decode cJ7_fill_031fb 20 = .ok (.return_, 1) := by decide +kernel
theorem dJ3_checkIndex_8e157_0 : decode cJ3_checkIndex_8e157 0 = .ok (.iload_n 0, 1) := by decide +kernel
theorem dJ3_checkIndex_8e157_1 : decode cJ3_checkIndex_8e157 1 = .ok (.ifCond .lt 8, 3) := by decide +kernel
theorem dJ3_checkIndex_8e157_4 : decode cJ3_checkIndex_8e157 4 = .ok (.iload_n 0, 1) := by decide +kernel
theorem dJ3_checkIndex_8e157_5 : decode cJ3_checkIndex_8e157 5 = .ok (.iload_n 1, 1) := by decide +kernel
theorem dJ3_checkIndex_8e157_6 : decode cJ3_checkIndex_8e157 6 = .ok (.if_icmp .lt 10, 3) := by decide +kernel
theorem dJ3_checkIndex_8e157_9 : decode cJ3_checkIndex_8e157 9 = .ok (.aload_n 2, 1) := by decide +kernel
theorem dJ3_checkIndex_8e157_10 : decode cJ3_checkIndex_8e157 10 = .ok (.iload_n 0, 1) := by decide +kernel
theorem dJ3_checkIndex_8e157_11 : decode cJ3_checkIndex_8e157 11 = .ok (.iload_n 1, 1) := by decide +kernel
theorem dJ3_checkIndex_8e157_12 : decode cJ3_checkIndex_8e157 12 = .ok (.invokestatic 95, 3) := by decide +kernel
theorem dJ3_checkIndex_8e157_15 : decode cJ3_checkIndex_8e157 15 = .ok (.athrow, 1) := by decide +kernel
theorem dJ3_checkIndex_8e157_16 : decode cJ3_checkIndex_8e157 16 = .ok (.iload_n 0, 1) := by decide +kernel
theorem dJ3_checkIndex_8e157_17 : decode cJ3_checkIndex_8e157 17 = .ok (.ireturn, 1) := by decide +kernel
theorem dL_law_0 : decode cL_law 0 = .ok (.new 7, 3) := by decide +kernel
theorem dL_law_3 : decode cL_law 3 = .ok (.dup, 1) := by decide +kernel
theorem dL_law_4 : decode cL_law 4 = .ok (.invokespecial 9, 3) := by decide +kernel
theorem dL_law_7 : decode cL_law 7 = .ok (.astore_n 1, 1) := by decide +kernel
theorem dL_law_8 : decode cL_law 8 = .ok (.new 10, 3) := by decide +kernel
theorem dL_law_11 : decode cL_law 11 = .ok (.dup, 1) := by decide +kernel
theorem dL_law_12 : decode cL_law 12 = .ok (.invokespecial 12, 3) := by decide +kernel
theorem dL_law_15 : decode cL_law 15 = .ok (.astore_n 2, 1) := by decide +kernel
theorem dL_law_16 : decode cL_law 16 = .ok (.iconst 0, 1) := by decide +kernel
theorem dL_law_17 : decode cL_law 17 = .ok (.istore_n 3, 1) := by decide +kernel
theorem dL_law_18 : decode cL_law 18 = .ok (.iload_n 3, 1) := by decide +kernel
theorem dL_law_19 : decode cL_law 19 = .ok (.aload_n 0, 1) := by decide +kernel
theorem dL_law_20 : decode cL_law 20 = .ok (.arraylength, 1) := by decide +kernel
theorem dL_law_21 : decode cL_law 21 = .ok (.bipush 6, 2) := by decide +kernel
theorem dL_law_23 : decode cL_law 23 = .ok (.isub, 1) := by decide +kernel
theorem dL_law_24 : decode cL_law 24 = .ok (.if_icmp .gt 728, 3) := by decide +kernel
theorem dL_law_27 : decode cL_law 27 = .ok (.aload_n 0, 1) := by decide +kernel
theorem dL_law_28 : decode cL_law 28 = .ok (.iload_n 3, 1) := by decide +kernel
theorem dL_law_29 : decode cL_law 29 = .ok (.iaload, 1) := by decide +kernel
theorem dL_law_30 : decode cL_law 30 = .ok (.bipush 31, 2) := by decide +kernel
theorem dL_law_32 : decode cL_law 32 = .ok (.iand, 1) := by decide +kernel
theorem dL_law_33 : decode cL_law 33 = .ok (.tableswitch 713 0 17 #[87, 126, 165, 228, 241, 274, 297, 320, 383, 406, 469, 532, 545, 568, 591, 624, 657, 690], 87) := by decide +kernel
theorem dL_law_120 : decode cL_law 120 = .ok (.aload_n 1, 1) := by decide +kernel
theorem dL_law_121 : decode cL_law 121 = .ok (.aload_n 0, 1) := by decide +kernel
theorem dL_law_122 : decode cL_law 122 = .ok (.iload_n 3, 1) := by decide +kernel
theorem dL_law_123 : decode cL_law 123 = .ok (.iconst 1, 1) := by decide +kernel
theorem dL_law_124 : decode cL_law 124 = .ok (.iadd, 1) := by decide +kernel
theorem dL_law_125 : decode cL_law 125 = .ok (.iaload, 1) := by decide +kernel
theorem dL_law_126 : decode cL_law 126 = .ok (.ifCond .eq 7, 3) := by decide +kernel
theorem dL_law_129 : decode cL_law 129 = .ok (.iconst 1, 1) := by decide +kernel
theorem dL_law_130 : decode cL_law 130 = .ok (.goto 4, 3) := by decide +kernel
theorem dL_law_133 : decode cL_law 133 = .ok (.iconst 0, 1) := by decide +kernel
theorem dL_law_134 : decode cL_law 134 = .ok (.invokevirtual 13, 3) := by decide +kernel
theorem dL_law_137 : decode cL_law 137 = .ok (.aload_n 2, 1) := by decide +kernel
theorem dL_law_138 : decode cL_law 138 = .ok (.aload_n 0, 1) := by decide +kernel
theorem dL_law_139 : decode cL_law 139 = .ok (.iload_n 3, 1) := by decide +kernel
theorem dL_law_140 : decode cL_law 140 = .ok (.iconst 1, 1) := by decide +kernel
theorem dL_law_141 : decode cL_law 141 = .ok (.iadd, 1) := by decide +kernel
theorem dL_law_142 : decode cL_law 142 = .ok (.iaload, 1) := by decide +kernel
theorem dL_law_143 : decode cL_law 143 = .ok (.ifCond .eq 7, 3) := by decide +kernel
theorem dL_law_146 : decode cL_law 146 = .ok (.iconst 1, 1) := by decide +kernel
theorem dL_law_147 : decode cL_law 147 = .ok (.goto 4, 3) := by decide +kernel
theorem dL_law_150 : decode cL_law 150 = .ok (.iconst 0, 1) := by decide +kernel
theorem dL_law_151 : decode cL_law 151 = .ok (.invokevirtual 17, 3) := by decide +kernel
theorem dL_law_154 : decode cL_law 154 = .ok (.if_icmp .eq 592, 3) := by decide +kernel
theorem dL_law_157 : decode cL_law 157 = .ok (.iconst 0, 1) := by decide +kernel
theorem dL_law_158 : decode cL_law 158 = .ok (.ireturn, 1) := by decide +kernel
theorem dL_law_159 : decode cL_law 159 = .ok (.aload_n 1, 1) := by decide +kernel
theorem dL_law_160 : decode cL_law 160 = .ok (.aload_n 0, 1) := by decide +kernel
theorem dL_law_161 : decode cL_law 161 = .ok (.iload_n 3, 1) := by decide +kernel
theorem dL_law_162 : decode cL_law 162 = .ok (.iconst 1, 1) := by decide +kernel
theorem dL_law_163 : decode cL_law 163 = .ok (.iadd, 1) := by decide +kernel
theorem dL_law_164 : decode cL_law 164 = .ok (.iaload, 1) := by decide +kernel
theorem dL_law_165 : decode cL_law 165 = .ok (.ifCond .eq 7, 3) := by decide +kernel
theorem dL_law_168 : decode cL_law 168 = .ok (.iconst 1, 1) := by decide +kernel
theorem dL_law_169 : decode cL_law 169 = .ok (.goto 4, 3) := by decide +kernel
theorem dL_law_172 : decode cL_law 172 = .ok (.iconst 0, 1) := by decide +kernel
theorem dL_law_173 : decode cL_law 173 = .ok (.invokevirtual 18, 3) := by decide +kernel
theorem dL_law_176 : decode cL_law 176 = .ok (.aload_n 2, 1) := by decide +kernel
theorem dL_law_177 : decode cL_law 177 = .ok (.aload_n 0, 1) := by decide +kernel
theorem dL_law_178 : decode cL_law 178 = .ok (.iload_n 3, 1) := by decide +kernel
theorem dL_law_179 : decode cL_law 179 = .ok (.iconst 1, 1) := by decide +kernel
theorem dL_law_180 : decode cL_law 180 = .ok (.iadd, 1) := by decide +kernel
theorem dL_law_181 : decode cL_law 181 = .ok (.iaload, 1) := by decide +kernel
theorem dL_law_182 : decode cL_law 182 = .ok (.ifCond .eq 7, 3) := by decide +kernel
theorem dL_law_185 : decode cL_law 185 = .ok (.iconst 1, 1) := by decide +kernel
theorem dL_law_186 : decode cL_law 186 = .ok (.goto 4, 3) := by decide +kernel
theorem dL_law_189 : decode cL_law 189 = .ok (.iconst 0, 1) := by decide +kernel
theorem dL_law_190 : decode cL_law 190 = .ok (.invokevirtual 21, 3) := by decide +kernel
theorem dL_law_193 : decode cL_law 193 = .ok (.if_icmp .eq 553, 3) := by decide +kernel
theorem dL_law_196 : decode cL_law 196 = .ok (.iconst 0, 1) := by decide +kernel
theorem dL_law_197 : decode cL_law 197 = .ok (.ireturn, 1) := by decide +kernel
theorem dL_law_198 : decode cL_law 198 = .ok (.aload_n 1, 1) := by decide +kernel
theorem dL_law_199 : decode cL_law 199 = .ok (.aload_n 0, 1) := by decide +kernel
theorem dL_law_200 : decode cL_law 200 = .ok (.iload_n 3, 1) := by decide +kernel
theorem dL_law_201 : decode cL_law 201 = .ok (.iconst 1, 1) := by decide +kernel
theorem dL_law_202 : decode cL_law 202 = .ok (.iadd, 1) := by decide +kernel
theorem dL_law_203 : decode cL_law 203 = .ok (.iaload, 1) := by decide +kernel
theorem dL_law_204 : decode cL_law 204 = .ok (.aload_n 0, 1) := by decide +kernel
theorem dL_law_205 : decode cL_law 205 = .ok (.iload_n 3, 1) := by decide +kernel
theorem dL_law_206 : decode cL_law 206 = .ok (.iconst 2, 1) := by decide +kernel
theorem dL_law_207 : decode cL_law 207 = .ok (.iadd, 1) := by decide +kernel
theorem dL_law_208 : decode cL_law 208 = .ok (.iaload, 1) := by decide +kernel
theorem dL_law_209 : decode cL_law 209 = .ok (.aload_n 0, 1) := by decide +kernel
theorem dL_law_210 : decode cL_law 210 = .ok (.iload_n 3, 1) := by decide +kernel
theorem dL_law_211 : decode cL_law 211 = .ok (.iconst 3, 1) := by decide +kernel
theorem dL_law_212 : decode cL_law 212 = .ok (.iadd, 1) := by decide +kernel
theorem dL_law_213 : decode cL_law 213 = .ok (.iaload, 1) := by decide +kernel
theorem dL_law_214 : decode cL_law 214 = .ok (.aload_n 0, 1) := by decide +kernel
theorem dL_law_215 : decode cL_law 215 = .ok (.iload_n 3, 1) := by decide +kernel
theorem dL_law_216 : decode cL_law 216 = .ok (.iconst 4, 1) := by decide +kernel
theorem dL_law_217 : decode cL_law 217 = .ok (.iadd, 1) := by decide +kernel
theorem dL_law_218 : decode cL_law 218 = .ok (.iaload, 1) := by decide +kernel
theorem dL_law_219 : decode cL_law 219 = .ok (.aload_n 0, 1) := by decide +kernel
theorem dL_law_220 : decode cL_law 220 = .ok (.iload_n 3, 1) := by decide +kernel
theorem dL_law_221 : decode cL_law 221 = .ok (.iconst 5, 1) := by decide +kernel
theorem dL_law_222 : decode cL_law 222 = .ok (.iadd, 1) := by decide +kernel
theorem dL_law_223 : decode cL_law 223 = .ok (.iaload, 1) := by decide +kernel
theorem dL_law_224 : decode cL_law 224 = .ok (.invokevirtual 22, 3) := by decide +kernel
theorem dL_law_227 : decode cL_law 227 = .ok (.aload_n 2, 1) := by decide +kernel
theorem dL_law_228 : decode cL_law 228 = .ok (.aload_n 0, 1) := by decide +kernel
theorem dL_law_229 : decode cL_law 229 = .ok (.iload_n 3, 1) := by decide +kernel
theorem dL_law_230 : decode cL_law 230 = .ok (.iconst 1, 1) := by decide +kernel
theorem dL_law_231 : decode cL_law 231 = .ok (.iadd, 1) := by decide +kernel
theorem dL_law_232 : decode cL_law 232 = .ok (.iaload, 1) := by decide +kernel
theorem dL_law_233 : decode cL_law 233 = .ok (.aload_n 0, 1) := by decide +kernel
theorem dL_law_234 : decode cL_law 234 = .ok (.iload_n 3, 1) := by decide +kernel
theorem dL_law_235 : decode cL_law 235 = .ok (.iconst 2, 1) := by decide +kernel
theorem dL_law_236 : decode cL_law 236 = .ok (.iadd, 1) := by decide +kernel
theorem dL_law_237 : decode cL_law 237 = .ok (.iaload, 1) := by decide +kernel
theorem dL_law_238 : decode cL_law 238 = .ok (.aload_n 0, 1) := by decide +kernel
theorem dL_law_239 : decode cL_law 239 = .ok (.iload_n 3, 1) := by decide +kernel
theorem dL_law_240 : decode cL_law 240 = .ok (.iconst 3, 1) := by decide +kernel
theorem dL_law_241 : decode cL_law 241 = .ok (.iadd, 1) := by decide +kernel
theorem dL_law_242 : decode cL_law 242 = .ok (.iaload, 1) := by decide +kernel
theorem dL_law_243 : decode cL_law 243 = .ok (.aload_n 0, 1) := by decide +kernel
theorem dL_law_244 : decode cL_law 244 = .ok (.iload_n 3, 1) := by decide +kernel
theorem dL_law_245 : decode cL_law 245 = .ok (.iconst 4, 1) := by decide +kernel
theorem dL_law_246 : decode cL_law 246 = .ok (.iadd, 1) := by decide +kernel
theorem dL_law_247 : decode cL_law 247 = .ok (.iaload, 1) := by decide +kernel
theorem dL_law_248 : decode cL_law 248 = .ok (.aload_n 0, 1) := by decide +kernel
theorem dL_law_249 : decode cL_law 249 = .ok (.iload_n 3, 1) := by decide +kernel
theorem dL_law_250 : decode cL_law 250 = .ok (.iconst 5, 1) := by decide +kernel
theorem dL_law_251 : decode cL_law 251 = .ok (.iadd, 1) := by decide +kernel
theorem dL_law_252 : decode cL_law 252 = .ok (.iaload, 1) := by decide +kernel
theorem dL_law_253 : decode cL_law 253 = .ok (.invokevirtual 26, 3) := by decide +kernel
theorem dL_law_256 : decode cL_law 256 = .ok (.if_icmp .eq 490, 3) := by decide +kernel
theorem dL_law_259 : decode cL_law 259 = .ok (.iconst 0, 1) := by decide +kernel
theorem dL_law_260 : decode cL_law 260 = .ok (.ireturn, 1) := by decide +kernel
theorem dL_law_261 : decode cL_law 261 = .ok (.aload_n 1, 1) := by decide +kernel
theorem dL_law_262 : decode cL_law 262 = .ok (.invokevirtual 27, 3) := by decide +kernel
theorem dL_law_265 : decode cL_law 265 = .ok (.aload_n 2, 1) := by decide +kernel
theorem dL_law_266 : decode cL_law 266 = .ok (.invokevirtual 31, 3) := by decide +kernel
theorem dL_law_269 : decode cL_law 269 = .ok (.if_icmp .eq 477, 3) := by decide +kernel
theorem dL_law_272 : decode cL_law 272 = .ok (.iconst 0, 1) := by decide +kernel
theorem dL_law_273 : decode cL_law 273 = .ok (.ireturn, 1) := by decide +kernel
theorem dL_law_274 : decode cL_law 274 = .ok (.aload_n 1, 1) := by decide +kernel
theorem dL_law_275 : decode cL_law 275 = .ok (.aload_n 0, 1) := by decide +kernel
theorem dL_law_276 : decode cL_law 276 = .ok (.iload_n 3, 1) := by decide +kernel
theorem dL_law_277 : decode cL_law 277 = .ok (.iconst 1, 1) := by decide +kernel
theorem dL_law_278 : decode cL_law 278 = .ok (.iadd, 1) := by decide +kernel
theorem dL_law_279 : decode cL_law 279 = .ok (.iaload, 1) := by decide +kernel
theorem dL_law_280 : decode cL_law 280 = .ok (.aload_n 0, 1) := by decide +kernel
theorem dL_law_281 : decode cL_law 281 = .ok (.iload_n 3, 1) := by decide +kernel
theorem dL_law_282 : decode cL_law 282 = .ok (.iconst 2, 1) := by decide +kernel
theorem dL_law_283 : decode cL_law 283 = .ok (.iadd, 1) := by decide +kernel
theorem dL_law_284 : decode cL_law 284 = .ok (.iaload, 1) := by decide +kernel
theorem dL_law_285 : decode cL_law 285 = .ok (.invokevirtual 32, 3) := by decide +kernel
theorem dL_law_288 : decode cL_law 288 = .ok (.aload_n 2, 1) := by decide +kernel
theorem dL_law_289 : decode cL_law 289 = .ok (.aload_n 0, 1) := by decide +kernel
theorem dL_law_290 : decode cL_law 290 = .ok (.iload_n 3, 1) := by decide +kernel
theorem dL_law_291 : decode cL_law 291 = .ok (.iconst 1, 1) := by decide +kernel
theorem dL_law_292 : decode cL_law 292 = .ok (.iadd, 1) := by decide +kernel
theorem dL_law_293 : decode cL_law 293 = .ok (.iaload, 1) := by decide +kernel
theorem dL_law_294 : decode cL_law 294 = .ok (.aload_n 0, 1) := by decide +kernel
theorem dL_law_295 : decode cL_law 295 = .ok (.iload_n 3, 1) := by decide +kernel
theorem dL_law_296 : decode cL_law 296 = .ok (.iconst 2, 1) := by decide +kernel
theorem dL_law_297 : decode cL_law 297 = .ok (.iadd, 1) := by decide +kernel
theorem dL_law_298 : decode cL_law 298 = .ok (.iaload, 1) := by decide +kernel
theorem dL_law_299 : decode cL_law 299 = .ok (.invokevirtual 36, 3) := by decide +kernel
theorem dL_law_302 : decode cL_law 302 = .ok (.if_icmp .eq 444, 3) := by decide +kernel
theorem dL_law_305 : decode cL_law 305 = .ok (.iconst 0, 1) := by decide +kernel
theorem dL_law_306 : decode cL_law 306 = .ok (.ireturn, 1) := by decide +kernel
theorem dL_law_307 : decode cL_law 307 = .ok (.aload_n 1, 1) := by decide +kernel
theorem dL_law_308 : decode cL_law 308 = .ok (.aload_n 0, 1) := by decide +kernel
theorem dL_law_309 : decode cL_law 309 = .ok (.iload_n 3, 1) := by decide +kernel
theorem dL_law_310 : decode cL_law 310 = .ok (.iconst 1, 1) := by decide +kernel
theorem dL_law_311 : decode cL_law 311 = .ok (.iadd, 1) := by decide +kernel
theorem dL_law_312 : decode cL_law 312 = .ok (.iaload, 1) := by decide +kernel
theorem dL_law_313 : decode cL_law 313 = .ok (.invokevirtual 37, 3) := by decide +kernel
theorem dL_law_316 : decode cL_law 316 = .ok (.aload_n 2, 1) := by decide +kernel
theorem dL_law_317 : decode cL_law 317 = .ok (.aload_n 0, 1) := by decide +kernel
theorem dL_law_318 : decode cL_law 318 = .ok (.iload_n 3, 1) := by decide +kernel
theorem dL_law_319 : decode cL_law 319 = .ok (.iconst 1, 1) := by decide +kernel
theorem dL_law_320 : decode cL_law 320 = .ok (.iadd, 1) := by decide +kernel
theorem dL_law_321 : decode cL_law 321 = .ok (.iaload, 1) := by decide +kernel
theorem dL_law_322 : decode cL_law 322 = .ok (.invokevirtual 41, 3) := by decide +kernel
theorem dL_law_325 : decode cL_law 325 = .ok (.if_icmp .eq 421, 3) := by decide +kernel
theorem dL_law_328 : decode cL_law 328 = .ok (.iconst 0, 1) := by decide +kernel
theorem dL_law_329 : decode cL_law 329 = .ok (.ireturn, 1) := by decide +kernel
theorem dL_law_330 : decode cL_law 330 = .ok (.aload_n 1, 1) := by decide +kernel
theorem dL_law_331 : decode cL_law 331 = .ok (.aload_n 0, 1) := by decide +kernel
theorem dL_law_332 : decode cL_law 332 = .ok (.iload_n 3, 1) := by decide +kernel
theorem dL_law_333 : decode cL_law 333 = .ok (.iconst 1, 1) := by decide +kernel
theorem dL_law_334 : decode cL_law 334 = .ok (.iadd, 1) := by decide +kernel
theorem dL_law_335 : decode cL_law 335 = .ok (.iaload, 1) := by decide +kernel
theorem dL_law_336 : decode cL_law 336 = .ok (.invokevirtual 42, 3) := by decide +kernel
theorem dL_law_339 : decode cL_law 339 = .ok (.aload_n 2, 1) := by decide +kernel
theorem dL_law_340 : decode cL_law 340 = .ok (.aload_n 0, 1) := by decide +kernel
theorem dL_law_341 : decode cL_law 341 = .ok (.iload_n 3, 1) := by decide +kernel
theorem dL_law_342 : decode cL_law 342 = .ok (.iconst 1, 1) := by decide +kernel
theorem dL_law_343 : decode cL_law 343 = .ok (.iadd, 1) := by decide +kernel
theorem dL_law_344 : decode cL_law 344 = .ok (.iaload, 1) := by decide +kernel
theorem dL_law_345 : decode cL_law 345 = .ok (.invokevirtual 45, 3) := by decide +kernel
theorem dL_law_348 : decode cL_law 348 = .ok (.if_icmp .eq 398, 3) := by decide +kernel
theorem dL_law_351 : decode cL_law 351 = .ok (.iconst 0, 1) := by decide +kernel
theorem dL_law_352 : decode cL_law 352 = .ok (.ireturn, 1) := by decide +kernel
theorem dL_law_353 : decode cL_law 353 = .ok (.aload_n 1, 1) := by decide +kernel
theorem dL_law_354 : decode cL_law 354 = .ok (.aload_n 0, 1) := by decide +kernel
theorem dL_law_355 : decode cL_law 355 = .ok (.iload_n 3, 1) := by decide +kernel
theorem dL_law_356 : decode cL_law 356 = .ok (.iconst 1, 1) := by decide +kernel
theorem dL_law_357 : decode cL_law 357 = .ok (.iadd, 1) := by decide +kernel
theorem dL_law_358 : decode cL_law 358 = .ok (.iaload, 1) := by decide +kernel
theorem dL_law_359 : decode cL_law 359 = .ok (.aload_n 0, 1) := by decide +kernel
theorem dL_law_360 : decode cL_law 360 = .ok (.iload_n 3, 1) := by decide +kernel
theorem dL_law_361 : decode cL_law 361 = .ok (.iconst 2, 1) := by decide +kernel
theorem dL_law_362 : decode cL_law 362 = .ok (.iadd, 1) := by decide +kernel
theorem dL_law_363 : decode cL_law 363 = .ok (.iaload, 1) := by decide +kernel
theorem dL_law_364 : decode cL_law 364 = .ok (.i2l, 1) := by decide +kernel
theorem dL_law_365 : decode cL_law 365 = .ok (.bipush 32, 2) := by decide +kernel
theorem dL_law_367 : decode cL_law 367 = .ok (.lshl, 1) := by decide +kernel
theorem dL_law_368 : decode cL_law 368 = .ok (.aload_n 0, 1) := by decide +kernel
theorem dL_law_369 : decode cL_law 369 = .ok (.iload_n 3, 1) := by decide +kernel
theorem dL_law_370 : decode cL_law 370 = .ok (.iconst 3, 1) := by decide +kernel
theorem dL_law_371 : decode cL_law 371 = .ok (.iadd, 1) := by decide +kernel
theorem dL_law_372 : decode cL_law 372 = .ok (.iaload, 1) := by decide +kernel
theorem dL_law_373 : decode cL_law 373 = .ok (.i2l, 1) := by decide +kernel
theorem dL_law_374 : decode cL_law 374 = .ok (.ldc2_w 46, 3) := by decide +kernel
theorem dL_law_377 : decode cL_law 377 = .ok (.land, 1) := by decide +kernel
theorem dL_law_378 : decode cL_law 378 = .ok (.lor, 1) := by decide +kernel
theorem dL_law_379 : decode cL_law 379 = .ok (.invokevirtual 48, 3) := by decide +kernel
theorem dL_law_382 : decode cL_law 382 = .ok (.aload_n 2, 1) := by decide +kernel
theorem dL_law_383 : decode cL_law 383 = .ok (.aload_n 0, 1) := by decide +kernel
theorem dL_law_384 : decode cL_law 384 = .ok (.iload_n 3, 1) := by decide +kernel
theorem dL_law_385 : decode cL_law 385 = .ok (.iconst 1, 1) := by decide +kernel
theorem dL_law_386 : decode cL_law 386 = .ok (.iadd, 1) := by decide +kernel
theorem dL_law_387 : decode cL_law 387 = .ok (.iaload, 1) := by decide +kernel
theorem dL_law_388 : decode cL_law 388 = .ok (.aload_n 0, 1) := by decide +kernel
theorem dL_law_389 : decode cL_law 389 = .ok (.iload_n 3, 1) := by decide +kernel
theorem dL_law_390 : decode cL_law 390 = .ok (.iconst 2, 1) := by decide +kernel
theorem dL_law_391 : decode cL_law 391 = .ok (.iadd, 1) := by decide +kernel
theorem dL_law_392 : decode cL_law 392 = .ok (.iaload, 1) := by decide +kernel
theorem dL_law_393 : decode cL_law 393 = .ok (.i2l, 1) := by decide +kernel
theorem dL_law_394 : decode cL_law 394 = .ok (.bipush 32, 2) := by decide +kernel
theorem dL_law_396 : decode cL_law 396 = .ok (.lshl, 1) := by decide +kernel
theorem dL_law_397 : decode cL_law 397 = .ok (.aload_n 0, 1) := by decide +kernel
theorem dL_law_398 : decode cL_law 398 = .ok (.iload_n 3, 1) := by decide +kernel
theorem dL_law_399 : decode cL_law 399 = .ok (.iconst 3, 1) := by decide +kernel
theorem dL_law_400 : decode cL_law 400 = .ok (.iadd, 1) := by decide +kernel
theorem dL_law_401 : decode cL_law 401 = .ok (.iaload, 1) := by decide +kernel
theorem dL_law_402 : decode cL_law 402 = .ok (.i2l, 1) := by decide +kernel
theorem dL_law_403 : decode cL_law 403 = .ok (.ldc2_w 46, 3) := by decide +kernel
theorem dL_law_406 : decode cL_law 406 = .ok (.land, 1) := by decide +kernel
theorem dL_law_407 : decode cL_law 407 = .ok (.lor, 1) := by decide +kernel
theorem dL_law_408 : decode cL_law 408 = .ok (.invokevirtual 52, 3) := by decide +kernel
theorem dL_law_411 : decode cL_law 411 = .ok (.if_icmp .eq 335, 3) := by decide +kernel
theorem dL_law_414 : decode cL_law 414 = .ok (.iconst 0, 1) := by decide +kernel
theorem dL_law_415 : decode cL_law 415 = .ok (.ireturn, 1) := by decide +kernel
theorem dL_law_416 : decode cL_law 416 = .ok (.aload_n 1, 1) := by decide +kernel
theorem dL_law_417 : decode cL_law 417 = .ok (.aload_n 0, 1) := by decide +kernel
theorem dL_law_418 : decode cL_law 418 = .ok (.iload_n 3, 1) := by decide +kernel
theorem dL_law_419 : decode cL_law 419 = .ok (.iconst 1, 1) := by decide +kernel
theorem dL_law_420 : decode cL_law 420 = .ok (.iadd, 1) := by decide +kernel
theorem dL_law_421 : decode cL_law 421 = .ok (.iaload, 1) := by decide +kernel
theorem dL_law_422 : decode cL_law 422 = .ok (.invokevirtual 53, 3) := by decide +kernel
theorem dL_law_425 : decode cL_law 425 = .ok (.aload_n 2, 1) := by decide +kernel
theorem dL_law_426 : decode cL_law 426 = .ok (.aload_n 0, 1) := by decide +kernel
theorem dL_law_427 : decode cL_law 427 = .ok (.iload_n 3, 1) := by decide +kernel
theorem dL_law_428 : decode cL_law 428 = .ok (.iconst 1, 1) := by decide +kernel
theorem dL_law_429 : decode cL_law 429 = .ok (.iadd, 1) := by decide +kernel
theorem dL_law_430 : decode cL_law 430 = .ok (.iaload, 1) := by decide +kernel
theorem dL_law_431 : decode cL_law 431 = .ok (.invokevirtual 56, 3) := by decide +kernel
theorem dL_law_434 : decode cL_law 434 = .ok (.if_icmp .eq 312, 3) := by decide +kernel
theorem dL_law_437 : decode cL_law 437 = .ok (.iconst 0, 1) := by decide +kernel
theorem dL_law_438 : decode cL_law 438 = .ok (.ireturn, 1) := by decide +kernel
theorem dL_law_439 : decode cL_law 439 = .ok (.aload_n 1, 1) := by decide +kernel
theorem dL_law_440 : decode cL_law 440 = .ok (.aload_n 0, 1) := by decide +kernel
theorem dL_law_441 : decode cL_law 441 = .ok (.iload_n 3, 1) := by decide +kernel
theorem dL_law_442 : decode cL_law 442 = .ok (.iconst 1, 1) := by decide +kernel
theorem dL_law_443 : decode cL_law 443 = .ok (.iadd, 1) := by decide +kernel
theorem dL_law_444 : decode cL_law 444 = .ok (.iaload, 1) := by decide +kernel
theorem dL_law_445 : decode cL_law 445 = .ok (.aload_n 0, 1) := by decide +kernel
theorem dL_law_446 : decode cL_law 446 = .ok (.iload_n 3, 1) := by decide +kernel
theorem dL_law_447 : decode cL_law 447 = .ok (.iconst 2, 1) := by decide +kernel
theorem dL_law_448 : decode cL_law 448 = .ok (.iadd, 1) := by decide +kernel
theorem dL_law_449 : decode cL_law 449 = .ok (.iaload, 1) := by decide +kernel
theorem dL_law_450 : decode cL_law 450 = .ok (.i2l, 1) := by decide +kernel
theorem dL_law_451 : decode cL_law 451 = .ok (.bipush 32, 2) := by decide +kernel
theorem dL_law_453 : decode cL_law 453 = .ok (.lshl, 1) := by decide +kernel
theorem dL_law_454 : decode cL_law 454 = .ok (.aload_n 0, 1) := by decide +kernel
theorem dL_law_455 : decode cL_law 455 = .ok (.iload_n 3, 1) := by decide +kernel
theorem dL_law_456 : decode cL_law 456 = .ok (.iconst 3, 1) := by decide +kernel
theorem dL_law_457 : decode cL_law 457 = .ok (.iadd, 1) := by decide +kernel
theorem dL_law_458 : decode cL_law 458 = .ok (.iaload, 1) := by decide +kernel
theorem dL_law_459 : decode cL_law 459 = .ok (.i2l, 1) := by decide +kernel
theorem dL_law_460 : decode cL_law 460 = .ok (.ldc2_w 46, 3) := by decide +kernel
theorem dL_law_463 : decode cL_law 463 = .ok (.land, 1) := by decide +kernel
theorem dL_law_464 : decode cL_law 464 = .ok (.lor, 1) := by decide +kernel
theorem dL_law_465 : decode cL_law 465 = .ok (.invokevirtual 57, 3) := by decide +kernel
theorem dL_law_468 : decode cL_law 468 = .ok (.aload_n 2, 1) := by decide +kernel
theorem dL_law_469 : decode cL_law 469 = .ok (.aload_n 0, 1) := by decide +kernel
theorem dL_law_470 : decode cL_law 470 = .ok (.iload_n 3, 1) := by decide +kernel
theorem dL_law_471 : decode cL_law 471 = .ok (.iconst 1, 1) := by decide +kernel
theorem dL_law_472 : decode cL_law 472 = .ok (.iadd, 1) := by decide +kernel
theorem dL_law_473 : decode cL_law 473 = .ok (.iaload, 1) := by decide +kernel
theorem dL_law_474 : decode cL_law 474 = .ok (.aload_n 0, 1) := by decide +kernel
theorem dL_law_475 : decode cL_law 475 = .ok (.iload_n 3, 1) := by decide +kernel
theorem dL_law_476 : decode cL_law 476 = .ok (.iconst 2, 1) := by decide +kernel
theorem dL_law_477 : decode cL_law 477 = .ok (.iadd, 1) := by decide +kernel
theorem dL_law_478 : decode cL_law 478 = .ok (.iaload, 1) := by decide +kernel
theorem dL_law_479 : decode cL_law 479 = .ok (.i2l, 1) := by decide +kernel
theorem dL_law_480 : decode cL_law 480 = .ok (.bipush 32, 2) := by decide +kernel
theorem dL_law_482 : decode cL_law 482 = .ok (.lshl, 1) := by decide +kernel
theorem dL_law_483 : decode cL_law 483 = .ok (.aload_n 0, 1) := by decide +kernel
theorem dL_law_484 : decode cL_law 484 = .ok (.iload_n 3, 1) := by decide +kernel
theorem dL_law_485 : decode cL_law 485 = .ok (.iconst 3, 1) := by decide +kernel
theorem dL_law_486 : decode cL_law 486 = .ok (.iadd, 1) := by decide +kernel
theorem dL_law_487 : decode cL_law 487 = .ok (.iaload, 1) := by decide +kernel
theorem dL_law_488 : decode cL_law 488 = .ok (.i2l, 1) := by decide +kernel
theorem dL_law_489 : decode cL_law 489 = .ok (.ldc2_w 46, 3) := by decide +kernel
theorem dL_law_492 : decode cL_law 492 = .ok (.land, 1) := by decide +kernel
theorem dL_law_493 : decode cL_law 493 = .ok (.lor, 1) := by decide +kernel
theorem dL_law_494 : decode cL_law 494 = .ok (.invokevirtual 60, 3) := by decide +kernel
theorem dL_law_497 : decode cL_law 497 = .ok (.if_icmp .eq 249, 3) := by decide +kernel
theorem dL_law_500 : decode cL_law 500 = .ok (.iconst 0, 1) := by decide +kernel
theorem dL_law_501 : decode cL_law 501 = .ok (.ireturn, 1) := by decide +kernel
theorem dL_law_502 : decode cL_law 502 = .ok (.aload_n 1, 1) := by decide +kernel
theorem dL_law_503 : decode cL_law 503 = .ok (.aload_n 0, 1) := by decide +kernel
theorem dL_law_504 : decode cL_law 504 = .ok (.iload_n 3, 1) := by decide +kernel
theorem dL_law_505 : decode cL_law 505 = .ok (.iconst 1, 1) := by decide +kernel
theorem dL_law_506 : decode cL_law 506 = .ok (.iadd, 1) := by decide +kernel
theorem dL_law_507 : decode cL_law 507 = .ok (.iaload, 1) := by decide +kernel
theorem dL_law_508 : decode cL_law 508 = .ok (.aload_n 0, 1) := by decide +kernel
theorem dL_law_509 : decode cL_law 509 = .ok (.iload_n 3, 1) := by decide +kernel
theorem dL_law_510 : decode cL_law 510 = .ok (.iconst 2, 1) := by decide +kernel
theorem dL_law_511 : decode cL_law 511 = .ok (.iadd, 1) := by decide +kernel
theorem dL_law_512 : decode cL_law 512 = .ok (.iaload, 1) := by decide +kernel
theorem dL_law_513 : decode cL_law 513 = .ok (.i2l, 1) := by decide +kernel
theorem dL_law_514 : decode cL_law 514 = .ok (.bipush 32, 2) := by decide +kernel
theorem dL_law_516 : decode cL_law 516 = .ok (.lshl, 1) := by decide +kernel
theorem dL_law_517 : decode cL_law 517 = .ok (.aload_n 0, 1) := by decide +kernel
theorem dL_law_518 : decode cL_law 518 = .ok (.iload_n 3, 1) := by decide +kernel
theorem dL_law_519 : decode cL_law 519 = .ok (.iconst 3, 1) := by decide +kernel
theorem dL_law_520 : decode cL_law 520 = .ok (.iadd, 1) := by decide +kernel
theorem dL_law_521 : decode cL_law 521 = .ok (.iaload, 1) := by decide +kernel
theorem dL_law_522 : decode cL_law 522 = .ok (.i2l, 1) := by decide +kernel
theorem dL_law_523 : decode cL_law 523 = .ok (.ldc2_w 46, 3) := by decide +kernel
theorem dL_law_526 : decode cL_law 526 = .ok (.land, 1) := by decide +kernel
theorem dL_law_527 : decode cL_law 527 = .ok (.lor, 1) := by decide +kernel
theorem dL_law_528 : decode cL_law 528 = .ok (.invokevirtual 61, 3) := by decide +kernel
theorem dL_law_531 : decode cL_law 531 = .ok (.aload_n 2, 1) := by decide +kernel
theorem dL_law_532 : decode cL_law 532 = .ok (.aload_n 0, 1) := by decide +kernel
theorem dL_law_533 : decode cL_law 533 = .ok (.iload_n 3, 1) := by decide +kernel
theorem dL_law_534 : decode cL_law 534 = .ok (.iconst 1, 1) := by decide +kernel
theorem dL_law_535 : decode cL_law 535 = .ok (.iadd, 1) := by decide +kernel
theorem dL_law_536 : decode cL_law 536 = .ok (.iaload, 1) := by decide +kernel
theorem dL_law_537 : decode cL_law 537 = .ok (.aload_n 0, 1) := by decide +kernel
theorem dL_law_538 : decode cL_law 538 = .ok (.iload_n 3, 1) := by decide +kernel
theorem dL_law_539 : decode cL_law 539 = .ok (.iconst 2, 1) := by decide +kernel
theorem dL_law_540 : decode cL_law 540 = .ok (.iadd, 1) := by decide +kernel
theorem dL_law_541 : decode cL_law 541 = .ok (.iaload, 1) := by decide +kernel
theorem dL_law_542 : decode cL_law 542 = .ok (.i2l, 1) := by decide +kernel
theorem dL_law_543 : decode cL_law 543 = .ok (.bipush 32, 2) := by decide +kernel
theorem dL_law_545 : decode cL_law 545 = .ok (.lshl, 1) := by decide +kernel
theorem dL_law_546 : decode cL_law 546 = .ok (.aload_n 0, 1) := by decide +kernel
theorem dL_law_547 : decode cL_law 547 = .ok (.iload_n 3, 1) := by decide +kernel
theorem dL_law_548 : decode cL_law 548 = .ok (.iconst 3, 1) := by decide +kernel
theorem dL_law_549 : decode cL_law 549 = .ok (.iadd, 1) := by decide +kernel
theorem dL_law_550 : decode cL_law 550 = .ok (.iaload, 1) := by decide +kernel
theorem dL_law_551 : decode cL_law 551 = .ok (.i2l, 1) := by decide +kernel
theorem dL_law_552 : decode cL_law 552 = .ok (.ldc2_w 46, 3) := by decide +kernel
theorem dL_law_555 : decode cL_law 555 = .ok (.land, 1) := by decide +kernel
theorem dL_law_556 : decode cL_law 556 = .ok (.lor, 1) := by decide +kernel
theorem dL_law_557 : decode cL_law 557 = .ok (.invokevirtual 64, 3) := by decide +kernel
theorem dL_law_560 : decode cL_law 560 = .ok (.if_icmp .eq 186, 3) := by decide +kernel
theorem dL_law_563 : decode cL_law 563 = .ok (.iconst 0, 1) := by decide +kernel
theorem dL_law_564 : decode cL_law 564 = .ok (.ireturn, 1) := by decide +kernel
theorem dL_law_565 : decode cL_law 565 = .ok (.aload_n 1, 1) := by decide +kernel
theorem dL_law_566 : decode cL_law 566 = .ok (.invokevirtual 65, 3) := by decide +kernel
theorem dL_law_569 : decode cL_law 569 = .ok (.aload_n 2, 1) := by decide +kernel
theorem dL_law_570 : decode cL_law 570 = .ok (.invokevirtual 68, 3) := by decide +kernel
theorem dL_law_573 : decode cL_law 573 = .ok (.if_icmp .eq 173, 3) := by decide +kernel
theorem dL_law_576 : decode cL_law 576 = .ok (.iconst 0, 1) := by decide +kernel
theorem dL_law_577 : decode cL_law 577 = .ok (.ireturn, 1) := by decide +kernel
theorem dL_law_578 : decode cL_law 578 = .ok (.aload_n 1, 1) := by decide +kernel
theorem dL_law_579 : decode cL_law 579 = .ok (.aload_n 0, 1) := by decide +kernel
theorem dL_law_580 : decode cL_law 580 = .ok (.iload_n 3, 1) := by decide +kernel
theorem dL_law_581 : decode cL_law 581 = .ok (.iconst 1, 1) := by decide +kernel
theorem dL_law_582 : decode cL_law 582 = .ok (.iadd, 1) := by decide +kernel
theorem dL_law_583 : decode cL_law 583 = .ok (.iaload, 1) := by decide +kernel
theorem dL_law_584 : decode cL_law 584 = .ok (.invokevirtual 69, 3) := by decide +kernel
theorem dL_law_587 : decode cL_law 587 = .ok (.aload_n 2, 1) := by decide +kernel
theorem dL_law_588 : decode cL_law 588 = .ok (.aload_n 0, 1) := by decide +kernel
theorem dL_law_589 : decode cL_law 589 = .ok (.iload_n 3, 1) := by decide +kernel
theorem dL_law_590 : decode cL_law 590 = .ok (.iconst 1, 1) := by decide +kernel
theorem dL_law_591 : decode cL_law 591 = .ok (.iadd, 1) := by decide +kernel
theorem dL_law_592 : decode cL_law 592 = .ok (.iaload, 1) := by decide +kernel
theorem dL_law_593 : decode cL_law 593 = .ok (.invokevirtual 72, 3) := by decide +kernel
theorem dL_law_596 : decode cL_law 596 = .ok (.if_icmp .eq 150, 3) := by decide +kernel
theorem dL_law_599 : decode cL_law 599 = .ok (.iconst 0, 1) := by decide +kernel
theorem dL_law_600 : decode cL_law 600 = .ok (.ireturn, 1) := by decide +kernel
theorem dL_law_601 : decode cL_law 601 = .ok (.aload_n 1, 1) := by decide +kernel
theorem dL_law_602 : decode cL_law 602 = .ok (.aload_n 0, 1) := by decide +kernel
theorem dL_law_603 : decode cL_law 603 = .ok (.iload_n 3, 1) := by decide +kernel
theorem dL_law_604 : decode cL_law 604 = .ok (.iconst 1, 1) := by decide +kernel
theorem dL_law_605 : decode cL_law 605 = .ok (.iadd, 1) := by decide +kernel
theorem dL_law_606 : decode cL_law 606 = .ok (.iaload, 1) := by decide +kernel
theorem dL_law_607 : decode cL_law 607 = .ok (.invokevirtual 73, 3) := by decide +kernel
theorem dL_law_610 : decode cL_law 610 = .ok (.aload_n 2, 1) := by decide +kernel
theorem dL_law_611 : decode cL_law 611 = .ok (.aload_n 0, 1) := by decide +kernel
theorem dL_law_612 : decode cL_law 612 = .ok (.iload_n 3, 1) := by decide +kernel
theorem dL_law_613 : decode cL_law 613 = .ok (.iconst 1, 1) := by decide +kernel
theorem dL_law_614 : decode cL_law 614 = .ok (.iadd, 1) := by decide +kernel
theorem dL_law_615 : decode cL_law 615 = .ok (.iaload, 1) := by decide +kernel
theorem dL_law_616 : decode cL_law 616 = .ok (.invokevirtual 76, 3) := by decide +kernel
theorem dL_law_619 : decode cL_law 619 = .ok (.if_icmp .eq 127, 3) := by decide +kernel
theorem dL_law_622 : decode cL_law 622 = .ok (.iconst 0, 1) := by decide +kernel
theorem dL_law_623 : decode cL_law 623 = .ok (.ireturn, 1) := by decide +kernel
theorem dL_law_624 : decode cL_law 624 = .ok (.aload_n 1, 1) := by decide +kernel
theorem dL_law_625 : decode cL_law 625 = .ok (.aload_n 0, 1) := by decide +kernel
theorem dL_law_626 : decode cL_law 626 = .ok (.iload_n 3, 1) := by decide +kernel
theorem dL_law_627 : decode cL_law 627 = .ok (.iconst 1, 1) := by decide +kernel
theorem dL_law_628 : decode cL_law 628 = .ok (.iadd, 1) := by decide +kernel
theorem dL_law_629 : decode cL_law 629 = .ok (.iaload, 1) := by decide +kernel
theorem dL_law_630 : decode cL_law 630 = .ok (.aload_n 0, 1) := by decide +kernel
theorem dL_law_631 : decode cL_law 631 = .ok (.iload_n 3, 1) := by decide +kernel
theorem dL_law_632 : decode cL_law 632 = .ok (.iconst 2, 1) := by decide +kernel
theorem dL_law_633 : decode cL_law 633 = .ok (.iadd, 1) := by decide +kernel
theorem dL_law_634 : decode cL_law 634 = .ok (.iaload, 1) := by decide +kernel
theorem dL_law_635 : decode cL_law 635 = .ok (.invokevirtual 77, 3) := by decide +kernel
theorem dL_law_638 : decode cL_law 638 = .ok (.aload_n 2, 1) := by decide +kernel
theorem dL_law_639 : decode cL_law 639 = .ok (.aload_n 0, 1) := by decide +kernel
theorem dL_law_640 : decode cL_law 640 = .ok (.iload_n 3, 1) := by decide +kernel
theorem dL_law_641 : decode cL_law 641 = .ok (.iconst 1, 1) := by decide +kernel
theorem dL_law_642 : decode cL_law 642 = .ok (.iadd, 1) := by decide +kernel
theorem dL_law_643 : decode cL_law 643 = .ok (.iaload, 1) := by decide +kernel
theorem dL_law_644 : decode cL_law 644 = .ok (.aload_n 0, 1) := by decide +kernel
theorem dL_law_645 : decode cL_law 645 = .ok (.iload_n 3, 1) := by decide +kernel
theorem dL_law_646 : decode cL_law 646 = .ok (.iconst 2, 1) := by decide +kernel
theorem dL_law_647 : decode cL_law 647 = .ok (.iadd, 1) := by decide +kernel
theorem dL_law_648 : decode cL_law 648 = .ok (.iaload, 1) := by decide +kernel
theorem dL_law_649 : decode cL_law 649 = .ok (.invokevirtual 80, 3) := by decide +kernel
theorem dL_law_652 : decode cL_law 652 = .ok (.if_icmp .eq 94, 3) := by decide +kernel
theorem dL_law_655 : decode cL_law 655 = .ok (.iconst 0, 1) := by decide +kernel
theorem dL_law_656 : decode cL_law 656 = .ok (.ireturn, 1) := by decide +kernel
theorem dL_law_657 : decode cL_law 657 = .ok (.aload_n 1, 1) := by decide +kernel
theorem dL_law_658 : decode cL_law 658 = .ok (.aload_n 0, 1) := by decide +kernel
theorem dL_law_659 : decode cL_law 659 = .ok (.iload_n 3, 1) := by decide +kernel
theorem dL_law_660 : decode cL_law 660 = .ok (.iconst 1, 1) := by decide +kernel
theorem dL_law_661 : decode cL_law 661 = .ok (.iadd, 1) := by decide +kernel
theorem dL_law_662 : decode cL_law 662 = .ok (.iaload, 1) := by decide +kernel
theorem dL_law_663 : decode cL_law 663 = .ok (.aload_n 0, 1) := by decide +kernel
theorem dL_law_664 : decode cL_law 664 = .ok (.iload_n 3, 1) := by decide +kernel
theorem dL_law_665 : decode cL_law 665 = .ok (.iconst 2, 1) := by decide +kernel
theorem dL_law_666 : decode cL_law 666 = .ok (.iadd, 1) := by decide +kernel
theorem dL_law_667 : decode cL_law 667 = .ok (.iaload, 1) := by decide +kernel
theorem dL_law_668 : decode cL_law 668 = .ok (.invokevirtual 81, 3) := by decide +kernel
theorem dL_law_671 : decode cL_law 671 = .ok (.aload_n 2, 1) := by decide +kernel
theorem dL_law_672 : decode cL_law 672 = .ok (.aload_n 0, 1) := by decide +kernel
theorem dL_law_673 : decode cL_law 673 = .ok (.iload_n 3, 1) := by decide +kernel
theorem dL_law_674 : decode cL_law 674 = .ok (.iconst 1, 1) := by decide +kernel
theorem dL_law_675 : decode cL_law 675 = .ok (.iadd, 1) := by decide +kernel
theorem dL_law_676 : decode cL_law 676 = .ok (.iaload, 1) := by decide +kernel
theorem dL_law_677 : decode cL_law 677 = .ok (.aload_n 0, 1) := by decide +kernel
theorem dL_law_678 : decode cL_law 678 = .ok (.iload_n 3, 1) := by decide +kernel
theorem dL_law_679 : decode cL_law 679 = .ok (.iconst 2, 1) := by decide +kernel
theorem dL_law_680 : decode cL_law 680 = .ok (.iadd, 1) := by decide +kernel
theorem dL_law_681 : decode cL_law 681 = .ok (.iaload, 1) := by decide +kernel
theorem dL_law_682 : decode cL_law 682 = .ok (.invokevirtual 84, 3) := by decide +kernel
theorem dL_law_685 : decode cL_law 685 = .ok (.if_icmp .eq 61, 3) := by decide +kernel
theorem dL_law_688 : decode cL_law 688 = .ok (.iconst 0, 1) := by decide +kernel
theorem dL_law_689 : decode cL_law 689 = .ok (.ireturn, 1) := by decide +kernel
theorem dL_law_690 : decode cL_law 690 = .ok (.aload_n 1, 1) := by decide +kernel
theorem dL_law_691 : decode cL_law 691 = .ok (.aload_n 0, 1) := by decide +kernel
theorem dL_law_692 : decode cL_law 692 = .ok (.iload_n 3, 1) := by decide +kernel
theorem dL_law_693 : decode cL_law 693 = .ok (.iconst 1, 1) := by decide +kernel
theorem dL_law_694 : decode cL_law 694 = .ok (.iadd, 1) := by decide +kernel
theorem dL_law_695 : decode cL_law 695 = .ok (.iaload, 1) := by decide +kernel
theorem dL_law_696 : decode cL_law 696 = .ok (.aload_n 0, 1) := by decide +kernel
theorem dL_law_697 : decode cL_law 697 = .ok (.iload_n 3, 1) := by decide +kernel
theorem dL_law_698 : decode cL_law 698 = .ok (.iconst 2, 1) := by decide +kernel
theorem dL_law_699 : decode cL_law 699 = .ok (.iadd, 1) := by decide +kernel
theorem dL_law_700 : decode cL_law 700 = .ok (.iaload, 1) := by decide +kernel
theorem dL_law_701 : decode cL_law 701 = .ok (.invokevirtual 85, 3) := by decide +kernel
theorem dL_law_704 : decode cL_law 704 = .ok (.aload_n 2, 1) := by decide +kernel
theorem dL_law_705 : decode cL_law 705 = .ok (.aload_n 0, 1) := by decide +kernel
theorem dL_law_706 : decode cL_law 706 = .ok (.iload_n 3, 1) := by decide +kernel
theorem dL_law_707 : decode cL_law 707 = .ok (.iconst 1, 1) := by decide +kernel
theorem dL_law_708 : decode cL_law 708 = .ok (.iadd, 1) := by decide +kernel
theorem dL_law_709 : decode cL_law 709 = .ok (.iaload, 1) := by decide +kernel
theorem dL_law_710 : decode cL_law 710 = .ok (.aload_n 0, 1) := by decide +kernel
theorem dL_law_711 : decode cL_law 711 = .ok (.iload_n 3, 1) := by decide +kernel
theorem dL_law_712 : decode cL_law 712 = .ok (.iconst 2, 1) := by decide +kernel
theorem dL_law_713 : decode cL_law 713 = .ok (.iadd, 1) := by decide +kernel
theorem dL_law_714 : decode cL_law 714 = .ok (.iaload, 1) := by decide +kernel
theorem dL_law_715 : decode cL_law 715 = .ok (.invokevirtual 88, 3) := by decide +kernel
theorem dL_law_718 : decode cL_law 718 = .ok (.if_icmp .eq 28, 3) := by decide +kernel
theorem dL_law_721 : decode cL_law 721 = .ok (.iconst 0, 1) := by decide +kernel
theorem dL_law_722 : decode cL_law 722 = .ok (.ireturn, 1) := by decide +kernel
theorem dL_law_723 : decode cL_law 723 = .ok (.aload_n 1, 1) := by decide +kernel
theorem dL_law_724 : decode cL_law 724 = .ok (.aload_n 0, 1) := by decide +kernel
theorem dL_law_725 : decode cL_law 725 = .ok (.iload_n 3, 1) := by decide +kernel
theorem dL_law_726 : decode cL_law 726 = .ok (.iconst 1, 1) := by decide +kernel
theorem dL_law_727 : decode cL_law 727 = .ok (.iadd, 1) := by decide +kernel
theorem dL_law_728 : decode cL_law 728 = .ok (.iaload, 1) := by decide +kernel
theorem dL_law_729 : decode cL_law 729 = .ok (.invokevirtual 89, 3) := by decide +kernel
theorem dL_law_732 : decode cL_law 732 = .ok (.aload_n 2, 1) := by decide +kernel
theorem dL_law_733 : decode cL_law 733 = .ok (.aload_n 0, 1) := by decide +kernel
theorem dL_law_734 : decode cL_law 734 = .ok (.iload_n 3, 1) := by decide +kernel
theorem dL_law_735 : decode cL_law 735 = .ok (.iconst 1, 1) := by decide +kernel
theorem dL_law_736 : decode cL_law 736 = .ok (.iadd, 1) := by decide +kernel
theorem dL_law_737 : decode cL_law 737 = .ok (.iaload, 1) := by decide +kernel
theorem dL_law_738 : decode cL_law 738 = .ok (.invokevirtual 92, 3) := by decide +kernel
theorem dL_law_741 : decode cL_law 741 = .ok (.if_icmp .eq 5, 3) := by decide +kernel
theorem dL_law_744 : decode cL_law 744 = .ok (.iconst 0, 1) := by decide +kernel
theorem dL_law_745 : decode cL_law 745 = .ok (.ireturn, 1) := by decide +kernel
theorem dL_law_746 : decode cL_law 746 = .ok (.iinc 3 6, 3) := by decide +kernel
theorem dL_law_749 : decode cL_law 749 = .ok (.goto (-731), 3) := by decide +kernel
theorem dL_law_752 : decode cL_law 752 = .ok (.iconst 1, 1) := by decide +kernel
theorem dL_law_753 : decode cL_law 753 = .ok (.ireturn, 1) := by decide +kernel
end
section
/-! a layer over the kit: one judgement JW with the state in sight, one contract CT over a whole world; every method's words are TB -/
abbrev ET : Type := va_G × ClassId × ClassId × ClassId
abbrev KT : Type := Program × Launch × Env × Room × State × MethodId × Array Value × List Frame × Method × Code × (Nat → Prop) × (State → Prop) × ET × Nat
def tyl (ε : ET) : List (ClassId × FieldType) := [(ε.2.1, .byte), (ε.2.2.1, .int), (ε.2.2.2, .boolean)]
def nestW : List Cond := [.methodLinkNest RX0 78 yX8_liesInMemory "RingDevices", .methodLinkNest RX1 122 yX8_oneMore "RingDevices", .methodLinkNest RX7 25 yX8_isFrame "RingDevices", .methodLinkNest RX6 55 yX8_oneMore "RingDevices", .methodLinkNest RX1 104 yX8_patternByte "RingDevices", .methodLinkNest RX3 70 yX8_descriptorsOf "RingDevices", .methodLinkNest RX3 88 yX8_patternByte "RingDevices", .methodLinkNest RX3 99 yX8_availableOf "RingDevices", .methodLinkNest RX3 106 yX8_oneMore "RingDevices", .methodLinkNest RX3 109 yX8_usedOf "RingDevices"]
theorem nest_tb : ∀ w ∈ nestW, w ∈ lw_tbl := by
  intro w h
  simp only [nestW, List.mem_cons, List.not_mem_nil, or_false] at h
  rcases h with rfl | rfl | rfl | rfl | rfl | rfl | rfl | rfl | rfl | rfl
  · exact ln_X0_78
  · exact ln_X1_122
  · exact ln_X7_25
  · exact ln_X6_55
  · exact ln_X1_104
  · exact ln_X3_70
  · exact ln_X3_88
  · exact ln_X3_99
  · exact ln_X3_106
  · exact ln_X3_109
theorem nest_warm {s U : State} (hW : s.WarmedH U.vm) : ∀ w ∈ nestW, va_Nw w s → va_Nw w U := by
  intro w h hz
  simp only [nestW, List.mem_cons, List.not_mem_nil, or_false] at h
  rcases h with rfl | rfl | rfl | rfl | rfl | rfl | rfl | rfl | rfl | rfl <;> exact va_Nw.warmM hW hz
theorem nest_same {u U : State} (h : u.vm = U.vm) : ∀ w ∈ nestW, va_Nw w u → va_Nw w U := by
  intro w hw hz
  simp only [nestW, List.mem_cons, List.not_mem_nil, or_false] at hw
  rcases hw with rfl | rfl | rfl | rfl | rfl | rfl | rfl | rfl | rfl | rfl <;> exact va_Nw.same rfl h hz
theorem nest_of {s : State} {a : Array Value} (hts : ∀ w ∈ lw_tbl, w.before a s = true) : ∀ w ∈ nestW, va_Nw w s := by
  intro w hw
  have h := hts w (nest_tb w hw)
  simp only [nestW, List.mem_cons, List.not_mem_nil, or_false] at hw
  rcases hw with rfl | rfl | rfl | rfl | rfl | rfl | rfl | rfl | rfl | rfl <;> exact va_Nw.of rfl h
/-- the String "rings" and String's own switch, where nothing of A is -/
def SG (A : Nat → Prop) (U : State) : Prop := ∃ adK adV : Nat → Nat, vk_S 1 [5] [[114, 105, 110, 103, 115]] adK adV A U U.heap ∧ vk_R RX2 85 "rings" (adK 0) U ∧ va_Z "java/lang/String" "COMPACT_STRINGS" "Z" (.int 1) A U U.heap
def BG (ε : ET) (A : Nat → Prop) (U : State) : Prop := va_K ε.1 vwCl (tyl ε) U ∧ (∀ w ∈ nestW, va_Nw w U) ∧ SG A U
theorem BG.blind {ε : ET} {A : Nat → Prop} {U : State} {g : JFrame} {mk : MethodId} {a : Array Value} (h : BG ε A U) : BG ε A (U.calling g mk a) := by
  obtain ⟨h1, h2, adK, adV, h3, h4, h5⟩ := h
  have hv : (U.calling g mk a).vm = U.vm := rfl
  refine ⟨va_K.moved (u := U) (U := U.calling g mk a) (Vm.Alike.refl U.vm) h1, fun w hw => nest_same hv.symm w hw (h2 w hw), adK, adV, ?_, vk_R.same hv h4, ?_⟩
  · exact vk_S.moved (u := U) (U := U.calling g mk a) (Vm.Alike.refl U.vm) h3
  · exact va_Z.moved (u := U) (U := U.calling g mk a) (Vm.Alike.refl U.vm) h5
theorem BG.call {ε : ET} {A A1 : Nat → Prop} {s U : State} {H : Heap} {locs : List Loc} (h : BG ε A s) (hS : va_S A s.heap H locs) (hU : U.heap = H) (hW : s.WarmedH U.vm) (hA : ∀ q, A1 q → A q) : BG ε A1 U := by
  obtain ⟨h1, h2, adK, adV, h3, h4, h5⟩ := h
  refine ⟨va_K.moved hW.alike h1, fun w hw => nest_warm hW w hw (h2 w hw), adK, adV, ?_, vk_R.warm hW h4, ?_⟩
  · have := (vk_S.moved hW.alike h3).kept (H1 := H) (fun a h1 h2 => hS.2.1 a h1 h2)
    rw [hU]
    exact this.narrow hA
  · have := (va_Z.moved hW.alike h5).kept (H1 := H) (fun a h1 h2 => hS.2.1 a h1 h2)
    rw [hU]
    exact this.narrow hA
def JW (κ : KT) (k n : Nat) (ω : va_W) (pc : Nat) (lv : List (Nat × Value)) (st : List Value) : Prop := match κ with
  | (p, l, e, R, s, m, args, below, meth, c, A, Q, ε, nL) => ∀ (H : Heap) (locs : List Loc) (ls : Array Slot), va_P ε.1 vwCl ω H → va_D A ω → va_S A s.heap H locs → lv_has ls nL lv → W p l e R s m args below meth c H locs k n Q (F0 m pc ls st)
/-- what holds of the machine in a method: own class, code, locals, room, answer's type -/
def CX (κ : KT) (ε : ET) (own : String) (cc : ByteArray) (nL : Nat) (ret : Option FieldType) (fr lo mc ms : Nat) : Prop := match κ with
  | (p, l, e, R, s, m, args, below, meth, c, A, Q, ε0, nL0) => (p.tables.exec = Jvm.exec ∧ c.code = cc ∧ c.maxLocals = nL ∧ s.vm.findClass own = some m.cls ∧ ∀ w ∈ TB, w.before args s = true) ∧ meth.sig.returnType = ret ∧ meth.locks = false ∧ (∀ q : Nat, s.heap.size ≤ q → A q) ∧ BG ε A s ∧ R = { frames := fr, cells := mc, slots := ms, locals := lo } ∧ ε0 = ε ∧ nL0 = nL
/-- where the method's end leads -/
def CQ (ε : ET) (A : Nat → Prop) (P : Option Value → va_W → Prop) : Array Value → State → Outcome → State → Prop := fun _ st oc t => (∃ (r : Option Value) (ω : va_W), oc = .returned r ∧ P r ω ∧ va_P ε.1 vwCl ω t.heap ∧ va_D A ω) ∧ va_F A st t
def RQ (κ : KT) (ε : ET) (P : Option Value → va_W → Prop) (mc ms : Nat) : Prop := match κ with
  | (p, l, e, R, s, m, args, below, meth, c, A, Q, ε0, nL) => Q = MQ below (CQ ε A P) args s mc ms A
/-- a constructor -/
def IN (κ : KT) : Prop := match κ with
  | (p, l, e, R, s, m, args, below, meth, c, A, Q, ε0, nL0) => meth.name = "<init>"
/-- a contract: called with av in the world ω the method returns some r, in a world ω', of which P -/
def CT (ε : ET) (y : MethodName) (cc : ByteArray) (nL : Nat) (ret : Option FieldType) (fr lo mc ms : Nat) (av : List Value) (ω : va_W) (P : Option Value → va_W → Prop) : Prop := ∀ (l : Launch) (sz : Nat), Met l y (.code y cc nL ret :: TB) { frames := fr, cells := mc, slots := ms, locals := lo } (va_Pc av (fun U => U.heap.size = sz ∧ va_P ε.1 vwCl ω U.heap ∧ va_D (fun _ => True) ω ∧ BG ε (va_A ω sz) U)) (CQ ε (va_A ω sz) P) mc ms (va_A ω sz)
theorem CT.of {ε : ET} {y : MethodName} {own : String} {cc : ByteArray} {nL : Nat} {ret : Option FieldType} {fr lo mc ms : Nat} {av : List Value} {ω : va_W} {P : Option Value → va_W → Prop} (hy : plainName y.cls = true) (ho : y.cls = own) (hl : (lg_sl av).length ≤ nL)
    (body : ∀ κ : KT, CX κ ε own cc nL ret fr lo mc ms → RQ κ ε P mc ms → JW κ 0 0 ω 0 (lv_args 0 av) []) : CT ε y cc nL ret fr lo mc ms av ω P := by
  intro l sz
  refine Met.ofW (cc := cc) (maxL := nL) (ret := ret) hy rfl ?_
  intro p e s m args below meth c s₁ B hml hv
  obtain ⟨rfl, hsz, hP, hD0, hG⟩ := hv
  have hts := atoms_spec (ws := .code y cc nL ret :: TB) B.pre
  have hown : s.vm.findClass own = some m.cls := ho ▸ findClass_of_methodNamed B.named
  subst hsz
  have hD := hD0.self (sz := s.heap.size)
  have hA : ∀ q : Nat, s.heap.size ≤ q → va_A ω s.heap.size q := fun q h => Or.inr h
  have hl1 := lv_entry av (n := nL) hl
  rw [lg_entry_eq]
  exact body (p, l, e, _, s, m, _, below, meth, c, va_A ω s.heap.size, _, ε, nL) ⟨⟨B.exec, B.bytes, hml, hown, fun w h => hts w (List.mem_cons_of_mem _ h)⟩, B.returns, B.notSynchronized, hA, hG, rfl, rfl, rfl⟩ rfl s.heap [] _ hP hD va_S.rf hl1
/-- a contract says less -/
theorem CT.weaken {ε : ET} {y : MethodName} {cc : ByteArray} {nL : Nat} {ret : Option FieldType} {fr lo mc ms : Nat} {av : List Value} {ω : va_W} {P P' : Option Value → va_W → Prop} (h : CT ε y cc nL ret fr lo mc ms av ω P) (hp : ∀ r ω', P r ω' → P' r ω') : CT ε y cc nL ret fr lo mc ms av ω P' := by
  intro l sz
  have h1 := h l sz
  unfold Met at h1 ⊢
  intro p e ha hc hk s m args below hf happ hP hk2
  obtain ⟨k, o, h3, h4, h5, ⟨⟨r, ω', h6, h7, h8⟩, h9⟩, h10⟩ := h1 p e ha hc hk s m args below hf happ hP hk2
  exact ⟨k, o, h3, h4, h5, ⟨⟨r, ω', h6, hp _ _ h7, h8⟩, h9⟩, h10⟩
section ROWS
variable {κ : KT} {ε : ET} {own : String} {cc : ByteArray} {nL : Nat} {ret : Option FieldType} {fr lo mc ms : Nat} {k n : Nat} {ω : va_W} {pc : Nat} {lv lv' : List (Nat × Value)} {st : List Value}
theorem j_iconst (C : CX κ ε own cc nL ret fr lo mc ms) {z : Int} {x : Int32} (hd : decode cc pc = .ok (.iconst z, 1)) (hv : Int32.ofInt z = x) (h : JW κ k n ω (pc + 1) lv (.int x :: st)) : JW κ k n ω pc lv (st) := by
  obtain ⟨p, l, e, R, s, m, args, below, meth, c, A, Q, ε0, nL0⟩ := κ
  obtain ⟨⟨hx, hb, hml, hown, hts⟩, hr, hlk, hA, hG, hR, rfl, rfl⟩ := C
  intro H locs ls hP hD hS hl
  exact lv_iconst hx hb hd hv (h H locs ls hP hD hS hl)
theorem j_bipush (C : CX κ ε own cc nL ret fr lo mc ms) {z : Int} {x : Int32} (hd : decode cc pc = .ok (.bipush z, 2)) (hv : (Int8.ofInt z).toInt32 = x) (h : JW κ k n ω (pc + 2) lv (.int x :: st)) : JW κ k n ω pc lv (st) := by
  obtain ⟨p, l, e, R, s, m, args, below, meth, c, A, Q, ε0, nL0⟩ := κ
  obtain ⟨⟨hx, hb, hml, hown, hts⟩, hr, hlk, hA, hG, hR, rfl, rfl⟩ := C
  intro H locs ls hP hD hS hl
  exact lv_bipush hx hb hd hv (h H locs ls hP hD hS hl)
theorem j_sipush (C : CX κ ε own cc nL ret fr lo mc ms) {z : Int} {x : Int32} (hd : decode cc pc = .ok (.sipush z, 3)) (hv : (Int16.ofInt z).toInt32 = x) (h : JW κ k n ω (pc + 3) lv (.int x :: st)) : JW κ k n ω pc lv (st) := by
  obtain ⟨p, l, e, R, s, m, args, below, meth, c, A, Q, ε0, nL0⟩ := κ
  obtain ⟨⟨hx, hb, hml, hown, hts⟩, hr, hlk, hA, hG, hR, rfl, rfl⟩ := C
  intro H locs ls hP hD hS hl
  exact lv_sipush hx hb hd hv (h H locs ls hP hD hS hl)
theorem j_lconst (C : CX κ ε own cc nL ret fr lo mc ms) {z : Fin 2} {x : Int64} (hd : decode cc pc = .ok (.lconst z, 1)) (hv : Int64.ofNat (z : Nat) = x) (h : JW κ k n ω (pc + 1) lv (.long x :: st)) : JW κ k n ω pc lv (st) := by
  obtain ⟨p, l, e, R, s, m, args, below, meth, c, A, Q, ε0, nL0⟩ := κ
  obtain ⟨⟨hx, hb, hml, hown, hts⟩, hr, hlk, hA, hG, hR, rfl, rfl⟩ := C
  intro H locs ls hP hD hS hl
  exact lv_lconst hx hb hd hv (h H locs ls hP hD hS hl)
theorem j_iload_n (C : CX κ ε own cc nL ret fr lo mc ms) {z : Fin 4} {i : Nat} {x : Int32} (hd : decode cc pc = .ok (.iload_n z, 1)) (hi : (z : Nat) = i) (q : Nat) (hq : lv[q]? = some (i, .int x)) (h : JW κ k n ω (pc + 1) lv (.int x :: st)) : JW κ k n ω pc lv (st) := by
  obtain ⟨p, l, e, R, s, m, args, below, meth, c, A, Q, ε0, nL0⟩ := κ
  obtain ⟨⟨hx, hb, hml, hown, hts⟩, hr, hlk, hA, hG, hR, rfl, rfl⟩ := C
  intro H locs ls hP hD hS hl
  exact lv_iload_n hx hb hd hi (lv_at hl q hq) (h H locs ls hP hD hS hl)
theorem j_iload (C : CX κ ε own cc nL ret fr lo mc ms) {i : Nat} {x : Int32} (hd : decode cc pc = .ok (.iload i, 2)) (q : Nat) (hq : lv[q]? = some (i, .int x)) (h : JW κ k n ω (pc + 2) lv (.int x :: st)) : JW κ k n ω pc lv (st) := by
  obtain ⟨p, l, e, R, s, m, args, below, meth, c, A, Q, ε0, nL0⟩ := κ
  obtain ⟨⟨hx, hb, hml, hown, hts⟩, hr, hlk, hA, hG, hR, rfl, rfl⟩ := C
  intro H locs ls hP hD hS hl
  exact lv_iload hx hb hd (lv_at hl q hq) (h H locs ls hP hD hS hl)
theorem j_istore_n (C : CX κ ε own cc nL ret fr lo mc ms) {z : Fin 4} {i : Nat} {x : Int32} (hd : decode cc pc = .ok (.istore_n z, 1)) (hi : (z : Nat) = i) (hn : i < nL) (he : (i, Value.int x) :: lv.filter (fun q => !(q.1 == i) && !(q.1 + 1 == i && q.2.category == 2)) = lv') (h : JW κ k n ω (pc + 1) lv' (st)) : JW κ k n ω pc lv (.int x :: st) := by
  obtain ⟨p, l, e, R, s, m, args, below, meth, c, A, Q, ε0, nL0⟩ := κ
  obtain ⟨⟨hx, hb, hml, hown, hts⟩, hr, hlk, hA, hG, hR, rfl, rfl⟩ := C
  intro H locs ls hP hD hS hl
  exact lv_istore_n hx hb hd hi hl hn he (fun ls hl => h H locs ls hP hD hS hl)
theorem j_istore (C : CX κ ε own cc nL ret fr lo mc ms) {i : Nat} {x : Int32} (hd : decode cc pc = .ok (.istore i, 2)) (hn : i < nL) (he : (i, Value.int x) :: lv.filter (fun q => !(q.1 == i) && !(q.1 + 1 == i && q.2.category == 2)) = lv') (h : JW κ k n ω (pc + 2) lv' (st)) : JW κ k n ω pc lv (.int x :: st) := by
  obtain ⟨p, l, e, R, s, m, args, below, meth, c, A, Q, ε0, nL0⟩ := κ
  obtain ⟨⟨hx, hb, hml, hown, hts⟩, hr, hlk, hA, hG, hR, rfl, rfl⟩ := C
  intro H locs ls hP hD hS hl
  exact lv_istore hx hb hd hl hn he (fun ls hl => h H locs ls hP hD hS hl)
theorem j_lload_n (C : CX κ ε own cc nL ret fr lo mc ms) {z : Fin 4} {i : Nat} {x : Int64} (hd : decode cc pc = .ok (.lload_n z, 1)) (hi : (z : Nat) = i) (q : Nat) (hq : lv[q]? = some (i, .long x)) (h : JW κ k n ω (pc + 1) lv (.long x :: st)) : JW κ k n ω pc lv (st) := by
  obtain ⟨p, l, e, R, s, m, args, below, meth, c, A, Q, ε0, nL0⟩ := κ
  obtain ⟨⟨hx, hb, hml, hown, hts⟩, hr, hlk, hA, hG, hR, rfl, rfl⟩ := C
  intro H locs ls hP hD hS hl
  exact lv_lload_n hx hb hd hi (lv_at hl q hq) (h H locs ls hP hD hS hl)
theorem j_lload (C : CX κ ε own cc nL ret fr lo mc ms) {i : Nat} {x : Int64} (hd : decode cc pc = .ok (.lload i, 2)) (q : Nat) (hq : lv[q]? = some (i, .long x)) (h : JW κ k n ω (pc + 2) lv (.long x :: st)) : JW κ k n ω pc lv (st) := by
  obtain ⟨p, l, e, R, s, m, args, below, meth, c, A, Q, ε0, nL0⟩ := κ
  obtain ⟨⟨hx, hb, hml, hown, hts⟩, hr, hlk, hA, hG, hR, rfl, rfl⟩ := C
  intro H locs ls hP hD hS hl
  exact lv_lload hx hb hd (lv_at hl q hq) (h H locs ls hP hD hS hl)
theorem j_lstore_n (C : CX κ ε own cc nL ret fr lo mc ms) {z : Fin 4} {i : Nat} {x : Int64} (hd : decode cc pc = .ok (.lstore_n z, 1)) (hi : (z : Nat) = i) (hn : i + 1 < nL) (he : (i, Value.long x) :: lv.filter (fun q => !(q.1 == i) && (!(q.1 == i + 1) && !(q.1 + 1 == i && q.2.category == 2))) = lv') (h : JW κ k n ω (pc + 1) lv' (st)) : JW κ k n ω pc lv (.long x :: st) := by
  obtain ⟨p, l, e, R, s, m, args, below, meth, c, A, Q, ε0, nL0⟩ := κ
  obtain ⟨⟨hx, hb, hml, hown, hts⟩, hr, hlk, hA, hG, hR, rfl, rfl⟩ := C
  intro H locs ls hP hD hS hl
  exact lv_lstore_n hx hb hd hi hl hn he (fun ls hl => h H locs ls hP hD hS hl)
theorem j_lstore (C : CX κ ε own cc nL ret fr lo mc ms) {i : Nat} {x : Int64} (hd : decode cc pc = .ok (.lstore i, 2)) (hn : i + 1 < nL) (he : (i, Value.long x) :: lv.filter (fun q => !(q.1 == i) && (!(q.1 == i + 1) && !(q.1 + 1 == i && q.2.category == 2))) = lv') (h : JW κ k n ω (pc + 2) lv' (st)) : JW κ k n ω pc lv (.long x :: st) := by
  obtain ⟨p, l, e, R, s, m, args, below, meth, c, A, Q, ε0, nL0⟩ := κ
  obtain ⟨⟨hx, hb, hml, hown, hts⟩, hr, hlk, hA, hG, hR, rfl, rfl⟩ := C
  intro H locs ls hP hD hS hl
  exact lv_lstore hx hb hd hl hn he (fun ls hl => h H locs ls hP hD hS hl)
theorem j_aload_n (C : CX κ ε own cc nL ret fr lo mc ms) {z : Fin 4} {i : Nat} {x : Nat} (hd : decode cc pc = .ok (.aload_n z, 1)) (hi : (z : Nat) = i) (q : Nat) (hq : lv[q]? = some (i, .ref x)) (h : JW κ k n ω (pc + 1) lv (.ref x :: st)) : JW κ k n ω pc lv (st) := by
  obtain ⟨p, l, e, R, s, m, args, below, meth, c, A, Q, ε0, nL0⟩ := κ
  obtain ⟨⟨hx, hb, hml, hown, hts⟩, hr, hlk, hA, hG, hR, rfl, rfl⟩ := C
  intro H locs ls hP hD hS hl
  exact lv_aload_n hx hb hd hi (lv_at hl q hq) (h H locs ls hP hD hS hl)
theorem j_aload (C : CX κ ε own cc nL ret fr lo mc ms) {i : Nat} {x : Nat} (hd : decode cc pc = .ok (.aload i, 2)) (q : Nat) (hq : lv[q]? = some (i, .ref x)) (h : JW κ k n ω (pc + 2) lv (.ref x :: st)) : JW κ k n ω pc lv (st) := by
  obtain ⟨p, l, e, R, s, m, args, below, meth, c, A, Q, ε0, nL0⟩ := κ
  obtain ⟨⟨hx, hb, hml, hown, hts⟩, hr, hlk, hA, hG, hR, rfl, rfl⟩ := C
  intro H locs ls hP hD hS hl
  exact lv_aload hx hb hd (lv_at hl q hq) (h H locs ls hP hD hS hl)
theorem j_astore_n (C : CX κ ε own cc nL ret fr lo mc ms) {z : Fin 4} {i : Nat} {x : Nat} (hd : decode cc pc = .ok (.astore_n z, 1)) (hi : (z : Nat) = i) (hn : i < nL) (he : (i, Value.ref x) :: lv.filter (fun q => !(q.1 == i) && !(q.1 + 1 == i && q.2.category == 2)) = lv') (h : JW κ k n ω (pc + 1) lv' (st)) : JW κ k n ω pc lv (.ref x :: st) := by
  obtain ⟨p, l, e, R, s, m, args, below, meth, c, A, Q, ε0, nL0⟩ := κ
  obtain ⟨⟨hx, hb, hml, hown, hts⟩, hr, hlk, hA, hG, hR, rfl, rfl⟩ := C
  intro H locs ls hP hD hS hl
  exact lv_astore_n hx hb hd hi hl hn he (fun ls hl => h H locs ls hP hD hS hl)
theorem j_astore (C : CX κ ε own cc nL ret fr lo mc ms) {i : Nat} {x : Nat} (hd : decode cc pc = .ok (.astore i, 2)) (hn : i < nL) (he : (i, Value.ref x) :: lv.filter (fun q => !(q.1 == i) && !(q.1 + 1 == i && q.2.category == 2)) = lv') (h : JW κ k n ω (pc + 2) lv' (st)) : JW κ k n ω pc lv (.ref x :: st) := by
  obtain ⟨p, l, e, R, s, m, args, below, meth, c, A, Q, ε0, nL0⟩ := κ
  obtain ⟨⟨hx, hb, hml, hown, hts⟩, hr, hlk, hA, hG, hR, rfl, rfl⟩ := C
  intro H locs ls hP hD hS hl
  exact lv_astore hx hb hd hl hn he (fun ls hl => h H locs ls hP hD hS hl)
theorem j_iinc (C : CX κ ε own cc nL ret fr lo mc ms) {i : Nat} {z : Int} {x y : Int32} (hd : decode cc pc = .ok (.iinc i z, 3)) (q : Nat) (hq : lv[q]? = some (i, .int x)) (hv : x + Int32.ofInt z = y) (hn : i < nL) (he : (i, Value.int y) :: lv.filter (fun q => !(q.1 == i) && !(q.1 + 1 == i && q.2.category == 2)) = lv') (h : JW κ k n ω (pc + 3) lv' (st)) : JW κ k n ω pc lv (st) := by
  obtain ⟨p, l, e, R, s, m, args, below, meth, c, A, Q, ε0, nL0⟩ := κ
  obtain ⟨⟨hx, hb, hml, hown, hts⟩, hr, hlk, hA, hG, hR, rfl, rfl⟩ := C
  intro H locs ls hP hD hS hl
  exact lv_iinc hx hb hd hl hq hv hn he (fun ls hl => h H locs ls hP hD hS hl)
theorem j_iadd (C : CX κ ε own cc nL ret fr lo mc ms) {x y : Int32} (hd : decode cc pc = .ok (.iadd, 1)) (h : JW κ k n ω (pc + 1) lv (.int (x + y) :: st)) : JW κ k n ω pc lv (.int y :: .int x :: st) := by
  obtain ⟨p, l, e, R, s, m, args, below, meth, c, A, Q, ε0, nL0⟩ := κ
  obtain ⟨⟨hx, hb, hml, hown, hts⟩, hr, hlk, hA, hG, hR, rfl, rfl⟩ := C
  intro H locs ls hP hD hS hl
  exact lv_iadd hx hb hd (h H locs ls hP hD hS hl)
theorem j_isub (C : CX κ ε own cc nL ret fr lo mc ms) {x y : Int32} (hd : decode cc pc = .ok (.isub, 1)) (h : JW κ k n ω (pc + 1) lv (.int (x - y) :: st)) : JW κ k n ω pc lv (.int y :: .int x :: st) := by
  obtain ⟨p, l, e, R, s, m, args, below, meth, c, A, Q, ε0, nL0⟩ := κ
  obtain ⟨⟨hx, hb, hml, hown, hts⟩, hr, hlk, hA, hG, hR, rfl, rfl⟩ := C
  intro H locs ls hP hD hS hl
  exact lv_isub hx hb hd (h H locs ls hP hD hS hl)
theorem j_imul (C : CX κ ε own cc nL ret fr lo mc ms) {x y : Int32} (hd : decode cc pc = .ok (.imul, 1)) (h : JW κ k n ω (pc + 1) lv (.int (x * y) :: st)) : JW κ k n ω pc lv (.int y :: .int x :: st) := by
  obtain ⟨p, l, e, R, s, m, args, below, meth, c, A, Q, ε0, nL0⟩ := κ
  obtain ⟨⟨hx, hb, hml, hown, hts⟩, hr, hlk, hA, hG, hR, rfl, rfl⟩ := C
  intro H locs ls hP hD hS hl
  exact lv_imul hx hb hd (h H locs ls hP hD hS hl)
theorem j_iand (C : CX κ ε own cc nL ret fr lo mc ms) {x y : Int32} (hd : decode cc pc = .ok (.iand, 1)) (h : JW κ k n ω (pc + 1) lv (.int (x &&& y) :: st)) : JW κ k n ω pc lv (.int y :: .int x :: st) := by
  obtain ⟨p, l, e, R, s, m, args, below, meth, c, A, Q, ε0, nL0⟩ := κ
  obtain ⟨⟨hx, hb, hml, hown, hts⟩, hr, hlk, hA, hG, hR, rfl, rfl⟩ := C
  intro H locs ls hP hD hS hl
  exact lv_iand hx hb hd (h H locs ls hP hD hS hl)
theorem j_ior (C : CX κ ε own cc nL ret fr lo mc ms) {x y : Int32} (hd : decode cc pc = .ok (.ior, 1)) (h : JW κ k n ω (pc + 1) lv (.int (x ||| y) :: st)) : JW κ k n ω pc lv (.int y :: .int x :: st) := by
  obtain ⟨p, l, e, R, s, m, args, below, meth, c, A, Q, ε0, nL0⟩ := κ
  obtain ⟨⟨hx, hb, hml, hown, hts⟩, hr, hlk, hA, hG, hR, rfl, rfl⟩ := C
  intro H locs ls hP hD hS hl
  exact lv_ior hx hb hd (h H locs ls hP hD hS hl)
theorem j_ixor (C : CX κ ε own cc nL ret fr lo mc ms) {x y : Int32} (hd : decode cc pc = .ok (.ixor, 1)) (h : JW κ k n ω (pc + 1) lv (.int (x ^^^ y) :: st)) : JW κ k n ω pc lv (.int y :: .int x :: st) := by
  obtain ⟨p, l, e, R, s, m, args, below, meth, c, A, Q, ε0, nL0⟩ := κ
  obtain ⟨⟨hx, hb, hml, hown, hts⟩, hr, hlk, hA, hG, hR, rfl, rfl⟩ := C
  intro H locs ls hP hD hS hl
  exact lv_ixor hx hb hd (h H locs ls hP hD hS hl)
theorem j_ladd (C : CX κ ε own cc nL ret fr lo mc ms) {x y : Int64} (hd : decode cc pc = .ok (.ladd, 1)) (h : JW κ k n ω (pc + 1) lv (.long (x + y) :: st)) : JW κ k n ω pc lv (.long y :: .long x :: st) := by
  obtain ⟨p, l, e, R, s, m, args, below, meth, c, A, Q, ε0, nL0⟩ := κ
  obtain ⟨⟨hx, hb, hml, hown, hts⟩, hr, hlk, hA, hG, hR, rfl, rfl⟩ := C
  intro H locs ls hP hD hS hl
  exact lv_ladd hx hb hd (h H locs ls hP hD hS hl)
theorem j_lsub (C : CX κ ε own cc nL ret fr lo mc ms) {x y : Int64} (hd : decode cc pc = .ok (.lsub, 1)) (h : JW κ k n ω (pc + 1) lv (.long (x - y) :: st)) : JW κ k n ω pc lv (.long y :: .long x :: st) := by
  obtain ⟨p, l, e, R, s, m, args, below, meth, c, A, Q, ε0, nL0⟩ := κ
  obtain ⟨⟨hx, hb, hml, hown, hts⟩, hr, hlk, hA, hG, hR, rfl, rfl⟩ := C
  intro H locs ls hP hD hS hl
  exact lv_lsub hx hb hd (h H locs ls hP hD hS hl)
theorem j_land (C : CX κ ε own cc nL ret fr lo mc ms) {x y : Int64} (hd : decode cc pc = .ok (.land, 1)) (h : JW κ k n ω (pc + 1) lv (.long (x &&& y) :: st)) : JW κ k n ω pc lv (.long y :: .long x :: st) := by
  obtain ⟨p, l, e, R, s, m, args, below, meth, c, A, Q, ε0, nL0⟩ := κ
  obtain ⟨⟨hx, hb, hml, hown, hts⟩, hr, hlk, hA, hG, hR, rfl, rfl⟩ := C
  intro H locs ls hP hD hS hl
  exact lv_land hx hb hd (h H locs ls hP hD hS hl)
theorem j_lor (C : CX κ ε own cc nL ret fr lo mc ms) {x y : Int64} (hd : decode cc pc = .ok (.lor, 1)) (h : JW κ k n ω (pc + 1) lv (.long (x ||| y) :: st)) : JW κ k n ω pc lv (.long y :: .long x :: st) := by
  obtain ⟨p, l, e, R, s, m, args, below, meth, c, A, Q, ε0, nL0⟩ := κ
  obtain ⟨⟨hx, hb, hml, hown, hts⟩, hr, hlk, hA, hG, hR, rfl, rfl⟩ := C
  intro H locs ls hP hD hS hl
  exact lv_lor hx hb hd (h H locs ls hP hD hS hl)
theorem j_idiv (C : CX κ ε own cc nL ret fr lo mc ms) {x y : Int32} (hd : decode cc pc = .ok (.idiv, 1)) (hne : ¬ y = 0) (h : JW κ k n ω (pc + 1) lv (.int (x / y) :: st)) : JW κ k n ω pc lv (.int y :: .int x :: st) := by
  obtain ⟨p, l, e, R, s, m, args, below, meth, c, A, Q, ε0, nL0⟩ := κ
  obtain ⟨⟨hx, hb, hml, hown, hts⟩, hr, hlk, hA, hG, hR, rfl, rfl⟩ := C
  intro H locs ls hP hD hS hl
  exact lv_idiv hx hb hd hne (h H locs ls hP hD hS hl)
theorem j_irem (C : CX κ ε own cc nL ret fr lo mc ms) {x y : Int32} (hd : decode cc pc = .ok (.irem, 1)) (hne : ¬ y = 0) (h : JW κ k n ω (pc + 1) lv (.int (x - x / y * y) :: st)) : JW κ k n ω pc lv (.int y :: .int x :: st) := by
  obtain ⟨p, l, e, R, s, m, args, below, meth, c, A, Q, ε0, nL0⟩ := κ
  obtain ⟨⟨hx, hb, hml, hown, hts⟩, hr, hlk, hA, hG, hR, rfl, rfl⟩ := C
  intro H locs ls hP hD hS hl
  exact lv_irem hx hb hd hne (h H locs ls hP hD hS hl)
theorem j_ldiv (C : CX κ ε own cc nL ret fr lo mc ms) {x y : Int64} (hd : decode cc pc = .ok (.ldiv, 1)) (hne : ¬ y = 0) (h : JW κ k n ω (pc + 1) lv (.long (x / y) :: st)) : JW κ k n ω pc lv (.long y :: .long x :: st) := by
  obtain ⟨p, l, e, R, s, m, args, below, meth, c, A, Q, ε0, nL0⟩ := κ
  obtain ⟨⟨hx, hb, hml, hown, hts⟩, hr, hlk, hA, hG, hR, rfl, rfl⟩ := C
  intro H locs ls hP hD hS hl
  exact lv_ldiv hx hb hd hne (h H locs ls hP hD hS hl)
theorem j_lrem (C : CX κ ε own cc nL ret fr lo mc ms) {x y : Int64} (hd : decode cc pc = .ok (.lrem, 1)) (hne : ¬ y = 0) (h : JW κ k n ω (pc + 1) lv (.long (x - x / y * y) :: st)) : JW κ k n ω pc lv (.long y :: .long x :: st) := by
  obtain ⟨p, l, e, R, s, m, args, below, meth, c, A, Q, ε0, nL0⟩ := κ
  obtain ⟨⟨hx, hb, hml, hown, hts⟩, hr, hlk, hA, hG, hR, rfl, rfl⟩ := C
  intro H locs ls hP hD hS hl
  exact lv_lrem hx hb hd hne (h H locs ls hP hD hS hl)
theorem j_ishl (C : CX κ ε own cc nL ret fr lo mc ms) {x y : Int32} (hd : decode cc pc = .ok (.ishl, 1)) (h : JW κ k n ω (pc + 1) lv (.int (x <<< (y &&& 31)) :: st)) : JW κ k n ω pc lv (.int y :: .int x :: st) := by
  obtain ⟨p, l, e, R, s, m, args, below, meth, c, A, Q, ε0, nL0⟩ := κ
  obtain ⟨⟨hx, hb, hml, hown, hts⟩, hr, hlk, hA, hG, hR, rfl, rfl⟩ := C
  intro H locs ls hP hD hS hl
  exact lv_ishl hx hb hd (h H locs ls hP hD hS hl)
theorem j_ishr (C : CX κ ε own cc nL ret fr lo mc ms) {x y : Int32} (hd : decode cc pc = .ok (.ishr, 1)) (h : JW κ k n ω (pc + 1) lv (.int (x >>> (y &&& 31)) :: st)) : JW κ k n ω pc lv (.int y :: .int x :: st) := by
  obtain ⟨p, l, e, R, s, m, args, below, meth, c, A, Q, ε0, nL0⟩ := κ
  obtain ⟨⟨hx, hb, hml, hown, hts⟩, hr, hlk, hA, hG, hR, rfl, rfl⟩ := C
  intro H locs ls hP hD hS hl
  exact lv_ishr hx hb hd (h H locs ls hP hD hS hl)
theorem j_iushr (C : CX κ ε own cc nL ret fr lo mc ms) {x y : Int32} (hd : decode cc pc = .ok (.iushr, 1)) (h : JW κ k n ω (pc + 1) lv (.int ((x.toUInt32 >>> (y.toUInt32 &&& Int32.toUInt32 31)).toInt32) :: st)) : JW κ k n ω pc lv (.int y :: .int x :: st) := by
  obtain ⟨p, l, e, R, s, m, args, below, meth, c, A, Q, ε0, nL0⟩ := κ
  obtain ⟨⟨hx, hb, hml, hown, hts⟩, hr, hlk, hA, hG, hR, rfl, rfl⟩ := C
  intro H locs ls hP hD hS hl
  exact lv_iushr hx hb hd rfl (h H locs ls hP hD hS hl)
theorem j_lushr (C : CX κ ε own cc nL ret fr lo mc ms) {x : Int64} {y : Int32} (hd : decode cc pc = .ok (.lushr, 1)) (h : JW κ k n ω (pc + 1) lv (.long ((x.toUInt64 >>> (y.toInt64.toUInt64 &&& Int64.toUInt64 63)).toInt64) :: st)) : JW κ k n ω pc lv (.int y :: .long x :: st) := by
  obtain ⟨p, l, e, R, s, m, args, below, meth, c, A, Q, ε0, nL0⟩ := κ
  obtain ⟨⟨hx, hb, hml, hown, hts⟩, hr, hlk, hA, hG, hR, rfl, rfl⟩ := C
  intro H locs ls hP hD hS hl
  exact lv_lushr hx hb hd rfl (h H locs ls hP hD hS hl)
theorem j_lshl (C : CX κ ε own cc nL ret fr lo mc ms) {x : Int64} {y : Int32} (hd : decode cc pc = .ok (.lshl, 1)) (h : JW κ k n ω (pc + 1) lv (.long (x <<< (y.toInt64 &&& 63)) :: st)) : JW κ k n ω pc lv (.int y :: .long x :: st) := by
  obtain ⟨p, l, e, R, s, m, args, below, meth, c, A, Q, ε0, nL0⟩ := κ
  obtain ⟨⟨hx, hb, hml, hown, hts⟩, hr, hlk, hA, hG, hR, rfl, rfl⟩ := C
  intro H locs ls hP hD hS hl
  exact lv_lshl hx hb hd rfl (h H locs ls hP hD hS hl)
theorem j_lshr (C : CX κ ε own cc nL ret fr lo mc ms) {x : Int64} {y : Int32} (hd : decode cc pc = .ok (.lshr, 1)) (h : JW κ k n ω (pc + 1) lv (.long (x >>> (y.toInt64 &&& 63)) :: st)) : JW κ k n ω pc lv (.int y :: .long x :: st) := by
  obtain ⟨p, l, e, R, s, m, args, below, meth, c, A, Q, ε0, nL0⟩ := κ
  obtain ⟨⟨hx, hb, hml, hown, hts⟩, hr, hlk, hA, hG, hR, rfl, rfl⟩ := C
  intro H locs ls hP hD hS hl
  exact lv_lshr hx hb hd rfl (h H locs ls hP hD hS hl)
theorem j_i2l (C : CX κ ε own cc nL ret fr lo mc ms) {x : Int32} (hd : decode cc pc = .ok (.i2l, 1)) (h : JW κ k n ω (pc + 1) lv (.long x.toInt64 :: st)) : JW κ k n ω pc lv (.int x :: st) := by
  obtain ⟨p, l, e, R, s, m, args, below, meth, c, A, Q, ε0, nL0⟩ := κ
  obtain ⟨⟨hx, hb, hml, hown, hts⟩, hr, hlk, hA, hG, hR, rfl, rfl⟩ := C
  intro H locs ls hP hD hS hl
  exact lv_i2l hx hb hd rfl (h H locs ls hP hD hS hl)
theorem j_l2i (C : CX κ ε own cc nL ret fr lo mc ms) {x : Int64} (hd : decode cc pc = .ok (.l2i, 1)) (h : JW κ k n ω (pc + 1) lv (.int x.toInt32 :: st)) : JW κ k n ω pc lv (.long x :: st) := by
  obtain ⟨p, l, e, R, s, m, args, below, meth, c, A, Q, ε0, nL0⟩ := κ
  obtain ⟨⟨hx, hb, hml, hown, hts⟩, hr, hlk, hA, hG, hR, rfl, rfl⟩ := C
  intro H locs ls hP hD hS hl
  exact lv_l2i hx hb hd rfl (h H locs ls hP hD hS hl)
theorem j_i2b (C : CX κ ε own cc nL ret fr lo mc ms) {x : Int32} (hd : decode cc pc = .ok (.i2b, 1)) (h : JW κ k n ω (pc + 1) lv (.int x.toInt8.toInt32 :: st)) : JW κ k n ω pc lv (.int x :: st) := by
  obtain ⟨p, l, e, R, s, m, args, below, meth, c, A, Q, ε0, nL0⟩ := κ
  obtain ⟨⟨hx, hb, hml, hown, hts⟩, hr, hlk, hA, hG, hR, rfl, rfl⟩ := C
  intro H locs ls hP hD hS hl
  exact lv_i2b hx hb hd rfl (h H locs ls hP hD hS hl)
theorem j_i2c (C : CX κ ε own cc nL ret fr lo mc ms) {x : Int32} (hd : decode cc pc = .ok (.i2c, 1)) (h : JW κ k n ω (pc + 1) lv (.int (x.toUInt32 % 65536).toInt32 :: st)) : JW κ k n ω pc lv (.int x :: st) := by
  obtain ⟨p, l, e, R, s, m, args, below, meth, c, A, Q, ε0, nL0⟩ := κ
  obtain ⟨⟨hx, hb, hml, hown, hts⟩, hr, hlk, hA, hG, hR, rfl, rfl⟩ := C
  intro H locs ls hP hD hS hl
  exact lv_i2c hx hb hd rfl (h H locs ls hP hD hS hl)
theorem j_lcmp (C : CX κ ε own cc nL ret fr lo mc ms) {x y : Int64} (hd : decode cc pc = .ok (.lcmp, 1)) (h : JW κ k n ω (pc + 1) lv (.int (lg_cmp x y) :: st)) : JW κ k n ω pc lv (.long y :: .long x :: st) := by
  obtain ⟨p, l, e, R, s, m, args, below, meth, c, A, Q, ε0, nL0⟩ := κ
  obtain ⟨⟨hx, hb, hml, hown, hts⟩, hr, hlk, hA, hG, hR, rfl, rfl⟩ := C
  intro H locs ls hP hD hS hl
  exact W.lcmp hx hb hd (h H locs ls hP hD hS hl)
theorem j_dup (C : CX κ ε own cc nL ret fr lo mc ms) {va : Value} (hd : decode cc pc = .ok (.dup, 1)) (hc : va.category = 1) (h : JW κ k n ω (pc + 1) lv (va :: va :: st)) : JW κ k n ω pc lv (va :: st) := by
  obtain ⟨p, l, e, R, s, m, args, below, meth, c, A, Q, ε0, nL0⟩ := κ
  obtain ⟨⟨hx, hb, hml, hown, hts⟩, hr, hlk, hA, hG, hR, rfl, rfl⟩ := C
  intro H locs ls hP hD hS hl
  exact lv_dup hx hb hd hc (h H locs ls hP hD hS hl)
theorem j_pop (C : CX κ ε own cc nL ret fr lo mc ms) {va : Value} (hd : decode cc pc = .ok (.pop, 1)) (hc : va.category = 1) (h : JW κ k n ω (pc + 1) lv (st)) : JW κ k n ω pc lv (va :: st) := by
  obtain ⟨p, l, e, R, s, m, args, below, meth, c, A, Q, ε0, nL0⟩ := κ
  obtain ⟨⟨hx, hb, hml, hown, hts⟩, hr, hlk, hA, hG, hR, rfl, rfl⟩ := C
  intro H locs ls hP hD hS hl
  exact lv_pop hx hb hd hc (h H locs ls hP hD hS hl)
theorem j_dup2 (C : CX κ ε own cc nL ret fr lo mc ms) {va vb : Value} (hd : decode cc pc = .ok (.dup2, 1)) (hc : va.category = 1) (hc2 : vb.category = 1) (h : JW κ k n ω (pc + 1) lv (va :: vb :: va :: vb :: st)) : JW κ k n ω pc lv (va :: vb :: st) := by
  obtain ⟨p, l, e, R, s, m, args, below, meth, c, A, Q, ε0, nL0⟩ := κ
  obtain ⟨⟨hx, hb, hml, hown, hts⟩, hr, hlk, hA, hG, hR, rfl, rfl⟩ := C
  intro H locs ls hP hD hS hl
  exact lv_dup2_11 hx hb hd hc hc2 (h H locs ls hP hD hS hl)
theorem j_goto (C : CX κ ε own cc nL ret fr lo mc ms) {off : Int} {tgt : Nat} (hd : decode cc pc = .ok (.goto off, 3)) (ht : (pc : Int) + off = (tgt : Int)) (h : JW κ k n ω (tgt) lv (st)) : JW κ k n ω pc lv (st) := by
  obtain ⟨p, l, e, R, s, m, args, below, meth, c, A, Q, ε0, nL0⟩ := κ
  obtain ⟨⟨hx, hb, hml, hown, hts⟩, hr, hlk, hA, hG, hR, rfl, rfl⟩ := C
  intro H locs ls hP hD hS hl
  exact lv_goto hx hb hd ht (h H locs ls hP hD hS hl)
theorem j_ldc (C : CX κ ε own cc nL ret fr lo mc ms) {ix : Nat} {v : Int32} (hd : decode cc pc = .ok (.ldc ix, 2)) (hw : Cond.constant own ix v ∈ TB) (h : JW κ k n ω (pc + 2) lv (.int v :: st)) : JW κ k n ω pc lv (st) := by
  obtain ⟨p, l, e, R, s, m, args, below, meth, c, A, Q, ε0, nL0⟩ := κ
  obtain ⟨⟨hx, hb, hml, hown, hts⟩, hr, hlk, hA, hG, hR, rfl, rfl⟩ := C
  intro H locs ls hP hD hS hl
  exact lv_ldc hx hb hown (hts _ hw) hd (h H locs ls hP hD hS hl)
theorem j_ldc2 (C : CX κ ε own cc nL ret fr lo mc ms) {ix : Nat} {v : Int64} (hd : decode cc pc = .ok (.ldc2_w ix, 3)) (hw : Cond.constantLong own ix v ∈ TB) (h : JW κ k n ω (pc + 3) lv (.long v :: st)) : JW κ k n ω pc lv (st) := by
  obtain ⟨p, l, e, R, s, m, args, below, meth, c, A, Q, ε0, nL0⟩ := κ
  obtain ⟨⟨hx, hb, hml, hown, hts⟩, hr, hlk, hA, hG, hR, rfl, rfl⟩ := C
  intro H locs ls hP hD hS hl
  exact lv_ldc2 hx hb hown (hts _ hw) hd (h H locs ls hP hD hS hl)
theorem j_if_eq (C : CX κ ε own cc nL ret fr lo mc ms) {x : Int32} {off : Int} {tgt : Nat} (hd : decode cc pc = .ok (.ifCond .eq off, 3)) (ht : (pc : Int) + off = (tgt : Int)) (h1 : (x = 0) → JW κ k n ω tgt lv st) (h2 : (¬ x = 0) → JW κ k n ω (pc + 3) lv st) : JW κ k n ω pc lv (.int x :: st) := by
  obtain ⟨p, l, e, R, s, m, args, below, meth, c, A, Q, ε0, nL0⟩ := κ
  obtain ⟨⟨hx, hb, hml, hown, hts⟩, hr, hlk, hA, hG, hR, rfl, rfl⟩ := C
  intro H locs ls hP hD hS hl
  exact lv_if_eq hx hb hd ht (fun q => h1 q H locs ls hP hD hS hl) (fun q => h2 q H locs ls hP hD hS hl)
theorem j_icmp_eq (C : CX κ ε own cc nL ret fr lo mc ms) {x y : Int32} {off : Int} {tgt : Nat} (hd : decode cc pc = .ok (.if_icmp .eq off, 3)) (ht : (pc : Int) + off = (tgt : Int)) (h1 : (x = y) → JW κ k n ω tgt lv st) (h2 : (¬ x = y) → JW κ k n ω (pc + 3) lv st) : JW κ k n ω pc lv (.int y :: .int x :: st) := by
  obtain ⟨p, l, e, R, s, m, args, below, meth, c, A, Q, ε0, nL0⟩ := κ
  obtain ⟨⟨hx, hb, hml, hown, hts⟩, hr, hlk, hA, hG, hR, rfl, rfl⟩ := C
  intro H locs ls hP hD hS hl
  exact lv_icmp_eq hx hb hd ht (fun q => h1 q H locs ls hP hD hS hl) (fun q => h2 q H locs ls hP hD hS hl)
theorem j_if_ne (C : CX κ ε own cc nL ret fr lo mc ms) {x : Int32} {off : Int} {tgt : Nat} (hd : decode cc pc = .ok (.ifCond .ne off, 3)) (ht : (pc : Int) + off = (tgt : Int)) (h1 : (¬ x = 0) → JW κ k n ω tgt lv st) (h2 : (x = 0) → JW κ k n ω (pc + 3) lv st) : JW κ k n ω pc lv (.int x :: st) := by
  obtain ⟨p, l, e, R, s, m, args, below, meth, c, A, Q, ε0, nL0⟩ := κ
  obtain ⟨⟨hx, hb, hml, hown, hts⟩, hr, hlk, hA, hG, hR, rfl, rfl⟩ := C
  intro H locs ls hP hD hS hl
  exact lv_if_ne hx hb hd ht (fun q => h1 q H locs ls hP hD hS hl) (fun q => h2 q H locs ls hP hD hS hl)
theorem j_icmp_ne (C : CX κ ε own cc nL ret fr lo mc ms) {x y : Int32} {off : Int} {tgt : Nat} (hd : decode cc pc = .ok (.if_icmp .ne off, 3)) (ht : (pc : Int) + off = (tgt : Int)) (h1 : (¬ x = y) → JW κ k n ω tgt lv st) (h2 : (x = y) → JW κ k n ω (pc + 3) lv st) : JW κ k n ω pc lv (.int y :: .int x :: st) := by
  obtain ⟨p, l, e, R, s, m, args, below, meth, c, A, Q, ε0, nL0⟩ := κ
  obtain ⟨⟨hx, hb, hml, hown, hts⟩, hr, hlk, hA, hG, hR, rfl, rfl⟩ := C
  intro H locs ls hP hD hS hl
  exact lv_icmp_ne hx hb hd ht (fun q => h1 q H locs ls hP hD hS hl) (fun q => h2 q H locs ls hP hD hS hl)
theorem j_if_lt (C : CX κ ε own cc nL ret fr lo mc ms) {x : Int32} {off : Int} {tgt : Nat} (hd : decode cc pc = .ok (.ifCond .lt off, 3)) (ht : (pc : Int) + off = (tgt : Int)) (h1 : (x < 0) → JW κ k n ω tgt lv st) (h2 : (¬ x < 0) → JW κ k n ω (pc + 3) lv st) : JW κ k n ω pc lv (.int x :: st) := by
  obtain ⟨p, l, e, R, s, m, args, below, meth, c, A, Q, ε0, nL0⟩ := κ
  obtain ⟨⟨hx, hb, hml, hown, hts⟩, hr, hlk, hA, hG, hR, rfl, rfl⟩ := C
  intro H locs ls hP hD hS hl
  exact lv_if_lt hx hb hd ht (fun q => h1 q H locs ls hP hD hS hl) (fun q => h2 q H locs ls hP hD hS hl)
theorem j_icmp_lt (C : CX κ ε own cc nL ret fr lo mc ms) {x y : Int32} {off : Int} {tgt : Nat} (hd : decode cc pc = .ok (.if_icmp .lt off, 3)) (ht : (pc : Int) + off = (tgt : Int)) (h1 : (x < y) → JW κ k n ω tgt lv st) (h2 : (¬ x < y) → JW κ k n ω (pc + 3) lv st) : JW κ k n ω pc lv (.int y :: .int x :: st) := by
  obtain ⟨p, l, e, R, s, m, args, below, meth, c, A, Q, ε0, nL0⟩ := κ
  obtain ⟨⟨hx, hb, hml, hown, hts⟩, hr, hlk, hA, hG, hR, rfl, rfl⟩ := C
  intro H locs ls hP hD hS hl
  exact lv_icmp_lt hx hb hd ht (fun q => h1 q H locs ls hP hD hS hl) (fun q => h2 q H locs ls hP hD hS hl)
theorem j_if_ge (C : CX κ ε own cc nL ret fr lo mc ms) {x : Int32} {off : Int} {tgt : Nat} (hd : decode cc pc = .ok (.ifCond .ge off, 3)) (ht : (pc : Int) + off = (tgt : Int)) (h1 : (0 ≤ x) → JW κ k n ω tgt lv st) (h2 : (¬ 0 ≤ x) → JW κ k n ω (pc + 3) lv st) : JW κ k n ω pc lv (.int x :: st) := by
  obtain ⟨p, l, e, R, s, m, args, below, meth, c, A, Q, ε0, nL0⟩ := κ
  obtain ⟨⟨hx, hb, hml, hown, hts⟩, hr, hlk, hA, hG, hR, rfl, rfl⟩ := C
  intro H locs ls hP hD hS hl
  exact lv_if_ge hx hb hd ht (fun q => h1 q H locs ls hP hD hS hl) (fun q => h2 q H locs ls hP hD hS hl)
theorem j_icmp_ge (C : CX κ ε own cc nL ret fr lo mc ms) {x y : Int32} {off : Int} {tgt : Nat} (hd : decode cc pc = .ok (.if_icmp .ge off, 3)) (ht : (pc : Int) + off = (tgt : Int)) (h1 : (y ≤ x) → JW κ k n ω tgt lv st) (h2 : (¬ y ≤ x) → JW κ k n ω (pc + 3) lv st) : JW κ k n ω pc lv (.int y :: .int x :: st) := by
  obtain ⟨p, l, e, R, s, m, args, below, meth, c, A, Q, ε0, nL0⟩ := κ
  obtain ⟨⟨hx, hb, hml, hown, hts⟩, hr, hlk, hA, hG, hR, rfl, rfl⟩ := C
  intro H locs ls hP hD hS hl
  exact lv_icmp_ge hx hb hd ht (fun q => h1 q H locs ls hP hD hS hl) (fun q => h2 q H locs ls hP hD hS hl)
theorem j_if_gt (C : CX κ ε own cc nL ret fr lo mc ms) {x : Int32} {off : Int} {tgt : Nat} (hd : decode cc pc = .ok (.ifCond .gt off, 3)) (ht : (pc : Int) + off = (tgt : Int)) (h1 : (0 < x) → JW κ k n ω tgt lv st) (h2 : (¬ 0 < x) → JW κ k n ω (pc + 3) lv st) : JW κ k n ω pc lv (.int x :: st) := by
  obtain ⟨p, l, e, R, s, m, args, below, meth, c, A, Q, ε0, nL0⟩ := κ
  obtain ⟨⟨hx, hb, hml, hown, hts⟩, hr, hlk, hA, hG, hR, rfl, rfl⟩ := C
  intro H locs ls hP hD hS hl
  exact lv_if_gt hx hb hd ht (fun q => h1 q H locs ls hP hD hS hl) (fun q => h2 q H locs ls hP hD hS hl)
theorem j_icmp_gt (C : CX κ ε own cc nL ret fr lo mc ms) {x y : Int32} {off : Int} {tgt : Nat} (hd : decode cc pc = .ok (.if_icmp .gt off, 3)) (ht : (pc : Int) + off = (tgt : Int)) (h1 : (y < x) → JW κ k n ω tgt lv st) (h2 : (¬ y < x) → JW κ k n ω (pc + 3) lv st) : JW κ k n ω pc lv (.int y :: .int x :: st) := by
  obtain ⟨p, l, e, R, s, m, args, below, meth, c, A, Q, ε0, nL0⟩ := κ
  obtain ⟨⟨hx, hb, hml, hown, hts⟩, hr, hlk, hA, hG, hR, rfl, rfl⟩ := C
  intro H locs ls hP hD hS hl
  exact lv_icmp_gt hx hb hd ht (fun q => h1 q H locs ls hP hD hS hl) (fun q => h2 q H locs ls hP hD hS hl)
theorem j_if_le (C : CX κ ε own cc nL ret fr lo mc ms) {x : Int32} {off : Int} {tgt : Nat} (hd : decode cc pc = .ok (.ifCond .le off, 3)) (ht : (pc : Int) + off = (tgt : Int)) (h1 : (x ≤ 0) → JW κ k n ω tgt lv st) (h2 : (¬ x ≤ 0) → JW κ k n ω (pc + 3) lv st) : JW κ k n ω pc lv (.int x :: st) := by
  obtain ⟨p, l, e, R, s, m, args, below, meth, c, A, Q, ε0, nL0⟩ := κ
  obtain ⟨⟨hx, hb, hml, hown, hts⟩, hr, hlk, hA, hG, hR, rfl, rfl⟩ := C
  intro H locs ls hP hD hS hl
  exact lv_if_le hx hb hd ht (fun q => h1 q H locs ls hP hD hS hl) (fun q => h2 q H locs ls hP hD hS hl)
theorem j_icmp_le (C : CX κ ε own cc nL ret fr lo mc ms) {x y : Int32} {off : Int} {tgt : Nat} (hd : decode cc pc = .ok (.if_icmp .le off, 3)) (ht : (pc : Int) + off = (tgt : Int)) (h1 : (x ≤ y) → JW κ k n ω tgt lv st) (h2 : (¬ x ≤ y) → JW κ k n ω (pc + 3) lv st) : JW κ k n ω pc lv (.int y :: .int x :: st) := by
  obtain ⟨p, l, e, R, s, m, args, below, meth, c, A, Q, ε0, nL0⟩ := κ
  obtain ⟨⟨hx, hb, hml, hown, hts⟩, hr, hlk, hA, hG, hR, rfl, rfl⟩ := C
  intro H locs ls hP hD hS hl
  exact lv_icmp_le hx hb hd ht (fun q => h1 q H locs ls hP hD hS hl) (fun q => h2 q H locs ls hP hD hS hl)
theorem j_get (C : CX κ ε own cc nL ret fr lo mc ms) {ref Cn : String} {T : u_T} {N ci ix a : Nat} {fs : List Value} {v : Value} (hd : decode cc pc = .ok (.getfield ix, 3)) (q : Nat) (he : ω[q]? = some (a, .inr (ci, fs))) (hin : ∀ w ∈ u_ws Cn T N, w ∈ TB) (hc : vwCl[ci]? = some (Cn, T, N)) (f : Nat) (hf : f < N) (hw : Cond.fieldLink own ix ref (T f).2.1 (T f).2.2.1 ∈ TB) (hs : (T f).1 = ref) (hv : fs[f]? = some v) (h : JW κ k n ω (pc + 3) lv (v :: st)) : JW κ k n ω pc lv (.ref a :: st) := by
  obtain ⟨p, l, e, R, s, m, args, below, meth, c, A, Q, ε0, nL0⟩ := κ
  obtain ⟨⟨hx, hb, hml, hown, hts⟩, hr, hlk, hA, hG, hR, rfl, rfl⟩ := C
  intro H locs ls hP hD hS hl
  exact va_get hx hb hts hin hown hG.1 hP q he hc f hf (hts _ hw) (by rw [hs]; exact fun _ h9 => h9) hv hd (h H locs ls hP hD hS hl)
theorem j_put (C : CX κ ε own cc nL ret fr lo mc ms) {ref Cn : String} {T : u_T} {N ci ix a : Nat} {fs : List Value} {v : Value} {ω' : va_W} (hd : decode cc pc = .ok (.putfield ix, 3)) (q : Nat) (he : ω[q]? = some (a, .inr (ci, fs))) (hin : ∀ w ∈ u_ws Cn T N, w ∈ TB) (ty : Nat → FieldType) (hty : ∀ k, k < N → parseFieldDescriptor (T k).2.2.1 = some (ty k)) (hnm : ∀ a, a < N → ∀ b, b < N → a ≠ b → (T a).2.1 ≠ (T b).2.1) (hc : vwCl[ci]? = some (Cn, T, N)) (f : Nat) (hf : f < N) (hw : Cond.fieldLink own ix ref (T f).2.1 (T f).2.2.1 ∈ TB) (hs : (T f).1 = ref) (hfin : (T f).2.2.2 = false) (hn : narrow (ty f) v = v) (hfit : fits (ty f) v = true) (hl9 : f < fs.length) (hset : ω.set q (a, .inr (ci, fs.set f v)) = ω') (h : JW κ k n ω' (pc + 3) lv st) : JW κ k n ω pc lv (v :: .ref a :: st) := by
  obtain ⟨p, l, e, R, s, m, args, below, meth, c, A, Q, ε0, nL0⟩ := κ
  obtain ⟨⟨hx, hb, hml, hown, hts⟩, hr, hlk, hA, hG, hR, rfl, rfl⟩ := C
  intro H locs ls hP hD hS hl
  refine va_put hx hb hts hin ty hty hnm hown hG.1 hP hD hS q he hc f hf (hts _ hw) (by rw [hs]; exact fun _ h9 => h9) hfin (hty f hf) hn hfit hl9 hd (fun H locs hP hD hS => ?_)
  rw [hset] at hP hD
  exact h H locs ls hP hD hS hl
theorem j_putF (C : CX κ ε own cc nL ret fr lo mc ms) (hin2 : IN κ) {ref Cn : String} {T : u_T} {N ci ix a : Nat} {fs : List Value} {v : Value} {ω' : va_W} (hd : decode cc pc = .ok (.putfield ix, 3)) (q : Nat) (he : ω[q]? = some (a, .inr (ci, fs))) (hin : ∀ w ∈ u_ws Cn T N, w ∈ TB) (ty : Nat → FieldType) (hty : ∀ k, k < N → parseFieldDescriptor (T k).2.2.1 = some (ty k)) (hnm : ∀ a, a < N → ∀ b, b < N → a ≠ b → (T a).2.1 ≠ (T b).2.1) (hc : vwCl[ci]? = some (Cn, T, N)) (f : Nat) (hf : f < N) (hw : Cond.fieldLink own ix ref (T f).2.1 (T f).2.2.1 ∈ TB) (hs : (T f).1 = ref) (hfin : (T f).2.2.2 = true) (hdc : (T f).1 = own) (hn : narrow (ty f) v = v) (hfit : fits (ty f) v = true) (hl9 : f < fs.length) (hset : ω.set q (a, .inr (ci, fs.set f v)) = ω') (h : JW κ k n ω' (pc + 3) lv st) : JW κ k n ω pc lv (v :: .ref a :: st) := by
  obtain ⟨p, l, e, R, s, m, args, below, meth, c, A, Q, ε0, nL0⟩ := κ
  obtain ⟨⟨hx, hb, hml, hown, hts⟩, hr, hlk, hA, hG, hR, rfl, rfl⟩ := C
  intro H locs ls hP hD hS hl
  refine va_putF hx hb hts hin ty hty hnm hown hG.1 hP hD hS q he hc f hf (hts _ hw) (by rw [hs]; exact fun _ h9 => h9) hfin hin2 hdc (hty f hf) hn hfit hl9 hd (fun H locs hP hD hS => ?_)
  rw [hset] at hP hD
  exact h H locs ls hP hD hS hl
theorem j_iald (C : CX κ ε own cc nL ret fr lo mc ms) {a N : Nat} {f : Nat → Int32} {i : Int32} (hd : decode cc pc = .ok (.iaload, 1)) (q : Nat) (he : ω[q]? = some (a, .inl (ε.2.2.1, N, .inl f))) (hin : vp_in i N) (h : JW κ k n ω (pc + 1) lv (.int (f i.toNatClampNeg) :: st)) : JW κ k n ω pc lv (.int i :: .ref a :: st) := by
  obtain ⟨p, l, e, R, s, m, args, below, meth, c, A, Q, ε0, nL0⟩ := κ
  obtain ⟨⟨hx, hb, hml, hown, hts⟩, hr, hlk, hA, hG, hR, rfl, rfl⟩ := C
  intro H locs ls hP hD hS hl
  exact va_iald hx hb hG.1 hP q 1 he rfl hin hd (h H locs ls hP hD hS hl)
theorem j_bald (C : CX κ ε own cc nL ret fr lo mc ms) {a N : Nat} {f : Nat → Int32} {i : Int32} (hd : decode cc pc = .ok (.baload, 1)) (q : Nat) (he : ω[q]? = some (a, .inl (ε.2.1, N, .inl f))) (hin : vp_in i N) (h : JW κ k n ω (pc + 1) lv (.int (f i.toNatClampNeg) :: st)) : JW κ k n ω pc lv (.int i :: .ref a :: st) := by
  obtain ⟨p, l, e, R, s, m, args, below, meth, c, A, Q, ε0, nL0⟩ := κ
  obtain ⟨⟨hx, hb, hml, hown, hts⟩, hr, hlk, hA, hG, hR, rfl, rfl⟩ := C
  intro H locs ls hP hD hS hl
  exact va_bald hx hb hG.1 hP q 0 he rfl hin hd (h H locs ls hP hD hS hl)
theorem j_zald (C : CX κ ε own cc nL ret fr lo mc ms) {a N : Nat} {f : Nat → Int32} {i : Int32} (hd : decode cc pc = .ok (.baload, 1)) (q : Nat) (he : ω[q]? = some (a, .inl (ε.2.2.2, N, .inl f))) (hin : vp_in i N) (h : JW κ k n ω (pc + 1) lv (.int (f i.toNatClampNeg) :: st)) : JW κ k n ω pc lv (.int i :: .ref a :: st) := by
  obtain ⟨p, l, e, R, s, m, args, below, meth, c, A, Q, ε0, nL0⟩ := κ
  obtain ⟨⟨hx, hb, hml, hown, hts⟩, hr, hlk, hA, hG, hR, rfl, rfl⟩ := C
  intro H locs ls hP hD hS hl
  exact va_zald hx hb hG.1 hP q 2 he rfl hin hd (h H locs ls hP hD hS hl)
theorem j_iast (C : CX κ ε own cc nL ret fr lo mc ms) {a N : Nat} {f : Nat → Int32} {i x : Int32} {ω' : va_W} (hd : decode cc pc = .ok (.iastore, 1)) (q : Nat) (he : ω[q]? = some (a, .inl (ε.2.2.1, N, .inl f))) (hin : vp_in i N) (hset : ω.set q (a, .inl (ε.2.2.1, N, .inl (upd f i.toNatClampNeg x))) = ω') (h : JW κ k n ω' (pc + 1) lv st) : JW κ k n ω pc lv (.int x :: .int i :: .ref a :: st) := by
  obtain ⟨p, l, e, R, s, m, args, below, meth, c, A, Q, ε0, nL0⟩ := κ
  obtain ⟨⟨hx, hb, hml, hown, hts⟩, hr, hlk, hA, hG, hR, rfl, rfl⟩ := C
  intro H locs ls hP hD hS hl
  refine va_iast hx hb hG.1 hP hD hS q 1 he rfl hin hd (fun H locs hP hD hS => ?_)
  rw [hset] at hP hD
  exact h H locs ls hP hD hS hl
theorem j_bast (C : CX κ ε own cc nL ret fr lo mc ms) {a N : Nat} {f : Nat → Int32} {i x : Int32} {ω' : va_W} (hd : decode cc pc = .ok (.bastore, 1)) (q : Nat) (he : ω[q]? = some (a, .inl (ε.2.1, N, .inl f))) (hin : vp_in i N) (hset : ω.set q (a, .inl (ε.2.1, N, .inl (upd f i.toNatClampNeg (vp_nar .byte x)))) = ω') (h : JW κ k n ω' (pc + 1) lv st) : JW κ k n ω pc lv (.int x :: .int i :: .ref a :: st) := by
  obtain ⟨p, l, e, R, s, m, args, below, meth, c, A, Q, ε0, nL0⟩ := κ
  obtain ⟨⟨hx, hb, hml, hown, hts⟩, hr, hlk, hA, hG, hR, rfl, rfl⟩ := C
  intro H locs ls hP hD hS hl
  refine va_bast hx hb hG.1 hP hD hS q 0 he rfl hin hd (fun H locs hP hD hS => ?_)
  rw [hset] at hP hD
  exact h H locs ls hP hD hS hl
theorem j_zast (C : CX κ ε own cc nL ret fr lo mc ms) {a N : Nat} {f : Nat → Int32} {i x : Int32} {ω' : va_W} (hd : decode cc pc = .ok (.bastore, 1)) (q : Nat) (he : ω[q]? = some (a, .inl (ε.2.2.2, N, .inl f))) (hin : vp_in i N) (hset : ω.set q (a, .inl (ε.2.2.2, N, .inl (upd f i.toNatClampNeg (vp_nar .boolean x)))) = ω') (h : JW κ k n ω' (pc + 1) lv st) : JW κ k n ω pc lv (.int x :: .int i :: .ref a :: st) := by
  obtain ⟨p, l, e, R, s, m, args, below, meth, c, A, Q, ε0, nL0⟩ := κ
  obtain ⟨⟨hx, hb, hml, hown, hts⟩, hr, hlk, hA, hG, hR, rfl, rfl⟩ := C
  intro H locs ls hP hD hS hl
  refine va_zast hx hb hG.1 hP hD hS q 2 he rfl hin hd (fun H locs hP hD hS => ?_)
  rw [hset] at hP hD
  exact h H locs ls hP hD hS hl
theorem j_alen (C : CX κ ε own cc nL ret fr lo mc ms) {a : Nat} {x : vp_A} {cA : ClassId} {ty : FieldType} {v : Int32} (hd : decode cc pc = .ok (.arraylength, 1)) (q t0 : Nat) (he : ω[q]? = some (a, .inl (cA, x))) (ht : (tyl ε)[t0]? = some (cA, ty)) (hv : Int32.ofNat x.1 = v) (h : JW κ k n ω (pc + 1) lv (.int v :: st)) : JW κ k n ω pc lv (.ref a :: st) := by
  obtain ⟨p, l, e, R, s, m, args, below, meth, c, A, Q, ε0, nL0⟩ := κ
  obtain ⟨⟨hx, hb, hml, hown, hts⟩, hr, hlk, hA, hG, hR, rfl, rfl⟩ := C
  intro H locs ls hP hD hS hl
  exact va_alen hx hb hG.1 hP q t0 he ht hv hd (h H locs ls hP hD hS hl)
theorem j_iret (C : CX κ ε own cc nL ret fr lo mc ms) {x : Int32} {P : Option Value → va_W → Prop} (hQ : RQ κ ε P k n) (hr9 : ret = some .int) (hd : decode cc pc = .ok (.ireturn, 1)) (h : P (some (.int x)) ω) : JW κ k n ω pc lv [.int x] := by
  obtain ⟨p, l, e, R, s, m, args, below, meth, c, A, Q, ε0, nL0⟩ := κ
  obtain ⟨⟨hx, hb, hml, hown, hts⟩, hr, hlk, hA, hG, hR, rfl, rfl⟩ := C
  have hQ : Q = _ := hQ
  subst hQ
  intro H locs ls hP hD hS hl
  exact W.iret hx hb (hr.trans hr9) (fun t ht hW => ⟨⟨_, ω, rfl, h, by rw [ht]; exact hP, hD⟩, hS.F ht⟩) hS.2.2 hd hlk
theorem j_lret (C : CX κ ε own cc nL ret fr lo mc ms) {x : Int64} {P : Option Value → va_W → Prop} (hQ : RQ κ ε P k n) (hr9 : ret = some .long) (hd : decode cc pc = .ok (.lreturn, 1)) (h : P (some (.long x)) ω) : JW κ k n ω pc lv [.long x] := by
  obtain ⟨p, l, e, R, s, m, args, below, meth, c, A, Q, ε0, nL0⟩ := κ
  obtain ⟨⟨hx, hb, hml, hown, hts⟩, hr, hlk, hA, hG, hR, rfl, rfl⟩ := C
  have hQ : Q = _ := hQ
  subst hQ
  intro H locs ls hP hD hS hl
  exact W.lret hx hb (hr.trans hr9) (fun t ht hW => ⟨⟨_, ω, rfl, h, by rw [ht]; exact hP, hD⟩, hS.F ht⟩) hS.2.2 hd hlk
theorem j_vret (C : CX κ ε own cc nL ret fr lo mc ms)  {P : Option Value → va_W → Prop} (hQ : RQ κ ε P k n) (hr9 : ret = none) (hd : decode cc pc = .ok (.return_, 1)) (h : P (none) ω) : JW κ k n ω pc lv [] := by
  obtain ⟨p, l, e, R, s, m, args, below, meth, c, A, Q, ε0, nL0⟩ := κ
  obtain ⟨⟨hx, hb, hml, hown, hts⟩, hr, hlk, hA, hG, hR, rfl, rfl⟩ := C
  have hQ : Q = _ := hQ
  subst hQ
  intro H locs ls hP hD hS hl
  exact W.vret hx hb (hr.trans hr9) (fun t ht hW => ⟨⟨_, ω, rfl, h, by rw [ht]; exact hP, hD⟩, hS.F ht⟩) hS.2.2 hd hlk
theorem j_zret (C : CX κ ε own cc nL ret fr lo mc ms) {x : Int32} {P : Option Value → va_W → Prop} (hQ : RQ κ ε P k n) {ty : FieldType} (hr9 : ret = some ty) (hn9 : narrow ty (.int x) = .int x) (hd : decode cc pc = .ok (.ireturn, 1)) (h : P (some (.int x)) ω) : JW κ k n ω pc lv [.int x] := by
  obtain ⟨p, l, e, R, s, m, args, below, meth, c, A, Q, ε0, nL0⟩ := κ
  obtain ⟨⟨hx, hb, hml, hown, hts⟩, hr, hlk, hA, hG, hR, rfl, rfl⟩ := C
  have hQ : Q = _ := hQ
  subst hQ
  intro H locs ls hP hD hS hl
  exact W.zret hx hb (hr.trans hr9) hn9 (fun t ht hW => ⟨⟨_, ω, rfl, h, by rw [ht]; exact hP, hD⟩, hS.F ht⟩) hS.2.2 hd hlk
theorem j_aret (C : CX κ ε own cc nL ret fr lo mc ms) {a : Nat} {P : Option Value → va_W → Prop} (hQ : RQ κ ε P k n) {C9 : String} (hr9 : ret = some (.object C9)) (hd : decode cc pc = .ok (.areturn, 1)) (h : P (some (.ref a)) ω) : JW κ k n ω pc lv [.ref a] := by
  obtain ⟨p, l, e, R, s, m, args, below, meth, c, A, Q, ε0, nL0⟩ := κ
  obtain ⟨⟨hx, hb, hml, hown, hts⟩, hr, hlk, hA, hG, hR, rfl, rfl⟩ := C
  have hQ : Q = _ := hQ
  subst hQ
  intro H locs ls hP hD hS hl
  exact W.aret hx hb (hr.trans hr9) (Or.inl ⟨_, rfl⟩) (Or.inr ⟨_, rfl⟩) (fun t ht hW => ⟨⟨_, ω, rfl, h, by rw [ht]; exact hP, hD⟩, hS.F ht⟩) hS.2.2 hd hlk
theorem j_widen {k2 n2 : Nat} (h1 : k ≤ k2) (h2 : n ≤ n2) (h : JW κ k2 n2 ω pc lv st) : JW κ k n ω pc lv st := by
  obtain ⟨p, l, e, R, s, m, args, below, meth, c, A, Q, ε0, nL0⟩ := κ
  intro H locs ls hP hD hS hl
  exact W.widen h1 h2 (h H locs ls hP hD hS hl)
theorem j_lv (ks : List Nat) (he : lv_pick lv ks = lv') (h : JW κ k n ω pc lv' st) : JW κ k n ω pc lv st := by
  obtain ⟨p, l, e, R, s, m, args, below, meth, c, A, Q, ε0, nL0⟩ := κ
  intro H locs ls hP hD hS hl
  exact h H locs ls hP hD hS (lv_sub hl ks he)
theorem j_to {ω' : va_W} {lv2 : List (Nat × Value)} {st' : List Value} (h1 : ω = ω') (h2 : lv = lv2) (h3 : st = st') (h : JW κ k n ω' pc lv2 st') : JW κ k n ω pc lv st := by
  subst h1; subst h2; subst h3; exact h
/-- what the tables say of a method that is called: its code, that it may be called so -/
def MV (y : MethodName) (cc : ByteArray) (nL : Nat) (ret : Option FieldType) (Cn : String) (na : Nat) : Prop := Cond.code y cc nL ret ∈ TB ∧ Cond.instanceMethod y ∈ TB ∧ Cond.selects Cn y y ∈ TB ∧ Cond.initialized Cn ∈ TB ∧ y.cls = Cn ∧ y.cls ≠ "java/lang/invoke/MethodHandle" ∧ y.cls ≠ "java/lang/invoke/VarHandle" ∧ (parseMethodDescriptor y.desc).map (fun d => d.parameters.length) = some na
def MS (y : MethodName) (cc : ByteArray) (nL : Nat) (ret : Option FieldType) (na : Nat) : Prop := Cond.code y cc nL ret ∈ TB ∧ Cond.static y ∈ TB ∧ Cond.initialized y.cls ∈ TB ∧ y.cls ≠ "java/lang/invoke/MethodHandle" ∧ y.cls ≠ "java/lang/invoke/VarHandle" ∧ (parseMethodDescriptor y.desc).map (fun d => d.parameters.length) = some na
def MI (y : MethodName) (cc : ByteArray) (nL : Nat) (na : Nat) : Prop := Cond.code y cc nL none ∈ TB ∧ Cond.instanceMethod y ∈ TB ∧ Cond.initialized y.cls ∈ TB ∧ y.name = "<init>" ∧ y.cls ≠ "java/lang/invoke/MethodHandle" ∧ y.cls ≠ "java/lang/invoke/VarHandle" ∧ (parseMethodDescriptor y.desc).map (fun d => d.parameters.length) = some na
theorem good_cons {y : MethodName} {cc : ByteArray} {nL : Nat} {ret : Option FieldType} (h : Cond.code y cc nL ret ∈ TB) : GoodIn TB (.code y cc nL ret :: TB) := fun w hw => (List.mem_cons.mp hw).elim (fun q => by subst q; exact TB_gd _ h) (TB_gd w)
/-- behind a call, whatever it gave back -/
theorem j_back {κ : KT} {ε : ET} {own : String} {cc : ByteArray} {nL : Nat} {ret : Option FieldType} {fr lo mc ms : Nat} {k n : Nat} {ω : va_W} {pc : Nat} {lv : List (Nat × Value)} {st rest : List Value} {P : Option Value → va_W → Prop} {mc1 ms1 : Nat} (C : CX κ ε own cc nL ret fr lo mc ms)
    (hr : match κ with | (p, l, e, R, s, m, args, below, meth, c, A, Q, ε0, nL0) => ∀ (H : Heap) (locs : List Loc) (ls : Array Slot), va_P ε.1 vwCl ω H → va_D A ω → va_S A s.heap H locs → lv_has ls nL lv → ∃ av : Array Value, va_Run p l e R s m args below meth c H locs k n mc1 ms1 (F0 m pc ls st) rest (CQ ε (va_A ω H.size) P av) (va_A ω H.size))
    (h : ∀ (r : Option Value) (ω' : va_W), P r ω' → JW κ (k + mc1) (n + ms1) ω' (pc + 3) lv (r.toList ++ rest)) : JW κ k n ω pc lv st := by
  obtain ⟨p, l, e, R, s, m, args, below, meth, c, A, Q, ε0, nL0⟩ := κ
  obtain ⟨⟨hx, hb, hml, hown, hts⟩, hr, hlk, hA, hG, hR, rfl, rfl⟩ := C
  intro H locs ls hP hD hS hl
  obtain ⟨av, hr⟩ := hr H locs ls hP hD hS hl
  intro T hT X
  obtain ⟨v, st₀, t, T', L, h0, X', hL, e1, e2, ⟨⟨r, ω', hv, hp, hP1, hD1⟩, hz, hk⟩, hst⟩ := hr T hT X
  cases hv
  rw [h0] at hz hk
  have hF : ∀ q, va_A ω H.size q → A q := fun q hq => by
    rcases hq with ⟨i, e9, hi⟩ | hq
    · exact hD.2 i _ hi
    · exact hA q (Nat.le_trans hS.1 hq)
  have hS1 : va_S A s.heap T'.heap (locs ++ L) := ⟨Nat.le_trans hS.1 (by rw [e1]; exact hz), fun q h1 h2 => by rw [e1, hk q (Nat.lt_of_lt_of_le h1 hS.1) (fun z => h2 (hF q z))]; exact hS.2.1 q h1 h2, fun q hq => by
      rcases List.mem_append.mp hq with h | h
      · exact hS.2.2 q h
      · exact hF _ (hL q h)⟩
  obtain ⟨t2, a1, b1⟩ := h _ ω' hp T'.heap (locs ++ L) ls (by rw [e1]; exact hP1) (hD1.weaken (fun _ q _ h => hF q.1 h)) hS1 hl T' rfl X'
  exact ⟨t2, hst t2 a1, b1⟩
theorem j_callV (C : CX κ ε own cc nL ret fr lo mc ms) {y : MethodName} {cc1 : ByteArray} {nL1 : Nat} {ret1 : Option FieldType} {fr1 lo1 mc1 ms1 ix na : Nat} {P : Option Value → va_W → Prop} {As rest : List Value} {Cn : String} {T : u_T} {N ci b : Nat} {fs : List Value} (hM : CT ε y cc1 nL1 ret1 fr1 lo1 mc1 ms1 (.ref b :: As) ω P) (hv : MV y cc1 nL1 ret1 Cn na) (hw : Cond.methodLink own ix y ∈ TB) (hd : decode cc pc = .ok (.invokevirtual ix, 3)) (q : Nat) (he : ω[q]? = some (b, .inr (ci, fs))) (hc : vwCl[ci]? = some (Cn, T, N)) (hn : As.length = na) (hst : st = As.reverse ++ .ref b :: rest) (hroom : fr1 + 1 ≤ fr ∧ 8 + (nL1 + 11) + lo1 ≤ lo ∧ k + mc1 ≤ mc ∧ n + ms1 ≤ ms) (hcat : (rest.map fun v => v.category).sum ≤ 8) (h : ∀ (r : Option Value) (ω' : va_W), P r ω' → JW κ (k + mc1) (n + ms1) ω' (pc + 3) lv (r.toList ++ rest)) : JW κ k n ω pc lv st := by
  refine j_back (P := P) (rest := rest) (mc1 := mc1) (ms1 := ms1) C ?_ h
  obtain ⟨p, l, e, R, s, m, args, below, meth, c, A, Q, ε0, nL0⟩ := κ
  obtain ⟨⟨hx, hb, hml, hown, hts⟩, hr, hlk, hA, hG, hR, rfl, rfl⟩ := C
  intro H locs ls hP hD hS hl
  have hR2 : fr1 + 1 ≤ R.frames ∧ 8 + (nL1 + 11) + lo1 ≤ R.locals := by rw [hR]; exact ⟨hroom.1, hroom.2.1⟩
  obtain ⟨h1, h2, h3, h4, h5⟩ := hv
  have hgd : GoodIn TB (wsV own ix Cn y (.code y cc1 nL1 ret1 :: TB)) := by
    intro w hw9
    unfold wsV at hw9
    rcases List.mem_append.mp hw9 with hw9 | hw9
    · simp only [List.mem_cons, List.not_mem_nil, or_false] at hw9
      rcases hw9 with rfl | rfl | rfl | rfl
      · exact TB_gd _ hw
      · exact TB_gd _ h2
      · exact TB_gd _ h3
      · exact TB_gd _ h4
    · exact good_cons h1 w hw9
  refine ⟨_, va_runV (As := As) (rest := rest) ⟨hx, hb, hml, hown, hts⟩ (hM l H.size) (cwV na hts hgd rfl rfl rfl h5 hR2) ⟨fun a U g mk q => ⟨q.1, q.2.1, q.2.2.1, q.2.2.2.1, q.2.2.2.2.blind⟩, va_recv hG.1 hP hc he, fun U hU hW => ⟨rfl, by rw [hU], by rw [hU]; exact hP, hD.weaken (fun _ _ _ _ => trivial), hG.call hS hU hW (fun q hq => by
      rcases hq with ⟨i, e9, hi⟩ | hq
      · exact hD.2 i _ hi
      · exact hA q (Nat.le_trans hS.1 hq))⟩⟩ rfl hn hl.1 hst (lv_room hcat) hd ⟨by rw [hR]; exact hroom.2.2.1, by rw [hR]; exact hroom.2.2.2⟩⟩
theorem j_callS (C : CX κ ε own cc nL ret fr lo mc ms) {y : MethodName} {cc1 : ByteArray} {nL1 : Nat} {ret1 : Option FieldType} {fr1 lo1 mc1 ms1 ix na : Nat} {P : Option Value → va_W → Prop} {As rest : List Value}  (hM : CT ε y cc1 nL1 ret1 fr1 lo1 mc1 ms1 (As) ω P) (hv : MS y cc1 nL1 ret1 na) (hw : Cond.methodLink own ix y ∈ TB) (hd : decode cc pc = .ok (.invokestatic ix, 3)) (hn : As.length = na) (hst : st = As.reverse ++ rest) (hroom : fr1 + 1 ≤ fr ∧ 8 + (nL1 + 11) + lo1 ≤ lo ∧ k + mc1 ≤ mc ∧ n + ms1 ≤ ms) (hcat : (rest.map fun v => v.category).sum ≤ 8) (h : ∀ (r : Option Value) (ω' : va_W), P r ω' → JW κ (k + mc1) (n + ms1) ω' (pc + 3) lv (r.toList ++ rest)) : JW κ k n ω pc lv st := by
  refine j_back (P := P) (rest := rest) (mc1 := mc1) (ms1 := ms1) C ?_ h
  obtain ⟨p, l, e, R, s, m, args, below, meth, c, A, Q, ε0, nL0⟩ := κ
  obtain ⟨⟨hx, hb, hml, hown, hts⟩, hr, hlk, hA, hG, hR, rfl, rfl⟩ := C
  intro H locs ls hP hD hS hl
  have hR2 : fr1 + 1 ≤ R.frames ∧ 8 + (nL1 + 11) + lo1 ≤ R.locals := by rw [hR]; exact ⟨hroom.1, hroom.2.1⟩
  obtain ⟨h1, h2, h3, h4⟩ := hv
  refine ⟨_, va_runS (As := As) (rest := rest) ⟨hx, hb, hml, hown, hts⟩ (hM l H.size) (⟨callB_of na hts (good_cons h1) rfl rfl rfl (hts _ h3) (hts _ hw) h4 hR2, hts _ h2⟩) ⟨fun a U g mk q => ⟨q.1, q.2.1, q.2.2.1, q.2.2.2.1, q.2.2.2.2.blind⟩, fun U hU hW => ⟨rfl, by rw [hU], by rw [hU]; exact hP, hD.weaken (fun _ _ _ _ => trivial), hG.call hS hU hW (fun q hq => by
      rcases hq with ⟨i, e9, hi⟩ | hq
      · exact hD.2 i _ hi
      · exact hA q (Nat.le_trans hS.1 hq))⟩⟩ rfl hn hl.1 hst (lv_room hcat) hd ⟨by rw [hR]; exact hroom.2.2.1, by rw [hR]; exact hroom.2.2.2⟩⟩
theorem j_callSN (C : CX κ ε own cc nL ret fr lo mc ms) {y : MethodName} {cc1 : ByteArray} {nL1 : Nat} {ret1 : Option FieldType} {fr1 lo1 mc1 ms1 ix na : Nat} {P : Option Value → va_W → Prop} {As rest : List Value} {host : String} (hM : CT ε y cc1 nL1 ret1 fr1 lo1 mc1 ms1 (As) ω P) (hv : MS y cc1 nL1 ret1 na) (hw : Cond.methodLinkNest own ix y host ∈ nestW) (hd : decode cc pc = .ok (.invokestatic ix, 3)) (hn : As.length = na) (hst : st = As.reverse ++ rest) (hroom : fr1 + 1 ≤ fr ∧ 8 + (nL1 + 11) + lo1 ≤ lo ∧ k + mc1 ≤ mc ∧ n + ms1 ≤ ms) (hcat : (rest.map fun v => v.category).sum ≤ 8) (h : ∀ (r : Option Value) (ω' : va_W), P r ω' → JW κ (k + mc1) (n + ms1) ω' (pc + 3) lv (r.toList ++ rest)) : JW κ k n ω pc lv st := by
  refine j_back (P := P) (rest := rest) (mc1 := mc1) (ms1 := ms1) C ?_ h
  obtain ⟨p, l, e, R, s, m, args, below, meth, c, A, Q, ε0, nL0⟩ := κ
  obtain ⟨⟨hx, hb, hml, hown, hts⟩, hr, hlk, hA, hG, hR, rfl, rfl⟩ := C
  intro H locs ls hP hD hS hl
  have hR2 : fr1 + 1 ≤ R.frames ∧ 8 + (nL1 + 11) + lo1 ≤ R.locals := by rw [hR]; exact ⟨hroom.1, hroom.2.1⟩
  obtain ⟨h1, h2, h3, h4⟩ := hv
  refine ⟨_, va_runSN (As := As) (rest := rest) ⟨hx, hb, hml, hown, hts⟩ (hM l H.size) (⟨va_cnB na hts (good_cons h1) rfl rfl rfl (hG.2.1 _ hw) (hts _ h3) h4 hR2, hts _ h2, trivial⟩) ⟨fun a U g mk q => ⟨q.1, q.2.1, q.2.2.1, q.2.2.2.1, q.2.2.2.2.blind⟩, fun U hU hW => ⟨rfl, by rw [hU], by rw [hU]; exact hP, hD.weaken (fun _ _ _ _ => trivial), hG.call hS hU hW (fun q hq => by
      rcases hq with ⟨i, e9, hi⟩ | hq
      · exact hD.2 i _ hi
      · exact hA q (Nat.le_trans hS.1 hq))⟩⟩ rfl hn hl.1 hst (lv_room hcat) hd ⟨by rw [hR]; exact hroom.2.2.1, by rw [hR]; exact hroom.2.2.2⟩⟩
theorem j_callI (C : CX κ ε own cc nL ret fr lo mc ms) {y : MethodName} {cc1 : ByteArray} {nL1 : Nat} {ret1 : Option FieldType} {fr1 lo1 mc1 ms1 ix na : Nat} {P : Option Value → va_W → Prop} {As rest : List Value} {b : Nat} (hM : CT ε y cc1 nL1 ret1 fr1 lo1 mc1 ms1 (.ref b :: As) ω P) (hv : MI y cc1 nL1 na) (hrt : ret1 = none) (hw : Cond.methodLink own ix y ∈ TB) (hd : decode cc pc = .ok (.invokespecial ix, 3)) (hn : As.length = na) (hst : st = As.reverse ++ .ref b :: rest) (hroom : fr1 + 1 ≤ fr ∧ 8 + (nL1 + 11) + lo1 ≤ lo ∧ k + mc1 ≤ mc ∧ n + ms1 ≤ ms) (hcat : (rest.map fun v => v.category).sum ≤ 8) (h : ∀ (r : Option Value) (ω' : va_W), P r ω' → JW κ (k + mc1) (n + ms1) ω' (pc + 3) lv (r.toList ++ rest)) : JW κ k n ω pc lv st := by
  refine j_back (P := P) (rest := rest) (mc1 := mc1) (ms1 := ms1) C ?_ h
  obtain ⟨p, l, e, R, s, m, args, below, meth, c, A, Q, ε0, nL0⟩ := κ
  obtain ⟨⟨hx, hb, hml, hown, hts⟩, hr, hlk, hA, hG, hR, rfl, rfl⟩ := C
  intro H locs ls hP hD hS hl
  have hR2 : fr1 + 1 ≤ R.frames ∧ 8 + (nL1 + 11) + lo1 ≤ R.locals := by rw [hR]; exact ⟨hroom.1, hroom.2.1⟩
  subst hrt
  obtain ⟨h1, h2, h3, h4, h5⟩ := hv
  refine ⟨_, va_runI (As := As) (rest := rest) ⟨hx, hb, hml, hown, hts⟩ (hM l H.size) (cwI na hts (good_cons h1) rfl rfl rfl (hts _ h3) (hts _ hw) (hts _ h2) h4 h5 hR2) ⟨fun a U g mk q => ⟨q.1, q.2.1, q.2.2.1, q.2.2.2.1, q.2.2.2.2.blind⟩, fun U hU hW => ⟨rfl, by rw [hU], by rw [hU]; exact hP, hD.weaken (fun _ _ _ _ => trivial), hG.call hS hU hW (fun q hq => by
      rcases hq with ⟨i, e9, hi⟩ | hq
      · exact hD.2 i _ hi
      · exact hA q (Nat.le_trans hS.1 hq))⟩⟩ rfl hn hl.1 hst (lv_room hcat) hd ⟨by rw [hR]; exact hroom.2.2.1, by rw [hR]; exact hroom.2.2.2⟩⟩
theorem j_objInit (C : CX κ ε own cc nL ret fr lo mc ms) {ix a : Nat} (hw : Cond.methodLink own ix objectInit ∈ TB) (hd : decode cc pc = .ok (.invokespecial ix, 3)) (hroom : 1 ≤ fr ∧ (st.map fun v => v.category).sum + 12 ≤ lo) (h : JW κ k n ω (pc + 3) lv st) : JW κ k n ω pc lv (.ref a :: st) := by
  obtain ⟨p, l, e, R, s, m, args, below, meth, c, A, Q, ε0, nL0⟩ := κ
  obtain ⟨⟨hx, hb, hml, hown, hts⟩, hr, hlk, hA, hG, hR, rfl, rfl⟩ := C
  intro H locs ls hP hD hS hl
  refine W.objInit (rest := st) hx hb hown (hts _ hw) (hts _ wi_objectInit) (hts _ wc_objectInit) rfl (by rw [hml]; exact hl.1) rfl hd (by rw [hR]; exact hroom.1) (by rw [hR]; have := hroom.2; show 2 * 0 + _ + 12 ≤ lo; omega) ?_
  exact W.eq (g2 := F0 m (pc + 3) ls st) rfl (h H locs ls hP hD hS hl)
theorem j_new (C : CX κ ε own cc nL ret fr lo mc ms) {Cn : String} {T : u_T} {N ci ix : Nat} {fs : List Value} (hd : decode cc pc = .ok (.new ix, 3)) (hin : ∀ w ∈ u_ws Cn T N, w ∈ TB) (ty : Nat → FieldType) (hty : ∀ k, k < N → parseFieldDescriptor (T k).2.2.1 = some (ty k)) (hw : Cond.classLink own ix Cn ∈ TB) (hi : Cond.instantiable Cn N ∈ TB) (hz : Cond.initialized Cn ∈ TB) (hc : vwCl[ci]? = some (Cn, T, N)) (hfs : ∀ j, j < N → defaultValue (ty j) = vp_V fs j) (hroom : k + 1 ≤ mc ∧ n + N ≤ ms) (h : ∀ q : Nat, JW κ (k + 1) (n + N) (ω ++ [(q, .inr (ci, fs))]) (pc + 3) lv (.ref q :: st)) : JW κ k n ω pc lv st := by
  obtain ⟨p, l, e, R, s, m, args, below, meth, c, A, Q, ε0, nL0⟩ := κ
  obtain ⟨⟨hx, hb, hml, hown, hts⟩, hr, hlk, hA, hG, hR, rfl, rfl⟩ := C
  intro H locs ls hP hD hS hl
  exact va_new hx hb hts hin ty hty hown (hts _ hw) (hts _ hi) (hts _ hz) hG.1 hP hD hS hA hc hfs (by rw [hR]; exact hroom.1) (by rw [hR]; exact hroom.2) hd (fun q H hP hD hS => h q H locs ls hP hD hS hl)
theorem arr_unique {U : State} {cA cA' : ClassId} {ty : FieldType} (h : va_RA U cA ty) (h' : va_RA U cA' ty) : cA = cA' := by
  cases ty <;> simp only [va_RA] at h h' <;> first | exact Option.some.inj (h.symm.trans h') | (obtain ⟨_, _, _, _, _, h4⟩ := h; obtain ⟨_, _, _, _, _, h5⟩ := h'; exact Option.some.inj (h4.symm.trans h5))
theorem j_newI (C : CX κ ε own cc nL ret fr lo mc ms) {N : Nat} {x : Int32} (hd : decode cc pc = .ok (.newarray .int, 2)) (hn0 : ¬ x < 0) (hN : x.toNatClampNeg = N) (hN9 : N ≤ 65536) (hroom : k + 1 ≤ mc ∧ n + N ≤ ms) (h : ∀ q : Nat, JW κ (k + 1) (n + N) (ω ++ [(q, .inl (ε.2.2.1, N, .inl (fun _ => 0)))]) (pc + 2) lv (.ref q :: st)) : JW κ k n ω pc lv (.int x :: st) := by
  obtain ⟨p, l, e, R, s, m, args, below, meth, c, A, Q, ε0, nL0⟩ := κ
  obtain ⟨⟨hx, hb, hml, hown, hts⟩, hr, hlk, hA, hG, hR, rfl, rfl⟩ := C
  intro H locs ls hP hD hS hl
  refine va_newa (a0 := (N, .inl (fun _ => 0))) hx hb (atype := .int) (hts _ wa_int) rfl hG.1 hP hD hS hA (fun cA => by rw [vp_cell_i]; rfl) hn0 hN (by show N * 4 ≤ 536870912; omega) (by rw [hR]; exact hroom.1) (by rw [hR]; exact hroom.2) hd (fun q cA H hK hP hD hS => ?_)
  have h1 := (hK.2 3 _ rfl).2
  have h2 := (hG.1.2 1 _ rfl).2
  have h3 := arr_unique h1 h2
  subst h3
  exact h q H locs ls hP hD hS hl
theorem j_newB (C : CX κ ε own cc nL ret fr lo mc ms) {N : Nat} {x : Int32} (hd : decode cc pc = .ok (.newarray .byte, 2)) (hn0 : ¬ x < 0) (hN : x.toNatClampNeg = N) (hN9 : N ≤ 65536) (hroom : k + 1 ≤ mc ∧ n + N ≤ ms) (h : ∀ q : Nat, JW κ (k + 1) (n + N) (ω ++ [(q, .inl (ε.2.1, N, .inl (fun _ => 0)))]) (pc + 2) lv (.ref q :: st)) : JW κ k n ω pc lv (.int x :: st) := by
  obtain ⟨p, l, e, R, s, m, args, below, meth, c, A, Q, ε0, nL0⟩ := κ
  obtain ⟨⟨hx, hb, hml, hown, hts⟩, hr, hlk, hA, hG, hR, rfl, rfl⟩ := C
  intro H locs ls hP hD hS hl
  refine va_newa (a0 := (N, .inl (fun _ => 0))) hx hb (atype := .byte) (hts _ wa_byte) rfl hG.1 hP hD hS hA (fun cA => by rw [vp_cell_i]; rfl) hn0 hN (by show N * 1 ≤ 536870912; omega) (by rw [hR]; exact hroom.1) (by rw [hR]; exact hroom.2) hd (fun q cA H hK hP hD hS => ?_)
  have h1 := (hK.2 3 _ rfl).2
  have h2 := (hG.1.2 0 _ rfl).2
  have h3 := arr_unique h1 h2
  subst h3
  exact h q H locs ls hP hD hS hl
theorem j_newZ (C : CX κ ε own cc nL ret fr lo mc ms) {N : Nat} {x : Int32} (hd : decode cc pc = .ok (.newarray .boolean, 2)) (hn0 : ¬ x < 0) (hN : x.toNatClampNeg = N) (hN9 : N ≤ 65536) (hroom : k + 1 ≤ mc ∧ n + N ≤ ms) (h : ∀ q : Nat, JW κ (k + 1) (n + N) (ω ++ [(q, .inl (ε.2.2.2, N, .inl (fun _ => 0)))]) (pc + 2) lv (.ref q :: st)) : JW κ k n ω pc lv (.int x :: st) := by
  obtain ⟨p, l, e, R, s, m, args, below, meth, c, A, Q, ε0, nL0⟩ := κ
  obtain ⟨⟨hx, hb, hml, hown, hts⟩, hr, hlk, hA, hG, hR, rfl, rfl⟩ := C
  intro H locs ls hP hD hS hl
  refine va_newa (a0 := (N, .inl (fun _ => 0))) hx hb (atype := .boolean) (hts _ wa_boolean) rfl hG.1 hP hD hS hA (fun cA => by rw [vp_cell_i]; rfl) hn0 hN (by show N * 1 ≤ 536870912; omega) (by rw [hR]; exact hroom.1) (by rw [hR]; exact hroom.2) hd (fun q cA H hK hP hD hS => ?_)
  have h1 := (hK.2 3 _ rfl).2
  have h2 := (hG.1.2 2 _ rfl).2
  have h3 := arr_unique h1 h2
  subst h3
  exact h q H locs ls hP hD hS hl
theorem j_ldcw (C : CX κ ε own cc nL ret fr lo mc ms) {ix : Nat} {v : Int32} (hd : decode cc pc = .ok (.ldc_w ix, 3)) (hw : Cond.constant own ix v ∈ TB) (h : JW κ k n ω (pc + 3) lv (.int v :: st)) : JW κ k n ω pc lv (st) := by
  obtain ⟨p, l, e, R, s, m, args, below, meth, c, A, Q, ε0, nL0⟩ := κ
  obtain ⟨⟨hx, hb, hml, hown, hts⟩, hr, hlk, hA, hG, hR, rfl, rfl⟩ := C
  intro H locs ls hP hD hS hl
  exact lv_ldcw hx hb hown (hts _ hw) hd (h H locs ls hP hD hS hl)
theorem j_tswIn (C : CX κ ε own cc nL ret fr lo mc ms) {x kv : Int32} {df a9 b9 off : Int} {offs : Array Int} {len tgt : Nat} (hd : decode cc pc = .ok (.tableswitch df a9 b9 offs, len)) (hx9 : x = kv) (h1 : ¬ kv.toInt < a9) (h2 : ¬ b9 < kv.toInt) (ho : offs[(kv.toInt - a9).toNat]? = some off) (ht : (pc : Int) + off = (tgt : Int)) (h : JW κ k n ω tgt lv st) : JW κ k n ω pc lv (.int x :: st) := by
  subst hx9
  obtain ⟨p, l, e, R, s, m, args, below, meth, c, A, Q, ε0, nL0⟩ := κ
  obtain ⟨⟨hx, hb, hml, hown, hts⟩, hr, hlk, hA, hG, hR, rfl, rfl⟩ := C
  intro H locs ls hP hD hS hl
  exact lv_tableIn hx hb hd h1 h2 ho ht (h H locs ls hP hD hS hl)
theorem j_tswOut (C : CX κ ε own cc nL ret fr lo mc ms) {x : Int32} {df a9 b9 : Int} {offs : Array Int} {len tgt : Nat} (hd : decode cc pc = .ok (.tableswitch df a9 b9 offs, len)) (h1 : x.toInt < a9 ∨ b9 < x.toInt) (ht : (pc : Int) + df = (tgt : Int)) (h : JW κ k n ω tgt lv st) : JW κ k n ω pc lv (.int x :: st) := by
  obtain ⟨p, l, e, R, s, m, args, below, meth, c, A, Q, ε0, nL0⟩ := κ
  obtain ⟨⟨hx, hb, hml, hown, hts⟩, hr, hlk, hA, hG, hR, rfl, rfl⟩ := C
  intro H locs ls hP hD hS hl
  exact lv_tableOut hx hb hd h1 ht (h H locs ls hP hD hS hl)
theorem j_lsw (C : CX κ ε own cc nL ret fr lo mc ms) {x : Int32} {df off : Int} {ps : Array (Int × Int)} {len tgt : Nat} (hd : decode cc pc = .ok (.lookupswitch df ps, len)) (hp : (ps.toList.zip (ps.toList.drop 1)).all (fun (a, next) => a.1 < next.1) = true) (ho : Op.lookupswitch.offset ps.toList df x.toInt = off) (ht : (pc : Int) + off = (tgt : Int)) (h : JW κ k n ω tgt lv st) : JW κ k n ω pc lv (.int x :: st) := by
  obtain ⟨p, l, e, R, s, m, args, below, meth, c, A, Q, ε0, nL0⟩ := κ
  obtain ⟨⟨hx, hb, hml, hown, hts⟩, hr, hlk, hA, hG, hR, rfl, rfl⟩ := C
  intro H locs ls hP hD hS hl
  exact lv_lookup hx hb hd hp ho ht (h H locs ls hP hD hS hl)
theorem tsw_out {x : Int32} {hi : Nat} (hhi : hi < 2 ^ 31) (h : ∀ j : Nat, j ≤ hi → ¬ x = nI j) : x.toInt < 0 ∨ (hi : Int) < x.toInt := by
  rcases Int.lt_or_le x.toInt 0 with q | q
  · exact Or.inl q
  · right
    rcases Int.lt_or_le (hi : Int) x.toInt with r | r
    · exact r
    · exact absurd (Int32.toInt_inj.mp (by rw [nI_toInt (by omega)]; omega)) (h x.toInt.toNat (by omega))
theorem wc_min : Cond.code Lib.Math.min.name Lib.Math.min.code 2 (some .int) ∈ TB := tb_3 13 rfl rfl
theorem j_min (C : CX κ ε own cc nL ret fr lo mc ms) {ix : Nat} {x y : Int32} (hd : decode cc pc = .ok (.invokestatic ix, 3)) (hw : Cond.methodLink own ix yJ9_min_7cf53 ∈ TB) (hroom : 1 ≤ fr ∧ (st.map fun v => v.category).sum + 13 ≤ lo ∧ k ≤ mc ∧ n ≤ ms) (h : JW κ k n ω (pc + 3) lv (.int (if y < x then y else x) :: st)) : JW κ k n ω pc lv (.int y :: .int x :: st) := by
  obtain ⟨p, l, e, R, s, m, args, below, meth, c, A, Q, ε0, nL0⟩ := κ
  obtain ⟨⟨hx, hb, hml, hown, hts⟩, hr, hlk, hA, hG, hR, rfl, rfl⟩ := C
  intro H locs ls hP hD hS hl
  exact va_mmin hx hb (by rw [hml]; exact hl.1.symm) hown (hts _ hw) (hts _ wt_J9_min_7cf53) (hts _ wz_J9) (hts _ wc_min) (by rw [hR]; exact hroom.1) (by rw [hR]; exact hroom.2.1) (by rw [hR]; exact hroom.2.2.1) (by rw [hR]; exact hroom.2.2.2) hd (h H locs ls hP hD hS hl)
end ROWS
theorem mi_X0_init : MI yX0_init cX0_init 2 1 := ⟨wc_X0_init, wi_X0_init, wz_X0, rfl, by decide, by decide, by decide +kernel⟩
theorem mv_X0_forget : MV yX0_forget cX0_forget 1 none RX0 0 := ⟨wc_X0_forget, wi_X0_forget, wv_X0_forget, wz_X0, rfl, by decide, by decide, by decide +kernel⟩
theorem mv_X0_gather : MV yX0_gather cX0_gather 10 (some .boolean) RX0 2 := ⟨wc_X0_gather, wi_X0_gather, wv_X0_gather, wz_X0, rfl, by decide, by decide, by decide +kernel⟩
theorem mv_X0_isTable : MV yX0_isTable cX0_isTable 5 (some .boolean) RX0 2 := ⟨wc_X0_isTable, wi_X0_isTable, wv_X0_isTable, wz_X0, rfl, by decide, by decide, by decide +kernel⟩
theorem mv_X0_addPart : MV yX0_addPart cX0_addPart 7 (some .boolean) RX0 2 := ⟨wc_X0_addPart, wi_X0_addPart, wv_X0_addPart, wz_X0, rfl, by decide, by decide, by decide +kernel⟩
theorem mv_X0_toReads : MV yX0_toReads cX0_toReads 1 none RX0 0 := ⟨wc_X0_toReads, wi_X0_toReads, wv_X0_toReads, wz_X0, rfl, by decide, by decide, by decide +kernel⟩
theorem mv_X0_toWrites : MV yX0_toWrites cX0_toWrites 1 none RX0 0 := ⟨wc_X0_toWrites, wi_X0_toWrites, wv_X0_toWrites, wz_X0, rfl, by decide, by decide, by decide +kernel⟩
theorem mv_X0_nextByte : MV yX0_nextByte cX0_nextByte 1 (some .int) RX0 0 := ⟨wc_X0_nextByte, wi_X0_nextByte, wv_X0_nextByte, wz_X0, rfl, by decide, by decide, by decide +kernel⟩
theorem mv_X0_nextNumber : MV yX0_nextNumber cX0_nextNumber 5 (some .long) RX0 1 := ⟨wc_X0_nextNumber, wi_X0_nextNumber, wv_X0_nextNumber, wz_X0, rfl, by decide, by decide, by decide +kernel⟩
theorem mv_X0_skip : MV yX0_skip cX0_skip 3 none RX0 1 := ⟨wc_X0_skip, wi_X0_skip, wv_X0_skip, wz_X0, rfl, by decide, by decide, by decide +kernel⟩
theorem mv_X0_putByte : MV yX0_putByte cX0_putByte 2 none RX0 1 := ⟨wc_X0_putByte, wi_X0_putByte, wv_X0_putByte, wz_X0, rfl, by decide, by decide, by decide +kernel⟩
theorem mv_X0_putLast : MV yX0_putLast cX0_putLast 2 none RX0 1 := ⟨wc_X0_putLast, wi_X0_putLast, wv_X0_putLast, wz_X0, rfl, by decide, by decide, by decide +kernel⟩
theorem mv_X0_nextPlace : MV yX0_nextPlace cX0_nextPlace 1 (some .int) RX0 0 := ⟨wc_X0_nextPlace, wi_X0_nextPlace, wv_X0_nextPlace, wz_X0, rfl, by decide, by decide, by decide +kernel⟩
theorem mi_X1_init : MI yX1_init cX1_init 2 1 := ⟨wc_X1_init, wi_X1_init, wz_X1, rfl, by decide, by decide, by decide +kernel⟩
theorem mv_X1_ringOf : MV yX1_ringOf cX1_ringOf 2 (some (.object "RingDevices$Ring")) RX1 1 := ⟨wc_X1_ringOf, wi_X1_ringOf, wv_X1_ringOf, wz_X1, rfl, by decide, by decide, by decide +kernel⟩
theorem mv_X1_switchOff : MV yX1_switchOff cX1_switchOff 2 none RX1 1 := ⟨wc_X1_switchOff, wi_X1_switchOff, wv_X1_switchOff, wz_X1, rfl, by decide, by decide, by decide +kernel⟩
theorem mv_X1_doChain : MV yX1_doChain cX1_doChain 5 (some .int) RX1 1 := ⟨wc_X1_doChain, wi_X1_doChain, wv_X1_doChain, wz_X1, rfl, by decide, by decide, by decide +kernel⟩
theorem mv_X1_frameComes : MV yX1_frameComes cX1_frameComes 5 (some .int) RX1 2 := ⟨wc_X1_frameComes, wi_X1_frameComes, wv_X1_frameComes, wz_X1, rfl, by decide, by decide, by decide +kernel⟩
theorem mv_X1_deliver : MV yX1_deliver cX1_deliver 6 (some .boolean) RX1 2 := ⟨wc_X1_deliver, wi_X1_deliver, wv_X1_deliver, wz_X1, rfl, by decide, by decide, by decide +kernel⟩
theorem mv_X1_takeFrom : MV yX1_takeFrom cX1_takeFrom 3 (some .int) RX1 1 := ⟨wc_X1_takeFrom, wi_X1_takeFrom, wv_X1_takeFrom, wz_X1, rfl, by decide, by decide, by decide +kernel⟩
theorem mi_X2_init : MI yX2_init cX2_init 1 0 := ⟨wc_X2_init, wi_X2_init, wz_X2, rfl, by decide, by decide, by decide +kernel⟩
theorem mv_X2_at : MV yX2_at cX2_at 2 (some .int) RX2 1 := ⟨wc_X2_at, wi_X2_at, wv_X2_at, wz_X2, rfl, by decide, by decide, by decide +kernel⟩
theorem mv_X2_set : MV yX2_set cX2_set 3 none RX2 2 := ⟨wc_X2_set, wi_X2_set, wv_X2_set, wz_X2, rfl, by decide, by decide, by decide +kernel⟩
theorem mv_X2_answer : MV yX2_answer cX2_answer 7 (some .int) RX2 1 := ⟨wc_X2_answer, wi_X2_answer, wv_X2_answer, wz_X2, rfl, by decide, by decide, by decide +kernel⟩
theorem mv_X2_resultOf : MV yX2_resultOf cX2_resultOf 5 (some .int) RX2 3 := ⟨wc_X2_resultOf, wi_X2_resultOf, wv_X2_resultOf, wz_X2, rfl, by decide, by decide, by decide +kernel⟩
theorem mv_X2_areThere : MV yX2_areThere cX2_areThere 4 (some .boolean) RX2 2 := ⟨wc_X2_areThere, wi_X2_areThere, wv_X2_areThere, wz_X2, rfl, by decide, by decide, by decide +kernel⟩
theorem mv_X2_carryOut : MV yX2_carryOut cX2_carryOut 4 (some .int) RX2 3 := ⟨wc_X2_carryOut, wi_X2_carryOut, wv_X2_carryOut, wz_X2, rfl, by decide, by decide, by decide +kernel⟩
theorem mv_X2_copyOut : MV yX2_copyOut cX2_copyOut 5 (some .int) RX2 2 := ⟨wc_X2_copyOut, wi_X2_copyOut, wv_X2_copyOut, wz_X2, rfl, by decide, by decide, by decide +kernel⟩
theorem mv_X2_copyIn : MV yX2_copyIn cX2_copyIn 5 (some .int) RX2 2 := ⟨wc_X2_copyIn, wi_X2_copyIn, wv_X2_copyIn, wz_X2, rfl, by decide, by decide, by decide +kernel⟩
theorem mv_X2_tellName : MV yX2_tellName cX2_tellName 4 (some .int) RX2 1 := ⟨wc_X2_tellName, wi_X2_tellName, wv_X2_tellName, wz_X2, rfl, by decide, by decide, by decide +kernel⟩
theorem mi_X3_init : MI yX3_init cX3_init 2 1 := ⟨wc_X3_init, wi_X3_init, wz_X3, rfl, by decide, by decide, by decide +kernel⟩
theorem mv_X3_begin : MV yX3_begin cX3_begin 2 none RX3 1 := ⟨wc_X3_begin, wi_X3_begin, wv_X3_begin, wz_X3, rfl, by decide, by decide, by decide +kernel⟩
theorem mv_X3_stop : MV yX3_stop cX3_stop 1 none RX3 0 := ⟨wc_X3_stop, wi_X3_stop, wv_X3_stop, wz_X3, rfl, by decide, by decide, by decide +kernel⟩
theorem mv_X3_loansOf : MV yX3_loansOf cX3_loansOf 2 (some (.object "RingDevices$Loans")) RX3 1 := ⟨wc_X3_loansOf, wi_X3_loansOf, wv_X3_loansOf, wz_X3, rfl, by decide, by decide, by decide +kernel⟩
theorem mv_X3_refusal : MV yX3_refusal cX3_refusal 3 (some .int) RX3 2 := ⟨wc_X3_refusal, wi_X3_refusal, wv_X3_refusal, wz_X3, rfl, by decide, by decide, by decide +kernel⟩
theorem mv_X3_ask : MV yX3_ask cX3_ask 10 (some .int) RX3 3 := ⟨wc_X3_ask, wi_X3_ask, wv_X3_ask, wz_X3, rfl, by decide, by decide, by decide +kernel⟩
theorem mv_X3_layRequest : MV yX3_layRequest cX3_layRequest 8 none RX3 6 := ⟨wc_X3_layRequest, wi_X3_layRequest, wv_X3_layRequest, wz_X3, rfl, by decide, by decide, by decide +kernel⟩
theorem mv_X3_fillRequest : MV yX3_fillRequest cX3_fillRequest 6 none RX3 4 := ⟨wc_X3_fillRequest, wi_X3_fillRequest, wv_X3_fillRequest, wz_X3, rfl, by decide, by decide, by decide +kernel⟩
theorem mv_X3_fillPattern : MV yX3_fillPattern cX3_fillPattern 6 none RX3 3 := ⟨wc_X3_fillPattern, wi_X3_fillPattern, wv_X3_fillPattern, wz_X3, rfl, by decide, by decide, by decide +kernel⟩
theorem mv_X3_letGo : MV yX3_letGo cX3_letGo 8 (some .int) RX3 2 := ⟨wc_X3_letGo, wi_X3_letGo, wv_X3_letGo, wz_X3, rfl, by decide, by decide, by decide +kernel⟩
theorem mv_X3_lendBuffer : MV yX3_lendBuffer cX3_lendBuffer 4 (some .int) RX3 0 := ⟨wc_X3_lendBuffer, wi_X3_lendBuffer, wv_X3_lendBuffer, wz_X3, rfl, by decide, by decide, by decide +kernel⟩
theorem mv_X3_descriptorAt : MV yX3_descriptorAt cX3_descriptorAt 3 (some .int) RX3 2 := ⟨wc_X3_descriptorAt, wi_X3_descriptorAt, wv_X3_descriptorAt, wz_X3, rfl, by decide, by decide, by decide +kernel⟩
theorem mv_X3_offer : MV yX3_offer cX3_offer 6 none RX3 2 := ⟨wc_X3_offer, wi_X3_offer, wv_X3_offer, wz_X3, rfl, by decide, by decide, by decide +kernel⟩
theorem mv_X3_collectOne : MV yX3_collectOne cX3_collectOne 7 (some .int) RX3 1 := ⟨wc_X3_collectOne, wi_X3_collectOne, wv_X3_collectOne, wz_X3, rfl, by decide, by decide, by decide +kernel⟩
theorem mi_X4_init : MI yX4_init cX4_init 1 0 := ⟨wc_X4_init, wi_X4_init, wz_X4, rfl, by decide, by decide, by decide +kernel⟩
theorem mv_X4_begin : MV yX4_begin cX4_begin 1 none RX4 0 := ⟨wc_X4_begin, wi_X4_begin, wv_X4_begin, wz_X4, rfl, by decide, by decide, by decide +kernel⟩
theorem mv_X4_forget : MV yX4_forget cX4_forget 1 none RX4 0 := ⟨wc_X4_forget, wi_X4_forget, wv_X4_forget, wz_X4, rfl, by decide, by decide, by decide +kernel⟩
theorem mv_X4_freeOnes : MV yX4_freeOnes cX4_freeOnes 1 (some .int) RX4 0 := ⟨wc_X4_freeOnes, wi_X4_freeOnes, wv_X4_freeOnes, wz_X4, rfl, by decide, by decide, by decide +kernel⟩
theorem mv_X4_lendFirst : MV yX4_lendFirst cX4_lendFirst 2 (some .int) RX4 0 := ⟨wc_X4_lendFirst, wi_X4_lendFirst, wv_X4_lendFirst, wz_X4, rfl, by decide, by decide, by decide +kernel⟩
theorem mv_X4_lendNext : MV yX4_lendNext cX4_lendNext 3 (some .int) RX4 1 := ⟨wc_X4_lendNext, wi_X4_lendNext, wv_X4_lendNext, wz_X4, rfl, by decide, by decide, by decide +kernel⟩
theorem mv_X4_leastFree : MV yX4_leastFree cX4_leastFree 2 (some .int) RX4 0 := ⟨wc_X4_leastFree, wi_X4_leastFree, wv_X4_leastFree, wz_X4, rfl, by decide, by decide, by decide +kernel⟩
theorem mv_X4_lend : MV yX4_lend cX4_lend 3 none RX4 2 := ⟨wc_X4_lend, wi_X4_lend, wv_X4_lend, wz_X4, rfl, by decide, by decide, by decide +kernel⟩
theorem mv_X4_takeBack : MV yX4_takeBack cX4_takeBack 3 (some .boolean) RX4 1 := ⟨wc_X4_takeBack, wi_X4_takeBack, wv_X4_takeBack, wz_X4, rfl, by decide, by decide, by decide +kernel⟩
theorem mi_X5_init : MI yX5_init cX5_init 1 0 := ⟨wc_X5_init, wi_X5_init, wz_X5, rfl, by decide, by decide, by decide +kernel⟩
theorem mv_X5_clear : MV yX5_clear cX5_clear 1 none RX5 0 := ⟨wc_X5_clear, wi_X5_clear, wv_X5_clear, wz_X5, rfl, by decide, by decide, by decide +kernel⟩
theorem mv_X5_at : MV yX5_at cX5_at 2 (some .int) RX5 1 := ⟨wc_X5_at, wi_X5_at, wv_X5_at, wz_X5, rfl, by decide, by decide, by decide +kernel⟩
theorem mv_X5_set : MV yX5_set cX5_set 3 none RX5 2 := ⟨wc_X5_set, wi_X5_set, wv_X5_set, wz_X5, rfl, by decide, by decide, by decide +kernel⟩
theorem mv_X5_number : MV yX5_number cX5_number 6 (some .long) RX5 2 := ⟨wc_X5_number, wi_X5_number, wv_X5_number, wz_X5, rfl, by decide, by decide, by decide +kernel⟩
theorem mv_X5_setNumber : MV yX5_setNumber cX5_setNumber 6 none RX5 3 := ⟨wc_X5_setNumber, wi_X5_setNumber, wv_X5_setNumber, wz_X5, rfl, by decide, by decide, by decide +kernel⟩
theorem mv_X5_two : MV yX5_two cX5_two 2 (some .int) RX5 1 := ⟨wc_X5_two, wi_X5_two, wv_X5_two, wz_X5, rfl, by decide, by decide, by decide +kernel⟩
theorem mv_X5_setDescriptor : MV yX5_setDescriptor cX5_setDescriptor 6 none RX5 5 := ⟨wc_X5_setDescriptor, wi_X5_setDescriptor, wv_X5_setDescriptor, wz_X5, rfl, by decide, by decide, by decide +kernel⟩
theorem mi_X6_init : MI yX6_init cX6_init 2 1 := ⟨wc_X6_init, wi_X6_init, wz_X6, rfl, by decide, by decide, by decide +kernel⟩
theorem mv_X6_forget : MV yX6_forget cX6_forget 1 none RX6 0 := ⟨wc_X6_forget, wi_X6_forget, wv_X6_forget, wz_X6, rfl, by decide, by decide, by decide +kernel⟩
theorem mv_X6_lay : MV yX6_lay cX6_lay 5 none RX6 4 := ⟨wc_X6_lay, wi_X6_lay, wv_X6_lay, wz_X6, rfl, by decide, by decide, by decide +kernel⟩
theorem mv_X6_waiting : MV yX6_waiting cX6_waiting 1 (some .int) RX6 0 := ⟨wc_X6_waiting, wi_X6_waiting, wv_X6_waiting, wz_X6, rfl, by decide, by decide, by decide +kernel⟩
theorem mv_X6_nextHead : MV yX6_nextHead cX6_nextHead 1 (some .int) RX6 0 := ⟨wc_X6_nextHead, wi_X6_nextHead, wv_X6_nextHead, wz_X6, rfl, by decide, by decide, by decide +kernel⟩
theorem mv_X6_giveBack : MV yX6_giveBack cX6_giveBack 4 none RX6 2 := ⟨wc_X6_giveBack, wi_X6_giveBack, wv_X6_giveBack, wz_X6, rfl, by decide, by decide, by decide +kernel⟩
theorem mv_X6_placeOf : MV yX6_placeOf cX6_placeOf 2 (some .int) RX6 1 := ⟨wc_X6_placeOf, wi_X6_placeOf, wv_X6_placeOf, wz_X6, rfl, by decide, by decide, by decide +kernel⟩
theorem mi_X7_init : MI yX7_init cX7_init 1 0 := ⟨wc_X7_init, wi_X7_init, wz_X7, rfl, by decide, by decide, by decide +kernel⟩
theorem mv_X7_carry : MV yX7_carry cX7_carry 4 none RX7 1 := ⟨wc_X7_carry, wi_X7_carry, wv_X7_carry, wz_X7, rfl, by decide, by decide, by decide +kernel⟩
theorem mv_X7_byteOf : MV yX7_byteOf cX7_byteOf 4 (some .int) RX7 2 := ⟨wc_X7_byteOf, wi_X7_byteOf, wv_X7_byteOf, wz_X7, rfl, by decide, by decide, by decide +kernel⟩
theorem mi_X8_init : MI yX8_init cX8_init 2 0 := ⟨wc_X8_init, wi_X8_init, wz_X8, rfl, by decide, by decide, by decide +kernel⟩
theorem mv_X8_start : MV yX8_start cX8_start 3 (some .int) RX8 1 := ⟨wc_X8_start, wi_X8_start, wv_X8_start, wz_X8, rfl, by decide, by decide, by decide +kernel⟩
theorem mv_X8_reset : MV yX8_reset cX8_reset 2 (some .int) RX8 1 := ⟨wc_X8_reset, wi_X8_reset, wv_X8_reset, wz_X8, rfl, by decide, by decide, by decide +kernel⟩
theorem mv_X8_queue : MV yX8_queue cX8_queue 6 (some .int) RX8 5 := ⟨wc_X8_queue, wi_X8_queue, wv_X8_queue, wz_X8, rfl, by decide, by decide, by decide +kernel⟩
theorem mv_X8_run : MV yX8_run cX8_run 1 (some .int) RX8 0 := ⟨wc_X8_run, wi_X8_run, wv_X8_run, wz_X8, rfl, by decide, by decide, by decide +kernel⟩
theorem mv_X8_poke : MV yX8_poke cX8_poke 4 (some .int) RX8 2 := ⟨wc_X8_poke, wi_X8_poke, wv_X8_poke, wz_X8, rfl, by decide, by decide, by decide +kernel⟩
theorem mv_X8_peek : MV yX8_peek cX8_peek 2 (some .int) RX8 1 := ⟨wc_X8_peek, wi_X8_peek, wv_X8_peek, wz_X8, rfl, by decide, by decide, by decide +kernel⟩
theorem mv_X8_step : MV yX8_step cX8_step 2 (some .int) RX8 1 := ⟨wc_X8_step, wi_X8_step, wv_X8_step, wz_X8, rfl, by decide, by decide, by decide +kernel⟩
theorem mv_X8_arrive : MV yX8_arrive cX8_arrive 4 (some .int) RX8 2 := ⟨wc_X8_arrive, wi_X8_arrive, wv_X8_arrive, wz_X8, rfl, by decide, by decide, by decide +kernel⟩
theorem mv_X8_read : MV yX8_read cX8_read 2 (some .int) RX8 1 := ⟨wc_X8_read, wi_X8_read, wv_X8_read, wz_X8, rfl, by decide, by decide, by decide +kernel⟩
theorem mv_X8_write : MV yX8_write cX8_write 4 (some .int) RX8 2 := ⟨wc_X8_write, wi_X8_write, wv_X8_write, wz_X8, rfl, by decide, by decide, by decide +kernel⟩
theorem mv_X8_send : MV yX8_send cX8_send 4 (some .int) RX8 2 := ⟨wc_X8_send, wi_X8_send, wv_X8_send, wz_X8, rfl, by decide, by decide, by decide +kernel⟩
theorem mv_X8_post : MV yX8_post cX8_post 1 (some .int) RX8 0 := ⟨wc_X8_post, wi_X8_post, wv_X8_post, wz_X8, rfl, by decide, by decide, by decide +kernel⟩
theorem mv_X8_collect : MV yX8_collect cX8_collect 2 (some .int) RX8 1 := ⟨wc_X8_collect, wi_X8_collect, wv_X8_collect, wz_X8, rfl, by decide, by decide, by decide +kernel⟩
theorem mv_X8_written : MV yX8_written cX8_written 2 (some .int) RX8 1 := ⟨wc_X8_written, wi_X8_written, wv_X8_written, wz_X8, rfl, by decide, by decide, by decide +kernel⟩
theorem mv_X8_wire : MV yX8_wire cX8_wire 3 (some .int) RX8 2 := ⟨wc_X8_wire, wi_X8_wire, wv_X8_wire, wz_X8, rfl, by decide, by decide, by decide +kernel⟩
theorem mv_X8_disk : MV yX8_disk cX8_disk 3 (some .int) RX8 2 := ⟨wc_X8_disk, wi_X8_disk, wv_X8_disk, wz_X8, rfl, by decide, by decide, by decide +kernel⟩
theorem mv_X8_told : MV yX8_told cX8_told 5 (some .int) RX8 2 := ⟨wc_X8_told, wi_X8_told, wv_X8_told, wz_X8, rfl, by decide, by decide, by decide +kernel⟩
theorem mv_X8_count : MV yX8_count cX8_count 2 (some .int) RX8 1 := ⟨wc_X8_count, wi_X8_count, wv_X8_count, wz_X8, rfl, by decide, by decide, by decide +kernel⟩
theorem mt_X8_isQueue : MS yX8_isQueue cX8_isQueue 1 (some .boolean) 1 := ⟨wc_X8_isQueue, wt_X8_isQueue, wz_X8, by decide, by decide, by decide +kernel⟩
theorem mt_X8_isSize : MS yX8_isSize cX8_isSize 1 (some .boolean) 1 := ⟨wc_X8_isSize, wt_X8_isSize, wz_X8, by decide, by decide, by decide +kernel⟩
theorem mt_X8_isAddress : MS yX8_isAddress cX8_isAddress 1 (some .boolean) 1 := ⟨wc_X8_isAddress, wt_X8_isAddress, wz_X8, by decide, by decide, by decide +kernel⟩
theorem mt_X8_isSector : MS yX8_isSector cX8_isSector 1 (some .boolean) 1 := ⟨wc_X8_isSector, wt_X8_isSector, wz_X8, by decide, by decide, by decide +kernel⟩
theorem mt_X8_isFrame : MS yX8_isFrame cX8_isFrame 1 (some .boolean) 1 := ⟨wc_X8_isFrame, wt_X8_isFrame, wz_X8, by decide, by decide, by decide +kernel⟩
theorem mt_X8_isPlace : MS yX8_isPlace cX8_isPlace 3 (some .boolean) 3 := ⟨wc_X8_isPlace, wt_X8_isPlace, wz_X8, by decide, by decide, by decide +kernel⟩
theorem mt_X8_liesInMemory : MS yX8_liesInMemory cX8_liesInMemory 4 (some .boolean) 2 := ⟨wc_X8_liesInMemory, wt_X8_liesInMemory, wz_X8, by decide, by decide, by decide +kernel⟩
theorem mt_X8_descriptorsOf : MS yX8_descriptorsOf cX8_descriptorsOf 1 (some .int) 1 := ⟨wc_X8_descriptorsOf, wt_X8_descriptorsOf, wz_X8, by decide, by decide, by decide +kernel⟩
theorem mt_X8_availableOf : MS yX8_availableOf cX8_availableOf 1 (some .int) 1 := ⟨wc_X8_availableOf, wt_X8_availableOf, wz_X8, by decide, by decide, by decide +kernel⟩
theorem mt_X8_usedOf : MS yX8_usedOf cX8_usedOf 1 (some .int) 1 := ⟨wc_X8_usedOf, wt_X8_usedOf, wz_X8, by decide, by decide, by decide +kernel⟩
theorem mt_X8_patternByte : MS yX8_patternByte cX8_patternByte 3 (some .int) 2 := ⟨wc_X8_patternByte, wt_X8_patternByte, wz_X8, by decide, by decide, by decide +kernel⟩
theorem mt_X8_oneMore : MS yX8_oneMore cX8_oneMore 1 (some .int) 1 := ⟨wc_X8_oneMore, wt_X8_oneMore, wz_X8, by decide, by decide, by decide +kernel⟩
theorem mt_X9_isIn : MS yX9_isIn cX9_isIn 3 (some .boolean) 3 := ⟨wc_X9_isIn, wt_X9_isIn, wz_X9, by decide, by decide, by decide +kernel⟩
theorem mv_X9_number : MV yX9_number cX9_number 6 (some .long) RX9 2 := ⟨wc_X9_number, wi_X9_number, wv_X9_number, wz_X9, rfl, by decide, by decide, by decide +kernel⟩
theorem mv_X9_put : MV yX9_put cX9_put 6 none RX9 3 := ⟨wc_X9_put, wi_X9_put, wv_X9_put, wz_X9, rfl, by decide, by decide, by decide +kernel⟩
theorem mv_X9_poke : MV yX9_poke cX9_poke 4 (some .int) RX9 2 := ⟨wc_X9_poke, wi_X9_poke, wv_X9_poke, wz_X9, rfl, by decide, by decide, by decide +kernel⟩
theorem mv_X9_peek : MV yX9_peek cX9_peek 2 (some .int) RX9 1 := ⟨wc_X9_peek, wi_X9_peek, wv_X9_peek, wz_X9, rfl, by decide, by decide, by decide +kernel⟩
theorem mv_X9_clear : MV yX9_clear cX9_clear 2 none RX9 0 := ⟨wc_X9_clear, wi_X9_clear, wv_X9_clear, wz_X9, rfl, by decide, by decide, by decide +kernel⟩
theorem mi_X9_init : MI yX9_init cX9_init 1 0 := ⟨wc_X9_init, wi_X9_init, wz_X9, rfl, by decide, by decide, by decide +kernel⟩
theorem mv_X9_start : MV yX9_start cX9_start 3 (some .int) RX9 1 := ⟨wc_X9_start, wi_X9_start, wv_X9_start, wz_X9, rfl, by decide, by decide, by decide +kernel⟩
theorem mv_X9_reset : MV yX9_reset cX9_reset 2 (some .int) RX9 1 := ⟨wc_X9_reset, wi_X9_reset, wv_X9_reset, wz_X9, rfl, by decide, by decide, by decide +kernel⟩
theorem mv_X9_queue : MV yX9_queue cX9_queue 6 (some .int) RX9 5 := ⟨wc_X9_queue, wi_X9_queue, wv_X9_queue, wz_X9, rfl, by decide, by decide, by decide +kernel⟩
theorem mv_X9_run : MV yX9_run cX9_run 1 (some .int) RX9 0 := ⟨wc_X9_run, wi_X9_run, wv_X9_run, wz_X9, rfl, by decide, by decide, by decide +kernel⟩
theorem mv_X9_hasSomething : MV yX9_hasSomething cX9_hasSomething 4 (some .boolean) RX9 1 := ⟨wc_X9_hasSomething, wi_X9_hasSomething, wv_X9_hasSomething, wz_X9, rfl, by decide, by decide, by decide +kernel⟩
theorem mv_X9_take : MV yX9_take cX9_take 21 (some .boolean) RX9 1 := ⟨wc_X9_take, wi_X9_take, wv_X9_take, wz_X9, rfl, by decide, by decide, by decide +kernel⟩
theorem mv_X9_keep : MV yX9_keep cX9_keep 4 none RX9 3 := ⟨wc_X9_keep, wi_X9_keep, wv_X9_keep, wz_X9, rfl, by decide, by decide, by decide +kernel⟩
theorem mv_X9_readByte : MV yX9_readByte cX9_readByte 4 (some .int) RX9 1 := ⟨wc_X9_readByte, wi_X9_readByte, wv_X9_readByte, wz_X9, rfl, by decide, by decide, by decide +kernel⟩
theorem mv_X9_readNumber : MV yX9_readNumber cX9_readNumber 6 (some .long) RX9 2 := ⟨wc_X9_readNumber, wi_X9_readNumber, wv_X9_readNumber, wz_X9, rfl, by decide, by decide, by decide +kernel⟩
theorem mv_X9_writeByte : MV yX9_writeByte cX9_writeByte 5 none RX9 2 := ⟨wc_X9_writeByte, wi_X9_writeByte, wv_X9_writeByte, wz_X9, rfl, by decide, by decide, by decide +kernel⟩
theorem mv_X9_give : MV yX9_give cX9_give 4 none RX9 2 := ⟨wc_X9_give, wi_X9_give, wv_X9_give, wz_X9, rfl, by decide, by decide, by decide +kernel⟩
theorem mv_X9_step : MV yX9_step cX9_step 2 (some .int) RX9 1 := ⟨wc_X9_step, wi_X9_step, wv_X9_step, wz_X9, rfl, by decide, by decide, by decide +kernel⟩
theorem mv_X9_doDisk : MV yX9_doDisk cX9_doDisk 11 (some .int) RX9 0 := ⟨wc_X9_doDisk, wi_X9_doDisk, wv_X9_doDisk, wz_X9, rfl, by decide, by decide, by decide +kernel⟩
theorem mv_X9_doWire : MV yX9_doWire cX9_doWire 4 none RX9 0 := ⟨wc_X9_doWire, wi_X9_doWire, wv_X9_doWire, wz_X9, rfl, by decide, by decide, by decide +kernel⟩
theorem mt_X9_frameByte : MS yX9_frameByte cX9_frameByte 3 (some .int) 2 := ⟨wc_X9_frameByte, wt_X9_frameByte, wz_X9, by decide, by decide, by decide +kernel⟩
theorem mv_X9_arrive : MV yX9_arrive cX9_arrive 6 (some .int) RX9 2 := ⟨wc_X9_arrive, wi_X9_arrive, wv_X9_arrive, wz_X9, rfl, by decide, by decide, by decide +kernel⟩
theorem mv_X9_freeOnes : MV yX9_freeOnes cX9_freeOnes 4 (some .int) RX9 1 := ⟨wc_X9_freeOnes, wi_X9_freeOnes, wv_X9_freeOnes, wz_X9, rfl, by decide, by decide, by decide +kernel⟩
theorem mv_X9_lend : MV yX9_lend cX9_lend 4 (some .int) RX9 2 := ⟨wc_X9_lend, wi_X9_lend, wv_X9_lend, wz_X9, rfl, by decide, by decide, by decide +kernel⟩
theorem mv_X9_describe : MV yX9_describe cX9_describe 6 none RX9 5 := ⟨wc_X9_describe, wi_X9_describe, wv_X9_describe, wz_X9, rfl, by decide, by decide, by decide +kernel⟩
theorem mv_X9_offer : MV yX9_offer cX9_offer 3 none RX9 2 := ⟨wc_X9_offer, wi_X9_offer, wv_X9_offer, wz_X9, rfl, by decide, by decide, by decide +kernel⟩
theorem mv_X9_ask : MV yX9_ask cX9_ask 12 (some .int) RX9 3 := ⟨wc_X9_ask, wi_X9_ask, wv_X9_ask, wz_X9, rfl, by decide, by decide, by decide +kernel⟩
theorem mv_X9_read : MV yX9_read cX9_read 2 (some .int) RX9 1 := ⟨wc_X9_read, wi_X9_read, wv_X9_read, wz_X9, rfl, by decide, by decide, by decide +kernel⟩
theorem mv_X9_write : MV yX9_write cX9_write 4 (some .int) RX9 2 := ⟨wc_X9_write, wi_X9_write, wv_X9_write, wz_X9, rfl, by decide, by decide, by decide +kernel⟩
theorem mv_X9_send : MV yX9_send cX9_send 8 (some .int) RX9 2 := ⟨wc_X9_send, wi_X9_send, wv_X9_send, wz_X9, rfl, by decide, by decide, by decide +kernel⟩
theorem mv_X9_post : MV yX9_post cX9_post 2 (some .int) RX9 0 := ⟨wc_X9_post, wi_X9_post, wv_X9_post, wz_X9, rfl, by decide, by decide, by decide +kernel⟩
theorem mv_X9_collect : MV yX9_collect cX9_collect 7 (some .int) RX9 1 := ⟨wc_X9_collect, wi_X9_collect, wv_X9_collect, wz_X9, rfl, by decide, by decide, by decide +kernel⟩
theorem mv_X9_written : MV yX9_written cX9_written 2 (some .int) RX9 1 := ⟨wc_X9_written, wi_X9_written, wv_X9_written, wz_X9, rfl, by decide, by decide, by decide +kernel⟩
theorem mv_X9_wire : MV yX9_wire cX9_wire 4 (some .int) RX9 2 := ⟨wc_X9_wire, wi_X9_wire, wv_X9_wire, wz_X9, rfl, by decide, by decide, by decide +kernel⟩
theorem mv_X9_disk : MV yX9_disk cX9_disk 3 (some .int) RX9 2 := ⟨wc_X9_disk, wi_X9_disk, wv_X9_disk, wz_X9, rfl, by decide, by decide, by decide +kernel⟩
theorem mv_X9_told : MV yX9_told cX9_told 3 (some .int) RX9 2 := ⟨wc_X9_told, wi_X9_told, wv_X9_told, wz_X9, rfl, by decide, by decide, by decide +kernel⟩
theorem mv_X9_count : MV yX9_count cX9_count 2 (some .int) RX9 1 := ⟨wc_X9_count, wi_X9_count, wv_X9_count, wz_X9, rfl, by decide, by decide, by decide +kernel⟩
theorem mt_J6_bitCount_0f7a4 : MS yJ6_bitCount_0f7a4 cJ6_bitCount_0f7a4 1 (some .int) 1 := ⟨wc_J6_bitCount_0f7a4, wt_J6_bitCount_0f7a4, wz_J6, by decide, by decide, by decide +kernel⟩
theorem mt_J9_min_7cf53 : MS yJ9_min_7cf53 cJ9_min_7cf53 2 (some .int) 2 := ⟨wc_J9_min_7cf53, wt_J9_min_7cf53, wz_J9, by decide, by decide, by decide +kernel⟩
theorem mv_J0_length_8abf5 : MV yJ0_length_8abf5 cJ0_length_8abf5 1 (some .int) RJ0 0 := ⟨wc_J0_length_8abf5, wi_J0_length_8abf5, wv_J0_length_8abf5, wz_J0, rfl, by decide, by decide, by decide +kernel⟩
theorem mv_J0_charAt_5068e : MV yJ0_charAt_5068e cJ0_charAt_5068e 2 (some .char) RJ0 1 := ⟨wc_J0_charAt_5068e, wi_J0_charAt_5068e, wv_J0_charAt_5068e, wz_J0, rfl, by decide, by decide, by decide +kernel⟩
theorem mv_J0_coder_7d493 : MV yJ0_coder_7d493 cJ0_coder_7d493 1 (some .byte) RJ0 0 := ⟨wc_J0_coder_7d493, wi_J0_coder_7d493, wv_J0_coder_7d493, wz_J0, rfl, by decide, by decide, by decide +kernel⟩
theorem mv_J0_isLatin1_aae02 : MV yJ0_isLatin1_aae02 cJ0_isLatin1_aae02 1 (some .boolean) RJ0 0 := ⟨wc_J0_isLatin1_aae02, wi_J0_isLatin1_aae02, wv_J0_isLatin1_aae02, wz_J0, rfl, by decide, by decide, by decide +kernel⟩
theorem mt_J0_checkIndex_df160 : MS yJ0_checkIndex_df160 cJ0_checkIndex_df160 2 none 2 := ⟨wc_J0_checkIndex_df160, wt_J0_checkIndex_df160, wz_J0, by decide, by decide, by decide +kernel⟩
theorem mt_J1_charAt_3b067 : MS yJ1_charAt_3b067 cJ1_charAt_3b067 2 (some .char) 2 := ⟨wc_J1_charAt_3b067, wt_J1_charAt_3b067, wz_J1, by decide, by decide, by decide +kernel⟩
theorem mt_J2_getChar_3b067 : MS yJ2_getChar_3b067 cJ2_getChar_3b067 2 (some .char) 2 := ⟨wc_J2_getChar_3b067, wt_J2_getChar_3b067, wz_J2, by decide, by decide, by decide +kernel⟩
theorem mt_J2_length_9d52b : MS yJ2_length_9d52b cJ2_length_9d52b 1 (some .int) 1 := ⟨wc_J2_length_9d52b, wt_J2_length_9d52b, wz_J2, by decide, by decide, by decide +kernel⟩
theorem mt_J2_charAt_3b067 : MS yJ2_charAt_3b067 cJ2_charAt_3b067 2 (some .char) 2 := ⟨wc_J2_charAt_3b067, wt_J2_charAt_3b067, wz_J2, by decide, by decide, by decide +kernel⟩
theorem mt_J2_checkIndex_2214a : MS yJ2_checkIndex_2214a cJ2_checkIndex_2214a 2 none 2 := ⟨wc_J2_checkIndex_2214a, wt_J2_checkIndex_2214a, wz_J2, by decide, by decide, by decide +kernel⟩
theorem mt_J7_fill_53178 : MS yJ7_fill_53178 cJ7_fill_53178 4 none 2 := ⟨wc_J7_fill_53178, wt_J7_fill_53178, wz_J7, by decide, by decide, by decide +kernel⟩
theorem mt_J7_fill_031fb : MS yJ7_fill_031fb cJ7_fill_031fb 4 none 2 := ⟨wc_J7_fill_031fb, wt_J7_fill_031fb, wz_J7, by decide, by decide, by decide +kernel⟩
theorem mt_J3_checkIndex_8e157 : MS yJ3_checkIndex_8e157 cJ3_checkIndex_8e157 3 (some .int) 3 := ⟨wc_J3_checkIndex_8e157, wt_J3_checkIndex_8e157, wz_J3, by decide, by decide, by decide +kernel⟩
end
section
/-! the world: cells 0 .. 21 the class's (numbers v, rows f), 22 .. 42 the reference's (numbers u, rows g) -/
-- v 0: cell 3 (Device), state
-- v 1: cell 3 (Device), tables
-- v 2: cell 3 (Device), came
-- v 3: cell 3 (Device), dropped
-- v 4: cell 4 (Ring), laid
-- v 5: cell 4 (Ring), size
-- v 6: cell 4 (Ring), descriptors
-- v 7: cell 4 (Ring), available
-- v 8: cell 4 (Ring), used
-- v 9: cell 4 (Ring), taken
-- v 10: cell 4 (Ring), given
-- v 11: cell 4 (Ring), signals
-- v 12: cell 5 (Ring), laid
-- v 13: cell 5 (Ring), size
-- v 14: cell 5 (Ring), descriptors
-- v 15: cell 5 (Ring), available
-- v 16: cell 5 (Ring), used
-- v 17: cell 5 (Ring), taken
-- v 18: cell 5 (Ring), given
-- v 19: cell 5 (Ring), signals
-- v 20: cell 6 (Ring), laid
-- v 21: cell 6 (Ring), size
-- v 22: cell 6 (Ring), descriptors
-- v 23: cell 6 (Ring), available
-- v 24: cell 6 (Ring), used
-- v 25: cell 6 (Ring), taken
-- v 26: cell 6 (Ring), given
-- v 27: cell 6 (Ring), signals
-- v 28: cell 7 (Chain), parts
-- v 29: cell 7 (Chain), readParts
-- v 30: cell 7 (Chain), part
-- v 31: cell 7 (Chain), end
-- v 32: cell 7 (Chain), offset
-- v 33: cell 7 (Chain), lastPlace
-- v 34: cell 7 (Chain), head
-- v 35: cell 7 (Chain), readable
-- v 36: cell 7 (Chain), writable
-- v 37: cell 12 (Wire), latest
-- v 38: cell 12 (Wire), went
-- v 39: cell 15 (Driver), tables
-- v 40: cell 15 (Driver), started
-- v 41: cell 16 (Loans), free
-- v 42: cell 16 (Loans), asked
-- v 43: cell 16 (Loans), saw
-- v 44: cell 16 (Loans), latestWritten
-- v 45: cell 18 (Loans), free
-- v 46: cell 18 (Loans), asked
-- v 47: cell 18 (Loans), saw
-- v 48: cell 18 (Loans), latestWritten
-- v 49: cell 20 (Loans), free
-- v 50: cell 20 (Loans), asked
-- v 51: cell 20 (Loans), saw
-- v 52: cell 20 (Loans), latestWritten
-- u 0: cell 22 (Model), state
-- u 1: cell 22 (Model), tables
-- u 2: cell 22 (Model), started
-- u 3: cell 22 (Model), head
-- u 4: cell 22 (Model), readMany
-- u 5: cell 22 (Model), readAll
-- u 6: cell 22 (Model), writeMany
-- u 7: cell 22 (Model), writeAll
-- u 8: cell 22 (Model), bad
-- u 9: cell 22 (Model), went
-- u 10: cell 22 (Model), came
-- u 11: cell 22 (Model), dropped
-- f 2: ('B', 4096)
-- f 8: ('I', 16)
-- f 9: ('I', 16)
-- f 11: ('B', 2048)
-- f 13: ('B', 1280)
-- f 14: ('I', 16)
-- f 17: ('I', 8)
-- f 19: ('I', 8)
-- f 21: ('I', 8)
-- g 23: ('B', 4096)
-- g 24: ('B', 2048)
-- g 25: ('I', 3)
-- g 26: ('I', 3)
-- g 27: ('I', 3)
-- g 28: ('I', 3)
-- g 29: ('I', 3)
-- g 30: ('I', 3)
-- g 31: ('I', 3)
-- g 32: ('I', 20)
-- g 33: ('I', 20)
-- g 34: ('I', 20)
-- g 35: ('I', 20)
-- g 36: ('B', 1280)
-- g 37: ('I', 16)
-- g 38: ('Z', 24)
-- g 39: ('I', 24)
-- g 40: ('I', 3)
-- g 41: ('I', 3)
-- g 42: ('I', 3)
def WD (ε : ET) (ad : Nat → Nat) (v : Nat → Int32) (f : Nat → Nat → Int32) (u : Nat → Int32) (g : Nat → Nat → Int32) : va_W := [(ad 0, .inr (8, [.ref (ad 1), .ref (ad 3), .ref (ad 15)])),
  (ad 1, .inr (5, [.ref (ad 2)])),
  (ad 2, .inl (ε.2.1, 4096, .inl (f 2))),
  (ad 3, .inr (1, [.ref (ad 4), .ref (ad 5), .ref (ad 6), .ref (ad 7), .ref (ad 10), .ref (ad 12), .int (v 0), .int (v 1), .int (v 2), .int (v 3)])),
  (ad 4, .inr (6, [.ref (ad 1), .int (v 4), .int (v 5), .int (v 6), .int (v 7), .int (v 8), .int (v 9), .int (v 10), .int (v 11)])),
  (ad 5, .inr (6, [.ref (ad 1), .int (v 12), .int (v 13), .int (v 14), .int (v 15), .int (v 16), .int (v 17), .int (v 18), .int (v 19)])),
  (ad 6, .inr (6, [.ref (ad 1), .int (v 20), .int (v 21), .int (v 22), .int (v 23), .int (v 24), .int (v 25), .int (v 26), .int (v 27)])),
  (ad 7, .inr (0, [.ref (ad 1), .ref (ad 8), .ref (ad 9), .int (v 28), .int (v 29), .int (v 30), .int (v 31), .int (v 32), .int (v 33), .int (v 34), .int (v 35), .int (v 36)])),
  (ad 8, .inl (ε.2.2.1, 16, .inl (f 8))),
  (ad 9, .inl (ε.2.2.1, 16, .inl (f 9))),
  (ad 10, .inr (2, [.ref (ad 11)])),
  (ad 11, .inl (ε.2.1, 2048, .inl (f 11))),
  (ad 12, .inr (7, [.ref (ad 13), .ref (ad 14), .int (v 37), .int (v 38)])),
  (ad 13, .inl (ε.2.1, 1280, .inl (f 13))),
  (ad 14, .inl (ε.2.2.1, 16, .inl (f 14))),
  (ad 15, .inr (3, [.ref (ad 1), .ref (ad 16), .ref (ad 18), .ref (ad 20), .int (v 39), .int (v 40)])),
  (ad 16, .inr (4, [.ref (ad 17), .int (v 41), .int (v 42), .int (v 43), .int (v 44)])),
  (ad 17, .inl (ε.2.2.1, 8, .inl (f 17))),
  (ad 18, .inr (4, [.ref (ad 19), .int (v 45), .int (v 46), .int (v 47), .int (v 48)])),
  (ad 19, .inl (ε.2.2.1, 8, .inl (f 19))),
  (ad 20, .inr (4, [.ref (ad 21), .int (v 49), .int (v 50), .int (v 51), .int (v 52)])),
  (ad 21, .inl (ε.2.2.1, 8, .inl (f 21))),
  (ad 22, .inr (9, [.ref (ad 23), .ref (ad 24), .int (u 0), .int (u 1), .int (u 2), .ref (ad 25), .ref (ad 26), .ref (ad 27), .ref (ad 28), .ref (ad 29), .ref (ad 30), .ref (ad 31), .int (u 3), .ref (ad 32), .ref (ad 33), .int (u 4), .int (u 5), .ref (ad 34), .ref (ad 35), .int (u 6), .int (u 7), .int (u 8), .ref (ad 36), .ref (ad 37), .int (u 9), .int (u 10), .int (u 11), .ref (ad 38), .ref (ad 39), .ref (ad 40), .ref (ad 41), .ref (ad 42)])),
  (ad 23, .inl (ε.2.1, 4096, .inl (g 23))),
  (ad 24, .inl (ε.2.1, 2048, .inl (g 24))),
  (ad 25, .inl (ε.2.2.1, 3, .inl (g 25))),
  (ad 26, .inl (ε.2.2.1, 3, .inl (g 26))),
  (ad 27, .inl (ε.2.2.1, 3, .inl (g 27))),
  (ad 28, .inl (ε.2.2.1, 3, .inl (g 28))),
  (ad 29, .inl (ε.2.2.1, 3, .inl (g 29))),
  (ad 30, .inl (ε.2.2.1, 3, .inl (g 30))),
  (ad 31, .inl (ε.2.2.1, 3, .inl (g 31))),
  (ad 32, .inl (ε.2.2.1, 20, .inl (g 32))),
  (ad 33, .inl (ε.2.2.1, 20, .inl (g 33))),
  (ad 34, .inl (ε.2.2.1, 20, .inl (g 34))),
  (ad 35, .inl (ε.2.2.1, 20, .inl (g 35))),
  (ad 36, .inl (ε.2.1, 1280, .inl (g 36))),
  (ad 37, .inl (ε.2.2.1, 16, .inl (g 37))),
  (ad 38, .inl (ε.2.2.2, 24, .inl (g 38))),
  (ad 39, .inl (ε.2.2.1, 24, .inl (g 39))),
  (ad 40, .inl (ε.2.2.1, 3, .inl (g 40))),
  (ad 41, .inl (ε.2.2.1, 3, .inl (g 41))),
  (ad 42, .inl (ε.2.2.1, 3, .inl (g 42)))]
def DT (r : Option Value) (ω : va_W) : Option Value → va_W → Prop := fun r1 ω1 => r1 = r ∧ ω1 = ω
theorem nb_b {x : Int32} (h : x = 0 ∨ x = 1) : narrow .boolean (.int x) = .int x ∧ fits .boolean (.int x) = true := by rcases h with rfl | rfl <;> exact ⟨rfl, rfl⟩
section WORLD
variable {κ : KT} {ε : ET} {own : String} {cc : ByteArray} {nL : Nat} {ret : Option FieldType} {fr lo mc ms : Nat} {k n : Nat} {pc : Nat} {lv : List (Nat × Value)} {st : List Value} {ad : Nat → Nat} {v : Nat → Int32} {f : Nat → Nat → Int32} {u : Nat → Int32} {g : Nat → Nat → Int32}
theorem wl_0 : (WD ε ad v f u g)[0]? = some (ad 0, .inr (8, [.ref (ad 1), .ref (ad 3), .ref (ad 15)])) := rfl
theorem wl_1 : (WD ε ad v f u g)[1]? = some (ad 1, .inr (5, [.ref (ad 2)])) := rfl
theorem wl_2 : (WD ε ad v f u g)[2]? = some (ad 2, .inl (ε.2.1, 4096, .inl (f 2))) := rfl
theorem wl_3 : (WD ε ad v f u g)[3]? = some (ad 3, .inr (1, [.ref (ad 4), .ref (ad 5), .ref (ad 6), .ref (ad 7), .ref (ad 10), .ref (ad 12), .int (v 0), .int (v 1), .int (v 2), .int (v 3)])) := rfl
theorem wl_4 : (WD ε ad v f u g)[4]? = some (ad 4, .inr (6, [.ref (ad 1), .int (v 4), .int (v 5), .int (v 6), .int (v 7), .int (v 8), .int (v 9), .int (v 10), .int (v 11)])) := rfl
theorem wl_5 : (WD ε ad v f u g)[5]? = some (ad 5, .inr (6, [.ref (ad 1), .int (v 12), .int (v 13), .int (v 14), .int (v 15), .int (v 16), .int (v 17), .int (v 18), .int (v 19)])) := rfl
theorem wl_6 : (WD ε ad v f u g)[6]? = some (ad 6, .inr (6, [.ref (ad 1), .int (v 20), .int (v 21), .int (v 22), .int (v 23), .int (v 24), .int (v 25), .int (v 26), .int (v 27)])) := rfl
theorem wl_7 : (WD ε ad v f u g)[7]? = some (ad 7, .inr (0, [.ref (ad 1), .ref (ad 8), .ref (ad 9), .int (v 28), .int (v 29), .int (v 30), .int (v 31), .int (v 32), .int (v 33), .int (v 34), .int (v 35), .int (v 36)])) := rfl
theorem wl_8 : (WD ε ad v f u g)[8]? = some (ad 8, .inl (ε.2.2.1, 16, .inl (f 8))) := rfl
theorem wl_9 : (WD ε ad v f u g)[9]? = some (ad 9, .inl (ε.2.2.1, 16, .inl (f 9))) := rfl
theorem wl_10 : (WD ε ad v f u g)[10]? = some (ad 10, .inr (2, [.ref (ad 11)])) := rfl
theorem wl_11 : (WD ε ad v f u g)[11]? = some (ad 11, .inl (ε.2.1, 2048, .inl (f 11))) := rfl
theorem wl_12 : (WD ε ad v f u g)[12]? = some (ad 12, .inr (7, [.ref (ad 13), .ref (ad 14), .int (v 37), .int (v 38)])) := rfl
theorem wl_13 : (WD ε ad v f u g)[13]? = some (ad 13, .inl (ε.2.1, 1280, .inl (f 13))) := rfl
theorem wl_14 : (WD ε ad v f u g)[14]? = some (ad 14, .inl (ε.2.2.1, 16, .inl (f 14))) := rfl
theorem wl_15 : (WD ε ad v f u g)[15]? = some (ad 15, .inr (3, [.ref (ad 1), .ref (ad 16), .ref (ad 18), .ref (ad 20), .int (v 39), .int (v 40)])) := rfl
theorem wl_16 : (WD ε ad v f u g)[16]? = some (ad 16, .inr (4, [.ref (ad 17), .int (v 41), .int (v 42), .int (v 43), .int (v 44)])) := rfl
theorem wl_17 : (WD ε ad v f u g)[17]? = some (ad 17, .inl (ε.2.2.1, 8, .inl (f 17))) := rfl
theorem wl_18 : (WD ε ad v f u g)[18]? = some (ad 18, .inr (4, [.ref (ad 19), .int (v 45), .int (v 46), .int (v 47), .int (v 48)])) := rfl
theorem wl_19 : (WD ε ad v f u g)[19]? = some (ad 19, .inl (ε.2.2.1, 8, .inl (f 19))) := rfl
theorem wl_20 : (WD ε ad v f u g)[20]? = some (ad 20, .inr (4, [.ref (ad 21), .int (v 49), .int (v 50), .int (v 51), .int (v 52)])) := rfl
theorem wl_21 : (WD ε ad v f u g)[21]? = some (ad 21, .inl (ε.2.2.1, 8, .inl (f 21))) := rfl
theorem wl_22 : (WD ε ad v f u g)[22]? = some (ad 22, .inr (9, [.ref (ad 23), .ref (ad 24), .int (u 0), .int (u 1), .int (u 2), .ref (ad 25), .ref (ad 26), .ref (ad 27), .ref (ad 28), .ref (ad 29), .ref (ad 30), .ref (ad 31), .int (u 3), .ref (ad 32), .ref (ad 33), .int (u 4), .int (u 5), .ref (ad 34), .ref (ad 35), .int (u 6), .int (u 7), .int (u 8), .ref (ad 36), .ref (ad 37), .int (u 9), .int (u 10), .int (u 11), .ref (ad 38), .ref (ad 39), .ref (ad 40), .ref (ad 41), .ref (ad 42)])) := rfl
theorem wl_23 : (WD ε ad v f u g)[23]? = some (ad 23, .inl (ε.2.1, 4096, .inl (g 23))) := rfl
theorem wl_24 : (WD ε ad v f u g)[24]? = some (ad 24, .inl (ε.2.1, 2048, .inl (g 24))) := rfl
theorem wl_25 : (WD ε ad v f u g)[25]? = some (ad 25, .inl (ε.2.2.1, 3, .inl (g 25))) := rfl
theorem wl_26 : (WD ε ad v f u g)[26]? = some (ad 26, .inl (ε.2.2.1, 3, .inl (g 26))) := rfl
theorem wl_27 : (WD ε ad v f u g)[27]? = some (ad 27, .inl (ε.2.2.1, 3, .inl (g 27))) := rfl
theorem wl_28 : (WD ε ad v f u g)[28]? = some (ad 28, .inl (ε.2.2.1, 3, .inl (g 28))) := rfl
theorem wl_29 : (WD ε ad v f u g)[29]? = some (ad 29, .inl (ε.2.2.1, 3, .inl (g 29))) := rfl
theorem wl_30 : (WD ε ad v f u g)[30]? = some (ad 30, .inl (ε.2.2.1, 3, .inl (g 30))) := rfl
theorem wl_31 : (WD ε ad v f u g)[31]? = some (ad 31, .inl (ε.2.2.1, 3, .inl (g 31))) := rfl
theorem wl_32 : (WD ε ad v f u g)[32]? = some (ad 32, .inl (ε.2.2.1, 20, .inl (g 32))) := rfl
theorem wl_33 : (WD ε ad v f u g)[33]? = some (ad 33, .inl (ε.2.2.1, 20, .inl (g 33))) := rfl
theorem wl_34 : (WD ε ad v f u g)[34]? = some (ad 34, .inl (ε.2.2.1, 20, .inl (g 34))) := rfl
theorem wl_35 : (WD ε ad v f u g)[35]? = some (ad 35, .inl (ε.2.2.1, 20, .inl (g 35))) := rfl
theorem wl_36 : (WD ε ad v f u g)[36]? = some (ad 36, .inl (ε.2.1, 1280, .inl (g 36))) := rfl
theorem wl_37 : (WD ε ad v f u g)[37]? = some (ad 37, .inl (ε.2.2.1, 16, .inl (g 37))) := rfl
theorem wl_38 : (WD ε ad v f u g)[38]? = some (ad 38, .inl (ε.2.2.2, 24, .inl (g 38))) := rfl
theorem wl_39 : (WD ε ad v f u g)[39]? = some (ad 39, .inl (ε.2.2.1, 24, .inl (g 39))) := rfl
theorem wl_40 : (WD ε ad v f u g)[40]? = some (ad 40, .inl (ε.2.2.1, 3, .inl (g 40))) := rfl
theorem wl_41 : (WD ε ad v f u g)[41]? = some (ad 41, .inl (ε.2.2.1, 3, .inl (g 41))) := rfl
theorem wl_42 : (WD ε ad v f u g)[42]? = some (ad 42, .inl (ε.2.2.1, 3, .inl (g 42))) := rfl
theorem g_0_memory (C : CX κ ε own cc nL ret fr lo mc ms) {ix : Nat} (hd : decode cc pc = .ok (.getfield ix, 3)) (hw : Cond.fieldLink own ix "RingDevices" "memory" "LRingDevices$Memory;" ∈ TB) (h : JW κ k n (WD ε ad v f u g) (pc + 3) lv (.ref (ad 1) :: st)) : JW κ k n (WD ε ad v f u g) pc lv (.ref (ad 0) :: st) := j_get C hd 0 wl_0 inX8 rfl 0 (by decide) hw rfl rfl h
theorem g_0_device (C : CX κ ε own cc nL ret fr lo mc ms) {ix : Nat} (hd : decode cc pc = .ok (.getfield ix, 3)) (hw : Cond.fieldLink own ix "RingDevices" "device" "LRingDevices$Device;" ∈ TB) (h : JW κ k n (WD ε ad v f u g) (pc + 3) lv (.ref (ad 3) :: st)) : JW κ k n (WD ε ad v f u g) pc lv (.ref (ad 0) :: st) := j_get C hd 0 wl_0 inX8 rfl 1 (by decide) hw rfl rfl h
theorem g_0_driver (C : CX κ ε own cc nL ret fr lo mc ms) {ix : Nat} (hd : decode cc pc = .ok (.getfield ix, 3)) (hw : Cond.fieldLink own ix "RingDevices" "driver" "LRingDevices$Driver;" ∈ TB) (h : JW κ k n (WD ε ad v f u g) (pc + 3) lv (.ref (ad 15) :: st)) : JW κ k n (WD ε ad v f u g) pc lv (.ref (ad 0) :: st) := j_get C hd 0 wl_0 inX8 rfl 2 (by decide) hw rfl rfl h
theorem g_1_bytes (C : CX κ ε own cc nL ret fr lo mc ms) {ix : Nat} (hd : decode cc pc = .ok (.getfield ix, 3)) (hw : Cond.fieldLink own ix "RingDevices$Memory" "bytes" "[B" ∈ TB) (h : JW κ k n (WD ε ad v f u g) (pc + 3) lv (.ref (ad 2) :: st)) : JW κ k n (WD ε ad v f u g) pc lv (.ref (ad 1) :: st) := j_get C hd 1 wl_1 inX5 rfl 0 (by decide) hw rfl rfl h
theorem al_2 (C : CX κ ε own cc nL ret fr lo mc ms) {i : Int32} {F : Nat → Int32} (hd : decode cc pc = .ok (.baload, 1)) (hin : vp_in i 4096) (hF : f 2 = F) (h : JW κ k n (WD ε ad v f u g) (pc + 1) lv (.int (F i.toNatClampNeg) :: st)) : JW κ k n (WD ε ad v f u g) pc lv (.int i :: .ref (ad 2) :: st) := by
  subst hF
  exact j_bald C hd 2 wl_2 hin h
theorem wt_2 {F : Nat → Int32} : (WD ε ad v f u g).set 2 (ad 2, .inl (ε.2.1, 4096, .inl F)) = WD ε ad v (va_up f 2 F) u g := rfl
theorem as_2 (C : CX κ ε own cc nL ret fr lo mc ms) {i x : Int32} {F F2 : Nat → Int32} (hd : decode cc pc = .ok (.bastore, 1)) (hin : vp_in i 4096) (hF : f 2 = F2) (hF2 : upd F2 i.toNatClampNeg (vp_nar .byte x) = F) (h : JW κ k n (WD ε ad v (va_up f 2 F) u g) (pc + 1) lv st) : JW κ k n (WD ε ad v f u g) pc lv (.int x :: .int i :: .ref (ad 2) :: st) := by
  subst hF; subst hF2
  exact j_bast C hd 2 wl_2 hin wt_2 h
theorem an_2 (C : CX κ ε own cc nL ret fr lo mc ms) (hd : decode cc pc = .ok (.arraylength, 1)) (h : JW κ k n (WD ε ad v f u g) (pc + 1) lv (.int 4096 :: st)) : JW κ k n (WD ε ad v f u g) pc lv (.ref (ad 2) :: st) := j_alen C hd 2 0 wl_2 rfl rfl h
theorem g_3_disks (C : CX κ ε own cc nL ret fr lo mc ms) {ix : Nat} (hd : decode cc pc = .ok (.getfield ix, 3)) (hw : Cond.fieldLink own ix "RingDevices$Device" "disks" "LRingDevices$Ring;" ∈ TB) (h : JW κ k n (WD ε ad v f u g) (pc + 3) lv (.ref (ad 4) :: st)) : JW κ k n (WD ε ad v f u g) pc lv (.ref (ad 3) :: st) := j_get C hd 3 wl_3 inX1 rfl 0 (by decide) hw rfl rfl h
theorem g_3_comes (C : CX κ ε own cc nL ret fr lo mc ms) {ix : Nat} (hd : decode cc pc = .ok (.getfield ix, 3)) (hw : Cond.fieldLink own ix "RingDevices$Device" "comes" "LRingDevices$Ring;" ∈ TB) (h : JW κ k n (WD ε ad v f u g) (pc + 3) lv (.ref (ad 5) :: st)) : JW κ k n (WD ε ad v f u g) pc lv (.ref (ad 3) :: st) := j_get C hd 3 wl_3 inX1 rfl 1 (by decide) hw rfl rfl h
theorem g_3_goes (C : CX κ ε own cc nL ret fr lo mc ms) {ix : Nat} (hd : decode cc pc = .ok (.getfield ix, 3)) (hw : Cond.fieldLink own ix "RingDevices$Device" "goes" "LRingDevices$Ring;" ∈ TB) (h : JW κ k n (WD ε ad v f u g) (pc + 3) lv (.ref (ad 6) :: st)) : JW κ k n (WD ε ad v f u g) pc lv (.ref (ad 3) :: st) := j_get C hd 3 wl_3 inX1 rfl 2 (by decide) hw rfl rfl h
theorem g_3_chain (C : CX κ ε own cc nL ret fr lo mc ms) {ix : Nat} (hd : decode cc pc = .ok (.getfield ix, 3)) (hw : Cond.fieldLink own ix "RingDevices$Device" "chain" "LRingDevices$Chain;" ∈ TB) (h : JW κ k n (WD ε ad v f u g) (pc + 3) lv (.ref (ad 7) :: st)) : JW κ k n (WD ε ad v f u g) pc lv (.ref (ad 3) :: st) := j_get C hd 3 wl_3 inX1 rfl 3 (by decide) hw rfl rfl h
theorem g_3_sectors (C : CX κ ε own cc nL ret fr lo mc ms) {ix : Nat} (hd : decode cc pc = .ok (.getfield ix, 3)) (hw : Cond.fieldLink own ix "RingDevices$Device" "sectors" "LRingDevices$Disk;" ∈ TB) (h : JW κ k n (WD ε ad v f u g) (pc + 3) lv (.ref (ad 10) :: st)) : JW κ k n (WD ε ad v f u g) pc lv (.ref (ad 3) :: st) := j_get C hd 3 wl_3 inX1 rfl 4 (by decide) hw rfl rfl h
theorem g_3_line (C : CX κ ε own cc nL ret fr lo mc ms) {ix : Nat} (hd : decode cc pc = .ok (.getfield ix, 3)) (hw : Cond.fieldLink own ix "RingDevices$Device" "line" "LRingDevices$Wire;" ∈ TB) (h : JW κ k n (WD ε ad v f u g) (pc + 3) lv (.ref (ad 12) :: st)) : JW κ k n (WD ε ad v f u g) pc lv (.ref (ad 3) :: st) := j_get C hd 3 wl_3 inX1 rfl 5 (by decide) hw rfl rfl h
theorem g_3_state (C : CX κ ε own cc nL ret fr lo mc ms) {ix : Nat} {x : Int32} (hd : decode cc pc = .ok (.getfield ix, 3)) (hw : Cond.fieldLink own ix "RingDevices$Device" "state" "I" ∈ TB) (hv : v 0 = x) (h : JW κ k n (WD ε ad v f u g) (pc + 3) lv (.int x :: st)) : JW κ k n (WD ε ad v f u g) pc lv (.ref (ad 3) :: st) := by
  subst hv
  exact j_get C hd 3 wl_3 inX1 rfl 6 (by decide) hw rfl rfl h
theorem ws_3_state {x : Int32} : (WD ε ad v f u g).set 3 (ad 3, .inr (1, [.ref (ad 4), .ref (ad 5), .ref (ad 6), .ref (ad 7), .ref (ad 10), .ref (ad 12), .int (v 0), .int (v 1), .int (v 2), .int (v 3)].set 6 (.int x))) = WD ε ad (upd v 0 x) f u g := rfl
theorem p_3_state (C : CX κ ε own cc nL ret fr lo mc ms) {ix : Nat} {x : Int32} (hd : decode cc pc = .ok (.putfield ix, 3)) (hw : Cond.fieldLink own ix "RingDevices$Device" "state" "I" ∈ TB) (h : JW κ k n (WD ε ad (upd v 0 x) f u g) (pc + 3) lv st) : JW κ k n (WD ε ad v f u g) pc lv (.int x :: .ref (ad 3) :: st) := j_put C hd 3 wl_3 inX1 tyX1 tyX1_ok nmX1 rfl 6 (by decide) hw rfl rfl rfl rfl (Nat.le_of_ble_eq_true rfl) ws_3_state h
theorem g_3_tables (C : CX κ ε own cc nL ret fr lo mc ms) {ix : Nat} {x : Int32} (hd : decode cc pc = .ok (.getfield ix, 3)) (hw : Cond.fieldLink own ix "RingDevices$Device" "tables" "Z" ∈ TB) (hv : v 1 = x) (h : JW κ k n (WD ε ad v f u g) (pc + 3) lv (.int x :: st)) : JW κ k n (WD ε ad v f u g) pc lv (.ref (ad 3) :: st) := by
  subst hv
  exact j_get C hd 3 wl_3 inX1 rfl 7 (by decide) hw rfl rfl h
theorem ws_3_tables {x : Int32} : (WD ε ad v f u g).set 3 (ad 3, .inr (1, [.ref (ad 4), .ref (ad 5), .ref (ad 6), .ref (ad 7), .ref (ad 10), .ref (ad 12), .int (v 0), .int (v 1), .int (v 2), .int (v 3)].set 7 (.int x))) = WD ε ad (upd v 1 x) f u g := rfl
theorem p_3_tables (C : CX κ ε own cc nL ret fr lo mc ms) {ix : Nat} {x : Int32} (hd : decode cc pc = .ok (.putfield ix, 3)) (hw : Cond.fieldLink own ix "RingDevices$Device" "tables" "Z" ∈ TB) (hb : x = 0 ∨ x = 1) (h : JW κ k n (WD ε ad (upd v 1 x) f u g) (pc + 3) lv st) : JW κ k n (WD ε ad v f u g) pc lv (.int x :: .ref (ad 3) :: st) := j_put C hd 3 wl_3 inX1 tyX1 tyX1_ok nmX1 rfl 7 (by decide) hw rfl rfl (nb_b hb).1 (nb_b hb).2 (Nat.le_of_ble_eq_true rfl) ws_3_tables h
theorem g_3_came (C : CX κ ε own cc nL ret fr lo mc ms) {ix : Nat} {x : Int32} (hd : decode cc pc = .ok (.getfield ix, 3)) (hw : Cond.fieldLink own ix "RingDevices$Device" "came" "I" ∈ TB) (hv : v 2 = x) (h : JW κ k n (WD ε ad v f u g) (pc + 3) lv (.int x :: st)) : JW κ k n (WD ε ad v f u g) pc lv (.ref (ad 3) :: st) := by
  subst hv
  exact j_get C hd 3 wl_3 inX1 rfl 8 (by decide) hw rfl rfl h
theorem ws_3_came {x : Int32} : (WD ε ad v f u g).set 3 (ad 3, .inr (1, [.ref (ad 4), .ref (ad 5), .ref (ad 6), .ref (ad 7), .ref (ad 10), .ref (ad 12), .int (v 0), .int (v 1), .int (v 2), .int (v 3)].set 8 (.int x))) = WD ε ad (upd v 2 x) f u g := rfl
theorem p_3_came (C : CX κ ε own cc nL ret fr lo mc ms) {ix : Nat} {x : Int32} (hd : decode cc pc = .ok (.putfield ix, 3)) (hw : Cond.fieldLink own ix "RingDevices$Device" "came" "I" ∈ TB) (h : JW κ k n (WD ε ad (upd v 2 x) f u g) (pc + 3) lv st) : JW κ k n (WD ε ad v f u g) pc lv (.int x :: .ref (ad 3) :: st) := j_put C hd 3 wl_3 inX1 tyX1 tyX1_ok nmX1 rfl 8 (by decide) hw rfl rfl rfl rfl (Nat.le_of_ble_eq_true rfl) ws_3_came h
theorem g_3_dropped (C : CX κ ε own cc nL ret fr lo mc ms) {ix : Nat} {x : Int32} (hd : decode cc pc = .ok (.getfield ix, 3)) (hw : Cond.fieldLink own ix "RingDevices$Device" "dropped" "I" ∈ TB) (hv : v 3 = x) (h : JW κ k n (WD ε ad v f u g) (pc + 3) lv (.int x :: st)) : JW κ k n (WD ε ad v f u g) pc lv (.ref (ad 3) :: st) := by
  subst hv
  exact j_get C hd 3 wl_3 inX1 rfl 9 (by decide) hw rfl rfl h
theorem ws_3_dropped {x : Int32} : (WD ε ad v f u g).set 3 (ad 3, .inr (1, [.ref (ad 4), .ref (ad 5), .ref (ad 6), .ref (ad 7), .ref (ad 10), .ref (ad 12), .int (v 0), .int (v 1), .int (v 2), .int (v 3)].set 9 (.int x))) = WD ε ad (upd v 3 x) f u g := rfl
theorem p_3_dropped (C : CX κ ε own cc nL ret fr lo mc ms) {ix : Nat} {x : Int32} (hd : decode cc pc = .ok (.putfield ix, 3)) (hw : Cond.fieldLink own ix "RingDevices$Device" "dropped" "I" ∈ TB) (h : JW κ k n (WD ε ad (upd v 3 x) f u g) (pc + 3) lv st) : JW κ k n (WD ε ad v f u g) pc lv (.int x :: .ref (ad 3) :: st) := j_put C hd 3 wl_3 inX1 tyX1 tyX1_ok nmX1 rfl 9 (by decide) hw rfl rfl rfl rfl (Nat.le_of_ble_eq_true rfl) ws_3_dropped h
theorem g_4_memory (C : CX κ ε own cc nL ret fr lo mc ms) {ix : Nat} (hd : decode cc pc = .ok (.getfield ix, 3)) (hw : Cond.fieldLink own ix "RingDevices$Ring" "memory" "LRingDevices$Memory;" ∈ TB) (h : JW κ k n (WD ε ad v f u g) (pc + 3) lv (.ref (ad 1) :: st)) : JW κ k n (WD ε ad v f u g) pc lv (.ref (ad 4) :: st) := j_get C hd 4 wl_4 inX6 rfl 0 (by decide) hw rfl rfl h
theorem g_4_laid (C : CX κ ε own cc nL ret fr lo mc ms) {ix : Nat} {x : Int32} (hd : decode cc pc = .ok (.getfield ix, 3)) (hw : Cond.fieldLink own ix "RingDevices$Ring" "laid" "Z" ∈ TB) (hv : v 4 = x) (h : JW κ k n (WD ε ad v f u g) (pc + 3) lv (.int x :: st)) : JW κ k n (WD ε ad v f u g) pc lv (.ref (ad 4) :: st) := by
  subst hv
  exact j_get C hd 4 wl_4 inX6 rfl 1 (by decide) hw rfl rfl h
theorem ws_4_laid {x : Int32} : (WD ε ad v f u g).set 4 (ad 4, .inr (6, [.ref (ad 1), .int (v 4), .int (v 5), .int (v 6), .int (v 7), .int (v 8), .int (v 9), .int (v 10), .int (v 11)].set 1 (.int x))) = WD ε ad (upd v 4 x) f u g := rfl
theorem p_4_laid (C : CX κ ε own cc nL ret fr lo mc ms) {ix : Nat} {x : Int32} (hd : decode cc pc = .ok (.putfield ix, 3)) (hw : Cond.fieldLink own ix "RingDevices$Ring" "laid" "Z" ∈ TB) (hb : x = 0 ∨ x = 1) (h : JW κ k n (WD ε ad (upd v 4 x) f u g) (pc + 3) lv st) : JW κ k n (WD ε ad v f u g) pc lv (.int x :: .ref (ad 4) :: st) := j_put C hd 4 wl_4 inX6 tyX6 tyX6_ok nmX6 rfl 1 (by decide) hw rfl rfl (nb_b hb).1 (nb_b hb).2 (Nat.le_of_ble_eq_true rfl) ws_4_laid h
theorem g_4_size (C : CX κ ε own cc nL ret fr lo mc ms) {ix : Nat} {x : Int32} (hd : decode cc pc = .ok (.getfield ix, 3)) (hw : Cond.fieldLink own ix "RingDevices$Ring" "size" "I" ∈ TB) (hv : v 5 = x) (h : JW κ k n (WD ε ad v f u g) (pc + 3) lv (.int x :: st)) : JW κ k n (WD ε ad v f u g) pc lv (.ref (ad 4) :: st) := by
  subst hv
  exact j_get C hd 4 wl_4 inX6 rfl 2 (by decide) hw rfl rfl h
theorem ws_4_size {x : Int32} : (WD ε ad v f u g).set 4 (ad 4, .inr (6, [.ref (ad 1), .int (v 4), .int (v 5), .int (v 6), .int (v 7), .int (v 8), .int (v 9), .int (v 10), .int (v 11)].set 2 (.int x))) = WD ε ad (upd v 5 x) f u g := rfl
theorem p_4_size (C : CX κ ε own cc nL ret fr lo mc ms) {ix : Nat} {x : Int32} (hd : decode cc pc = .ok (.putfield ix, 3)) (hw : Cond.fieldLink own ix "RingDevices$Ring" "size" "I" ∈ TB) (h : JW κ k n (WD ε ad (upd v 5 x) f u g) (pc + 3) lv st) : JW κ k n (WD ε ad v f u g) pc lv (.int x :: .ref (ad 4) :: st) := j_put C hd 4 wl_4 inX6 tyX6 tyX6_ok nmX6 rfl 2 (by decide) hw rfl rfl rfl rfl (Nat.le_of_ble_eq_true rfl) ws_4_size h
theorem g_4_descriptors (C : CX κ ε own cc nL ret fr lo mc ms) {ix : Nat} {x : Int32} (hd : decode cc pc = .ok (.getfield ix, 3)) (hw : Cond.fieldLink own ix "RingDevices$Ring" "descriptors" "I" ∈ TB) (hv : v 6 = x) (h : JW κ k n (WD ε ad v f u g) (pc + 3) lv (.int x :: st)) : JW κ k n (WD ε ad v f u g) pc lv (.ref (ad 4) :: st) := by
  subst hv
  exact j_get C hd 4 wl_4 inX6 rfl 3 (by decide) hw rfl rfl h
theorem ws_4_descriptors {x : Int32} : (WD ε ad v f u g).set 4 (ad 4, .inr (6, [.ref (ad 1), .int (v 4), .int (v 5), .int (v 6), .int (v 7), .int (v 8), .int (v 9), .int (v 10), .int (v 11)].set 3 (.int x))) = WD ε ad (upd v 6 x) f u g := rfl
theorem p_4_descriptors (C : CX κ ε own cc nL ret fr lo mc ms) {ix : Nat} {x : Int32} (hd : decode cc pc = .ok (.putfield ix, 3)) (hw : Cond.fieldLink own ix "RingDevices$Ring" "descriptors" "I" ∈ TB) (h : JW κ k n (WD ε ad (upd v 6 x) f u g) (pc + 3) lv st) : JW κ k n (WD ε ad v f u g) pc lv (.int x :: .ref (ad 4) :: st) := j_put C hd 4 wl_4 inX6 tyX6 tyX6_ok nmX6 rfl 3 (by decide) hw rfl rfl rfl rfl (Nat.le_of_ble_eq_true rfl) ws_4_descriptors h
theorem g_4_available (C : CX κ ε own cc nL ret fr lo mc ms) {ix : Nat} {x : Int32} (hd : decode cc pc = .ok (.getfield ix, 3)) (hw : Cond.fieldLink own ix "RingDevices$Ring" "available" "I" ∈ TB) (hv : v 7 = x) (h : JW κ k n (WD ε ad v f u g) (pc + 3) lv (.int x :: st)) : JW κ k n (WD ε ad v f u g) pc lv (.ref (ad 4) :: st) := by
  subst hv
  exact j_get C hd 4 wl_4 inX6 rfl 4 (by decide) hw rfl rfl h
theorem ws_4_available {x : Int32} : (WD ε ad v f u g).set 4 (ad 4, .inr (6, [.ref (ad 1), .int (v 4), .int (v 5), .int (v 6), .int (v 7), .int (v 8), .int (v 9), .int (v 10), .int (v 11)].set 4 (.int x))) = WD ε ad (upd v 7 x) f u g := rfl
theorem p_4_available (C : CX κ ε own cc nL ret fr lo mc ms) {ix : Nat} {x : Int32} (hd : decode cc pc = .ok (.putfield ix, 3)) (hw : Cond.fieldLink own ix "RingDevices$Ring" "available" "I" ∈ TB) (h : JW κ k n (WD ε ad (upd v 7 x) f u g) (pc + 3) lv st) : JW κ k n (WD ε ad v f u g) pc lv (.int x :: .ref (ad 4) :: st) := j_put C hd 4 wl_4 inX6 tyX6 tyX6_ok nmX6 rfl 4 (by decide) hw rfl rfl rfl rfl (Nat.le_of_ble_eq_true rfl) ws_4_available h
theorem g_4_used (C : CX κ ε own cc nL ret fr lo mc ms) {ix : Nat} {x : Int32} (hd : decode cc pc = .ok (.getfield ix, 3)) (hw : Cond.fieldLink own ix "RingDevices$Ring" "used" "I" ∈ TB) (hv : v 8 = x) (h : JW κ k n (WD ε ad v f u g) (pc + 3) lv (.int x :: st)) : JW κ k n (WD ε ad v f u g) pc lv (.ref (ad 4) :: st) := by
  subst hv
  exact j_get C hd 4 wl_4 inX6 rfl 5 (by decide) hw rfl rfl h
theorem ws_4_used {x : Int32} : (WD ε ad v f u g).set 4 (ad 4, .inr (6, [.ref (ad 1), .int (v 4), .int (v 5), .int (v 6), .int (v 7), .int (v 8), .int (v 9), .int (v 10), .int (v 11)].set 5 (.int x))) = WD ε ad (upd v 8 x) f u g := rfl
theorem p_4_used (C : CX κ ε own cc nL ret fr lo mc ms) {ix : Nat} {x : Int32} (hd : decode cc pc = .ok (.putfield ix, 3)) (hw : Cond.fieldLink own ix "RingDevices$Ring" "used" "I" ∈ TB) (h : JW κ k n (WD ε ad (upd v 8 x) f u g) (pc + 3) lv st) : JW κ k n (WD ε ad v f u g) pc lv (.int x :: .ref (ad 4) :: st) := j_put C hd 4 wl_4 inX6 tyX6 tyX6_ok nmX6 rfl 5 (by decide) hw rfl rfl rfl rfl (Nat.le_of_ble_eq_true rfl) ws_4_used h
theorem g_4_taken (C : CX κ ε own cc nL ret fr lo mc ms) {ix : Nat} {x : Int32} (hd : decode cc pc = .ok (.getfield ix, 3)) (hw : Cond.fieldLink own ix "RingDevices$Ring" "taken" "I" ∈ TB) (hv : v 9 = x) (h : JW κ k n (WD ε ad v f u g) (pc + 3) lv (.int x :: st)) : JW κ k n (WD ε ad v f u g) pc lv (.ref (ad 4) :: st) := by
  subst hv
  exact j_get C hd 4 wl_4 inX6 rfl 6 (by decide) hw rfl rfl h
theorem ws_4_taken {x : Int32} : (WD ε ad v f u g).set 4 (ad 4, .inr (6, [.ref (ad 1), .int (v 4), .int (v 5), .int (v 6), .int (v 7), .int (v 8), .int (v 9), .int (v 10), .int (v 11)].set 6 (.int x))) = WD ε ad (upd v 9 x) f u g := rfl
theorem p_4_taken (C : CX κ ε own cc nL ret fr lo mc ms) {ix : Nat} {x : Int32} (hd : decode cc pc = .ok (.putfield ix, 3)) (hw : Cond.fieldLink own ix "RingDevices$Ring" "taken" "I" ∈ TB) (h : JW κ k n (WD ε ad (upd v 9 x) f u g) (pc + 3) lv st) : JW κ k n (WD ε ad v f u g) pc lv (.int x :: .ref (ad 4) :: st) := j_put C hd 4 wl_4 inX6 tyX6 tyX6_ok nmX6 rfl 6 (by decide) hw rfl rfl rfl rfl (Nat.le_of_ble_eq_true rfl) ws_4_taken h
theorem g_4_given (C : CX κ ε own cc nL ret fr lo mc ms) {ix : Nat} {x : Int32} (hd : decode cc pc = .ok (.getfield ix, 3)) (hw : Cond.fieldLink own ix "RingDevices$Ring" "given" "I" ∈ TB) (hv : v 10 = x) (h : JW κ k n (WD ε ad v f u g) (pc + 3) lv (.int x :: st)) : JW κ k n (WD ε ad v f u g) pc lv (.ref (ad 4) :: st) := by
  subst hv
  exact j_get C hd 4 wl_4 inX6 rfl 7 (by decide) hw rfl rfl h
theorem ws_4_given {x : Int32} : (WD ε ad v f u g).set 4 (ad 4, .inr (6, [.ref (ad 1), .int (v 4), .int (v 5), .int (v 6), .int (v 7), .int (v 8), .int (v 9), .int (v 10), .int (v 11)].set 7 (.int x))) = WD ε ad (upd v 10 x) f u g := rfl
theorem p_4_given (C : CX κ ε own cc nL ret fr lo mc ms) {ix : Nat} {x : Int32} (hd : decode cc pc = .ok (.putfield ix, 3)) (hw : Cond.fieldLink own ix "RingDevices$Ring" "given" "I" ∈ TB) (h : JW κ k n (WD ε ad (upd v 10 x) f u g) (pc + 3) lv st) : JW κ k n (WD ε ad v f u g) pc lv (.int x :: .ref (ad 4) :: st) := j_put C hd 4 wl_4 inX6 tyX6 tyX6_ok nmX6 rfl 7 (by decide) hw rfl rfl rfl rfl (Nat.le_of_ble_eq_true rfl) ws_4_given h
theorem g_4_signals (C : CX κ ε own cc nL ret fr lo mc ms) {ix : Nat} {x : Int32} (hd : decode cc pc = .ok (.getfield ix, 3)) (hw : Cond.fieldLink own ix "RingDevices$Ring" "signals" "I" ∈ TB) (hv : v 11 = x) (h : JW κ k n (WD ε ad v f u g) (pc + 3) lv (.int x :: st)) : JW κ k n (WD ε ad v f u g) pc lv (.ref (ad 4) :: st) := by
  subst hv
  exact j_get C hd 4 wl_4 inX6 rfl 8 (by decide) hw rfl rfl h
theorem ws_4_signals {x : Int32} : (WD ε ad v f u g).set 4 (ad 4, .inr (6, [.ref (ad 1), .int (v 4), .int (v 5), .int (v 6), .int (v 7), .int (v 8), .int (v 9), .int (v 10), .int (v 11)].set 8 (.int x))) = WD ε ad (upd v 11 x) f u g := rfl
theorem p_4_signals (C : CX κ ε own cc nL ret fr lo mc ms) {ix : Nat} {x : Int32} (hd : decode cc pc = .ok (.putfield ix, 3)) (hw : Cond.fieldLink own ix "RingDevices$Ring" "signals" "I" ∈ TB) (h : JW κ k n (WD ε ad (upd v 11 x) f u g) (pc + 3) lv st) : JW κ k n (WD ε ad v f u g) pc lv (.int x :: .ref (ad 4) :: st) := j_put C hd 4 wl_4 inX6 tyX6 tyX6_ok nmX6 rfl 8 (by decide) hw rfl rfl rfl rfl (Nat.le_of_ble_eq_true rfl) ws_4_signals h
theorem g_5_memory (C : CX κ ε own cc nL ret fr lo mc ms) {ix : Nat} (hd : decode cc pc = .ok (.getfield ix, 3)) (hw : Cond.fieldLink own ix "RingDevices$Ring" "memory" "LRingDevices$Memory;" ∈ TB) (h : JW κ k n (WD ε ad v f u g) (pc + 3) lv (.ref (ad 1) :: st)) : JW κ k n (WD ε ad v f u g) pc lv (.ref (ad 5) :: st) := j_get C hd 5 wl_5 inX6 rfl 0 (by decide) hw rfl rfl h
theorem g_5_laid (C : CX κ ε own cc nL ret fr lo mc ms) {ix : Nat} {x : Int32} (hd : decode cc pc = .ok (.getfield ix, 3)) (hw : Cond.fieldLink own ix "RingDevices$Ring" "laid" "Z" ∈ TB) (hv : v 12 = x) (h : JW κ k n (WD ε ad v f u g) (pc + 3) lv (.int x :: st)) : JW κ k n (WD ε ad v f u g) pc lv (.ref (ad 5) :: st) := by
  subst hv
  exact j_get C hd 5 wl_5 inX6 rfl 1 (by decide) hw rfl rfl h
theorem ws_5_laid {x : Int32} : (WD ε ad v f u g).set 5 (ad 5, .inr (6, [.ref (ad 1), .int (v 12), .int (v 13), .int (v 14), .int (v 15), .int (v 16), .int (v 17), .int (v 18), .int (v 19)].set 1 (.int x))) = WD ε ad (upd v 12 x) f u g := rfl
theorem p_5_laid (C : CX κ ε own cc nL ret fr lo mc ms) {ix : Nat} {x : Int32} (hd : decode cc pc = .ok (.putfield ix, 3)) (hw : Cond.fieldLink own ix "RingDevices$Ring" "laid" "Z" ∈ TB) (hb : x = 0 ∨ x = 1) (h : JW κ k n (WD ε ad (upd v 12 x) f u g) (pc + 3) lv st) : JW κ k n (WD ε ad v f u g) pc lv (.int x :: .ref (ad 5) :: st) := j_put C hd 5 wl_5 inX6 tyX6 tyX6_ok nmX6 rfl 1 (by decide) hw rfl rfl (nb_b hb).1 (nb_b hb).2 (Nat.le_of_ble_eq_true rfl) ws_5_laid h
theorem g_5_size (C : CX κ ε own cc nL ret fr lo mc ms) {ix : Nat} {x : Int32} (hd : decode cc pc = .ok (.getfield ix, 3)) (hw : Cond.fieldLink own ix "RingDevices$Ring" "size" "I" ∈ TB) (hv : v 13 = x) (h : JW κ k n (WD ε ad v f u g) (pc + 3) lv (.int x :: st)) : JW κ k n (WD ε ad v f u g) pc lv (.ref (ad 5) :: st) := by
  subst hv
  exact j_get C hd 5 wl_5 inX6 rfl 2 (by decide) hw rfl rfl h
theorem ws_5_size {x : Int32} : (WD ε ad v f u g).set 5 (ad 5, .inr (6, [.ref (ad 1), .int (v 12), .int (v 13), .int (v 14), .int (v 15), .int (v 16), .int (v 17), .int (v 18), .int (v 19)].set 2 (.int x))) = WD ε ad (upd v 13 x) f u g := rfl
theorem p_5_size (C : CX κ ε own cc nL ret fr lo mc ms) {ix : Nat} {x : Int32} (hd : decode cc pc = .ok (.putfield ix, 3)) (hw : Cond.fieldLink own ix "RingDevices$Ring" "size" "I" ∈ TB) (h : JW κ k n (WD ε ad (upd v 13 x) f u g) (pc + 3) lv st) : JW κ k n (WD ε ad v f u g) pc lv (.int x :: .ref (ad 5) :: st) := j_put C hd 5 wl_5 inX6 tyX6 tyX6_ok nmX6 rfl 2 (by decide) hw rfl rfl rfl rfl (Nat.le_of_ble_eq_true rfl) ws_5_size h
theorem g_5_descriptors (C : CX κ ε own cc nL ret fr lo mc ms) {ix : Nat} {x : Int32} (hd : decode cc pc = .ok (.getfield ix, 3)) (hw : Cond.fieldLink own ix "RingDevices$Ring" "descriptors" "I" ∈ TB) (hv : v 14 = x) (h : JW κ k n (WD ε ad v f u g) (pc + 3) lv (.int x :: st)) : JW κ k n (WD ε ad v f u g) pc lv (.ref (ad 5) :: st) := by
  subst hv
  exact j_get C hd 5 wl_5 inX6 rfl 3 (by decide) hw rfl rfl h
theorem ws_5_descriptors {x : Int32} : (WD ε ad v f u g).set 5 (ad 5, .inr (6, [.ref (ad 1), .int (v 12), .int (v 13), .int (v 14), .int (v 15), .int (v 16), .int (v 17), .int (v 18), .int (v 19)].set 3 (.int x))) = WD ε ad (upd v 14 x) f u g := rfl
theorem p_5_descriptors (C : CX κ ε own cc nL ret fr lo mc ms) {ix : Nat} {x : Int32} (hd : decode cc pc = .ok (.putfield ix, 3)) (hw : Cond.fieldLink own ix "RingDevices$Ring" "descriptors" "I" ∈ TB) (h : JW κ k n (WD ε ad (upd v 14 x) f u g) (pc + 3) lv st) : JW κ k n (WD ε ad v f u g) pc lv (.int x :: .ref (ad 5) :: st) := j_put C hd 5 wl_5 inX6 tyX6 tyX6_ok nmX6 rfl 3 (by decide) hw rfl rfl rfl rfl (Nat.le_of_ble_eq_true rfl) ws_5_descriptors h
theorem g_5_available (C : CX κ ε own cc nL ret fr lo mc ms) {ix : Nat} {x : Int32} (hd : decode cc pc = .ok (.getfield ix, 3)) (hw : Cond.fieldLink own ix "RingDevices$Ring" "available" "I" ∈ TB) (hv : v 15 = x) (h : JW κ k n (WD ε ad v f u g) (pc + 3) lv (.int x :: st)) : JW κ k n (WD ε ad v f u g) pc lv (.ref (ad 5) :: st) := by
  subst hv
  exact j_get C hd 5 wl_5 inX6 rfl 4 (by decide) hw rfl rfl h
theorem ws_5_available {x : Int32} : (WD ε ad v f u g).set 5 (ad 5, .inr (6, [.ref (ad 1), .int (v 12), .int (v 13), .int (v 14), .int (v 15), .int (v 16), .int (v 17), .int (v 18), .int (v 19)].set 4 (.int x))) = WD ε ad (upd v 15 x) f u g := rfl
theorem p_5_available (C : CX κ ε own cc nL ret fr lo mc ms) {ix : Nat} {x : Int32} (hd : decode cc pc = .ok (.putfield ix, 3)) (hw : Cond.fieldLink own ix "RingDevices$Ring" "available" "I" ∈ TB) (h : JW κ k n (WD ε ad (upd v 15 x) f u g) (pc + 3) lv st) : JW κ k n (WD ε ad v f u g) pc lv (.int x :: .ref (ad 5) :: st) := j_put C hd 5 wl_5 inX6 tyX6 tyX6_ok nmX6 rfl 4 (by decide) hw rfl rfl rfl rfl (Nat.le_of_ble_eq_true rfl) ws_5_available h
theorem g_5_used (C : CX κ ε own cc nL ret fr lo mc ms) {ix : Nat} {x : Int32} (hd : decode cc pc = .ok (.getfield ix, 3)) (hw : Cond.fieldLink own ix "RingDevices$Ring" "used" "I" ∈ TB) (hv : v 16 = x) (h : JW κ k n (WD ε ad v f u g) (pc + 3) lv (.int x :: st)) : JW κ k n (WD ε ad v f u g) pc lv (.ref (ad 5) :: st) := by
  subst hv
  exact j_get C hd 5 wl_5 inX6 rfl 5 (by decide) hw rfl rfl h
theorem ws_5_used {x : Int32} : (WD ε ad v f u g).set 5 (ad 5, .inr (6, [.ref (ad 1), .int (v 12), .int (v 13), .int (v 14), .int (v 15), .int (v 16), .int (v 17), .int (v 18), .int (v 19)].set 5 (.int x))) = WD ε ad (upd v 16 x) f u g := rfl
theorem p_5_used (C : CX κ ε own cc nL ret fr lo mc ms) {ix : Nat} {x : Int32} (hd : decode cc pc = .ok (.putfield ix, 3)) (hw : Cond.fieldLink own ix "RingDevices$Ring" "used" "I" ∈ TB) (h : JW κ k n (WD ε ad (upd v 16 x) f u g) (pc + 3) lv st) : JW κ k n (WD ε ad v f u g) pc lv (.int x :: .ref (ad 5) :: st) := j_put C hd 5 wl_5 inX6 tyX6 tyX6_ok nmX6 rfl 5 (by decide) hw rfl rfl rfl rfl (Nat.le_of_ble_eq_true rfl) ws_5_used h
theorem g_5_taken (C : CX κ ε own cc nL ret fr lo mc ms) {ix : Nat} {x : Int32} (hd : decode cc pc = .ok (.getfield ix, 3)) (hw : Cond.fieldLink own ix "RingDevices$Ring" "taken" "I" ∈ TB) (hv : v 17 = x) (h : JW κ k n (WD ε ad v f u g) (pc + 3) lv (.int x :: st)) : JW κ k n (WD ε ad v f u g) pc lv (.ref (ad 5) :: st) := by
  subst hv
  exact j_get C hd 5 wl_5 inX6 rfl 6 (by decide) hw rfl rfl h
theorem ws_5_taken {x : Int32} : (WD ε ad v f u g).set 5 (ad 5, .inr (6, [.ref (ad 1), .int (v 12), .int (v 13), .int (v 14), .int (v 15), .int (v 16), .int (v 17), .int (v 18), .int (v 19)].set 6 (.int x))) = WD ε ad (upd v 17 x) f u g := rfl
theorem p_5_taken (C : CX κ ε own cc nL ret fr lo mc ms) {ix : Nat} {x : Int32} (hd : decode cc pc = .ok (.putfield ix, 3)) (hw : Cond.fieldLink own ix "RingDevices$Ring" "taken" "I" ∈ TB) (h : JW κ k n (WD ε ad (upd v 17 x) f u g) (pc + 3) lv st) : JW κ k n (WD ε ad v f u g) pc lv (.int x :: .ref (ad 5) :: st) := j_put C hd 5 wl_5 inX6 tyX6 tyX6_ok nmX6 rfl 6 (by decide) hw rfl rfl rfl rfl (Nat.le_of_ble_eq_true rfl) ws_5_taken h
theorem g_5_given (C : CX κ ε own cc nL ret fr lo mc ms) {ix : Nat} {x : Int32} (hd : decode cc pc = .ok (.getfield ix, 3)) (hw : Cond.fieldLink own ix "RingDevices$Ring" "given" "I" ∈ TB) (hv : v 18 = x) (h : JW κ k n (WD ε ad v f u g) (pc + 3) lv (.int x :: st)) : JW κ k n (WD ε ad v f u g) pc lv (.ref (ad 5) :: st) := by
  subst hv
  exact j_get C hd 5 wl_5 inX6 rfl 7 (by decide) hw rfl rfl h
theorem ws_5_given {x : Int32} : (WD ε ad v f u g).set 5 (ad 5, .inr (6, [.ref (ad 1), .int (v 12), .int (v 13), .int (v 14), .int (v 15), .int (v 16), .int (v 17), .int (v 18), .int (v 19)].set 7 (.int x))) = WD ε ad (upd v 18 x) f u g := rfl
theorem p_5_given (C : CX κ ε own cc nL ret fr lo mc ms) {ix : Nat} {x : Int32} (hd : decode cc pc = .ok (.putfield ix, 3)) (hw : Cond.fieldLink own ix "RingDevices$Ring" "given" "I" ∈ TB) (h : JW κ k n (WD ε ad (upd v 18 x) f u g) (pc + 3) lv st) : JW κ k n (WD ε ad v f u g) pc lv (.int x :: .ref (ad 5) :: st) := j_put C hd 5 wl_5 inX6 tyX6 tyX6_ok nmX6 rfl 7 (by decide) hw rfl rfl rfl rfl (Nat.le_of_ble_eq_true rfl) ws_5_given h
theorem g_5_signals (C : CX κ ε own cc nL ret fr lo mc ms) {ix : Nat} {x : Int32} (hd : decode cc pc = .ok (.getfield ix, 3)) (hw : Cond.fieldLink own ix "RingDevices$Ring" "signals" "I" ∈ TB) (hv : v 19 = x) (h : JW κ k n (WD ε ad v f u g) (pc + 3) lv (.int x :: st)) : JW κ k n (WD ε ad v f u g) pc lv (.ref (ad 5) :: st) := by
  subst hv
  exact j_get C hd 5 wl_5 inX6 rfl 8 (by decide) hw rfl rfl h
theorem ws_5_signals {x : Int32} : (WD ε ad v f u g).set 5 (ad 5, .inr (6, [.ref (ad 1), .int (v 12), .int (v 13), .int (v 14), .int (v 15), .int (v 16), .int (v 17), .int (v 18), .int (v 19)].set 8 (.int x))) = WD ε ad (upd v 19 x) f u g := rfl
theorem p_5_signals (C : CX κ ε own cc nL ret fr lo mc ms) {ix : Nat} {x : Int32} (hd : decode cc pc = .ok (.putfield ix, 3)) (hw : Cond.fieldLink own ix "RingDevices$Ring" "signals" "I" ∈ TB) (h : JW κ k n (WD ε ad (upd v 19 x) f u g) (pc + 3) lv st) : JW κ k n (WD ε ad v f u g) pc lv (.int x :: .ref (ad 5) :: st) := j_put C hd 5 wl_5 inX6 tyX6 tyX6_ok nmX6 rfl 8 (by decide) hw rfl rfl rfl rfl (Nat.le_of_ble_eq_true rfl) ws_5_signals h
theorem g_6_memory (C : CX κ ε own cc nL ret fr lo mc ms) {ix : Nat} (hd : decode cc pc = .ok (.getfield ix, 3)) (hw : Cond.fieldLink own ix "RingDevices$Ring" "memory" "LRingDevices$Memory;" ∈ TB) (h : JW κ k n (WD ε ad v f u g) (pc + 3) lv (.ref (ad 1) :: st)) : JW κ k n (WD ε ad v f u g) pc lv (.ref (ad 6) :: st) := j_get C hd 6 wl_6 inX6 rfl 0 (by decide) hw rfl rfl h
theorem g_6_laid (C : CX κ ε own cc nL ret fr lo mc ms) {ix : Nat} {x : Int32} (hd : decode cc pc = .ok (.getfield ix, 3)) (hw : Cond.fieldLink own ix "RingDevices$Ring" "laid" "Z" ∈ TB) (hv : v 20 = x) (h : JW κ k n (WD ε ad v f u g) (pc + 3) lv (.int x :: st)) : JW κ k n (WD ε ad v f u g) pc lv (.ref (ad 6) :: st) := by
  subst hv
  exact j_get C hd 6 wl_6 inX6 rfl 1 (by decide) hw rfl rfl h
theorem ws_6_laid {x : Int32} : (WD ε ad v f u g).set 6 (ad 6, .inr (6, [.ref (ad 1), .int (v 20), .int (v 21), .int (v 22), .int (v 23), .int (v 24), .int (v 25), .int (v 26), .int (v 27)].set 1 (.int x))) = WD ε ad (upd v 20 x) f u g := rfl
theorem p_6_laid (C : CX κ ε own cc nL ret fr lo mc ms) {ix : Nat} {x : Int32} (hd : decode cc pc = .ok (.putfield ix, 3)) (hw : Cond.fieldLink own ix "RingDevices$Ring" "laid" "Z" ∈ TB) (hb : x = 0 ∨ x = 1) (h : JW κ k n (WD ε ad (upd v 20 x) f u g) (pc + 3) lv st) : JW κ k n (WD ε ad v f u g) pc lv (.int x :: .ref (ad 6) :: st) := j_put C hd 6 wl_6 inX6 tyX6 tyX6_ok nmX6 rfl 1 (by decide) hw rfl rfl (nb_b hb).1 (nb_b hb).2 (Nat.le_of_ble_eq_true rfl) ws_6_laid h
theorem g_6_size (C : CX κ ε own cc nL ret fr lo mc ms) {ix : Nat} {x : Int32} (hd : decode cc pc = .ok (.getfield ix, 3)) (hw : Cond.fieldLink own ix "RingDevices$Ring" "size" "I" ∈ TB) (hv : v 21 = x) (h : JW κ k n (WD ε ad v f u g) (pc + 3) lv (.int x :: st)) : JW κ k n (WD ε ad v f u g) pc lv (.ref (ad 6) :: st) := by
  subst hv
  exact j_get C hd 6 wl_6 inX6 rfl 2 (by decide) hw rfl rfl h
theorem ws_6_size {x : Int32} : (WD ε ad v f u g).set 6 (ad 6, .inr (6, [.ref (ad 1), .int (v 20), .int (v 21), .int (v 22), .int (v 23), .int (v 24), .int (v 25), .int (v 26), .int (v 27)].set 2 (.int x))) = WD ε ad (upd v 21 x) f u g := rfl
theorem p_6_size (C : CX κ ε own cc nL ret fr lo mc ms) {ix : Nat} {x : Int32} (hd : decode cc pc = .ok (.putfield ix, 3)) (hw : Cond.fieldLink own ix "RingDevices$Ring" "size" "I" ∈ TB) (h : JW κ k n (WD ε ad (upd v 21 x) f u g) (pc + 3) lv st) : JW κ k n (WD ε ad v f u g) pc lv (.int x :: .ref (ad 6) :: st) := j_put C hd 6 wl_6 inX6 tyX6 tyX6_ok nmX6 rfl 2 (by decide) hw rfl rfl rfl rfl (Nat.le_of_ble_eq_true rfl) ws_6_size h
theorem g_6_descriptors (C : CX κ ε own cc nL ret fr lo mc ms) {ix : Nat} {x : Int32} (hd : decode cc pc = .ok (.getfield ix, 3)) (hw : Cond.fieldLink own ix "RingDevices$Ring" "descriptors" "I" ∈ TB) (hv : v 22 = x) (h : JW κ k n (WD ε ad v f u g) (pc + 3) lv (.int x :: st)) : JW κ k n (WD ε ad v f u g) pc lv (.ref (ad 6) :: st) := by
  subst hv
  exact j_get C hd 6 wl_6 inX6 rfl 3 (by decide) hw rfl rfl h
theorem ws_6_descriptors {x : Int32} : (WD ε ad v f u g).set 6 (ad 6, .inr (6, [.ref (ad 1), .int (v 20), .int (v 21), .int (v 22), .int (v 23), .int (v 24), .int (v 25), .int (v 26), .int (v 27)].set 3 (.int x))) = WD ε ad (upd v 22 x) f u g := rfl
theorem p_6_descriptors (C : CX κ ε own cc nL ret fr lo mc ms) {ix : Nat} {x : Int32} (hd : decode cc pc = .ok (.putfield ix, 3)) (hw : Cond.fieldLink own ix "RingDevices$Ring" "descriptors" "I" ∈ TB) (h : JW κ k n (WD ε ad (upd v 22 x) f u g) (pc + 3) lv st) : JW κ k n (WD ε ad v f u g) pc lv (.int x :: .ref (ad 6) :: st) := j_put C hd 6 wl_6 inX6 tyX6 tyX6_ok nmX6 rfl 3 (by decide) hw rfl rfl rfl rfl (Nat.le_of_ble_eq_true rfl) ws_6_descriptors h
theorem g_6_available (C : CX κ ε own cc nL ret fr lo mc ms) {ix : Nat} {x : Int32} (hd : decode cc pc = .ok (.getfield ix, 3)) (hw : Cond.fieldLink own ix "RingDevices$Ring" "available" "I" ∈ TB) (hv : v 23 = x) (h : JW κ k n (WD ε ad v f u g) (pc + 3) lv (.int x :: st)) : JW κ k n (WD ε ad v f u g) pc lv (.ref (ad 6) :: st) := by
  subst hv
  exact j_get C hd 6 wl_6 inX6 rfl 4 (by decide) hw rfl rfl h
theorem ws_6_available {x : Int32} : (WD ε ad v f u g).set 6 (ad 6, .inr (6, [.ref (ad 1), .int (v 20), .int (v 21), .int (v 22), .int (v 23), .int (v 24), .int (v 25), .int (v 26), .int (v 27)].set 4 (.int x))) = WD ε ad (upd v 23 x) f u g := rfl
theorem p_6_available (C : CX κ ε own cc nL ret fr lo mc ms) {ix : Nat} {x : Int32} (hd : decode cc pc = .ok (.putfield ix, 3)) (hw : Cond.fieldLink own ix "RingDevices$Ring" "available" "I" ∈ TB) (h : JW κ k n (WD ε ad (upd v 23 x) f u g) (pc + 3) lv st) : JW κ k n (WD ε ad v f u g) pc lv (.int x :: .ref (ad 6) :: st) := j_put C hd 6 wl_6 inX6 tyX6 tyX6_ok nmX6 rfl 4 (by decide) hw rfl rfl rfl rfl (Nat.le_of_ble_eq_true rfl) ws_6_available h
theorem g_6_used (C : CX κ ε own cc nL ret fr lo mc ms) {ix : Nat} {x : Int32} (hd : decode cc pc = .ok (.getfield ix, 3)) (hw : Cond.fieldLink own ix "RingDevices$Ring" "used" "I" ∈ TB) (hv : v 24 = x) (h : JW κ k n (WD ε ad v f u g) (pc + 3) lv (.int x :: st)) : JW κ k n (WD ε ad v f u g) pc lv (.ref (ad 6) :: st) := by
  subst hv
  exact j_get C hd 6 wl_6 inX6 rfl 5 (by decide) hw rfl rfl h
theorem ws_6_used {x : Int32} : (WD ε ad v f u g).set 6 (ad 6, .inr (6, [.ref (ad 1), .int (v 20), .int (v 21), .int (v 22), .int (v 23), .int (v 24), .int (v 25), .int (v 26), .int (v 27)].set 5 (.int x))) = WD ε ad (upd v 24 x) f u g := rfl
theorem p_6_used (C : CX κ ε own cc nL ret fr lo mc ms) {ix : Nat} {x : Int32} (hd : decode cc pc = .ok (.putfield ix, 3)) (hw : Cond.fieldLink own ix "RingDevices$Ring" "used" "I" ∈ TB) (h : JW κ k n (WD ε ad (upd v 24 x) f u g) (pc + 3) lv st) : JW κ k n (WD ε ad v f u g) pc lv (.int x :: .ref (ad 6) :: st) := j_put C hd 6 wl_6 inX6 tyX6 tyX6_ok nmX6 rfl 5 (by decide) hw rfl rfl rfl rfl (Nat.le_of_ble_eq_true rfl) ws_6_used h
theorem g_6_taken (C : CX κ ε own cc nL ret fr lo mc ms) {ix : Nat} {x : Int32} (hd : decode cc pc = .ok (.getfield ix, 3)) (hw : Cond.fieldLink own ix "RingDevices$Ring" "taken" "I" ∈ TB) (hv : v 25 = x) (h : JW κ k n (WD ε ad v f u g) (pc + 3) lv (.int x :: st)) : JW κ k n (WD ε ad v f u g) pc lv (.ref (ad 6) :: st) := by
  subst hv
  exact j_get C hd 6 wl_6 inX6 rfl 6 (by decide) hw rfl rfl h
theorem ws_6_taken {x : Int32} : (WD ε ad v f u g).set 6 (ad 6, .inr (6, [.ref (ad 1), .int (v 20), .int (v 21), .int (v 22), .int (v 23), .int (v 24), .int (v 25), .int (v 26), .int (v 27)].set 6 (.int x))) = WD ε ad (upd v 25 x) f u g := rfl
theorem p_6_taken (C : CX κ ε own cc nL ret fr lo mc ms) {ix : Nat} {x : Int32} (hd : decode cc pc = .ok (.putfield ix, 3)) (hw : Cond.fieldLink own ix "RingDevices$Ring" "taken" "I" ∈ TB) (h : JW κ k n (WD ε ad (upd v 25 x) f u g) (pc + 3) lv st) : JW κ k n (WD ε ad v f u g) pc lv (.int x :: .ref (ad 6) :: st) := j_put C hd 6 wl_6 inX6 tyX6 tyX6_ok nmX6 rfl 6 (by decide) hw rfl rfl rfl rfl (Nat.le_of_ble_eq_true rfl) ws_6_taken h
theorem g_6_given (C : CX κ ε own cc nL ret fr lo mc ms) {ix : Nat} {x : Int32} (hd : decode cc pc = .ok (.getfield ix, 3)) (hw : Cond.fieldLink own ix "RingDevices$Ring" "given" "I" ∈ TB) (hv : v 26 = x) (h : JW κ k n (WD ε ad v f u g) (pc + 3) lv (.int x :: st)) : JW κ k n (WD ε ad v f u g) pc lv (.ref (ad 6) :: st) := by
  subst hv
  exact j_get C hd 6 wl_6 inX6 rfl 7 (by decide) hw rfl rfl h
theorem ws_6_given {x : Int32} : (WD ε ad v f u g).set 6 (ad 6, .inr (6, [.ref (ad 1), .int (v 20), .int (v 21), .int (v 22), .int (v 23), .int (v 24), .int (v 25), .int (v 26), .int (v 27)].set 7 (.int x))) = WD ε ad (upd v 26 x) f u g := rfl
theorem p_6_given (C : CX κ ε own cc nL ret fr lo mc ms) {ix : Nat} {x : Int32} (hd : decode cc pc = .ok (.putfield ix, 3)) (hw : Cond.fieldLink own ix "RingDevices$Ring" "given" "I" ∈ TB) (h : JW κ k n (WD ε ad (upd v 26 x) f u g) (pc + 3) lv st) : JW κ k n (WD ε ad v f u g) pc lv (.int x :: .ref (ad 6) :: st) := j_put C hd 6 wl_6 inX6 tyX6 tyX6_ok nmX6 rfl 7 (by decide) hw rfl rfl rfl rfl (Nat.le_of_ble_eq_true rfl) ws_6_given h
theorem g_6_signals (C : CX κ ε own cc nL ret fr lo mc ms) {ix : Nat} {x : Int32} (hd : decode cc pc = .ok (.getfield ix, 3)) (hw : Cond.fieldLink own ix "RingDevices$Ring" "signals" "I" ∈ TB) (hv : v 27 = x) (h : JW κ k n (WD ε ad v f u g) (pc + 3) lv (.int x :: st)) : JW κ k n (WD ε ad v f u g) pc lv (.ref (ad 6) :: st) := by
  subst hv
  exact j_get C hd 6 wl_6 inX6 rfl 8 (by decide) hw rfl rfl h
theorem ws_6_signals {x : Int32} : (WD ε ad v f u g).set 6 (ad 6, .inr (6, [.ref (ad 1), .int (v 20), .int (v 21), .int (v 22), .int (v 23), .int (v 24), .int (v 25), .int (v 26), .int (v 27)].set 8 (.int x))) = WD ε ad (upd v 27 x) f u g := rfl
theorem p_6_signals (C : CX κ ε own cc nL ret fr lo mc ms) {ix : Nat} {x : Int32} (hd : decode cc pc = .ok (.putfield ix, 3)) (hw : Cond.fieldLink own ix "RingDevices$Ring" "signals" "I" ∈ TB) (h : JW κ k n (WD ε ad (upd v 27 x) f u g) (pc + 3) lv st) : JW κ k n (WD ε ad v f u g) pc lv (.int x :: .ref (ad 6) :: st) := j_put C hd 6 wl_6 inX6 tyX6 tyX6_ok nmX6 rfl 8 (by decide) hw rfl rfl rfl rfl (Nat.le_of_ble_eq_true rfl) ws_6_signals h
theorem g_7_memory (C : CX κ ε own cc nL ret fr lo mc ms) {ix : Nat} (hd : decode cc pc = .ok (.getfield ix, 3)) (hw : Cond.fieldLink own ix "RingDevices$Chain" "memory" "LRingDevices$Memory;" ∈ TB) (h : JW κ k n (WD ε ad v f u g) (pc + 3) lv (.ref (ad 1) :: st)) : JW κ k n (WD ε ad v f u g) pc lv (.ref (ad 7) :: st) := j_get C hd 7 wl_7 inX0 rfl 0 (by decide) hw rfl rfl h
theorem g_7_addresses (C : CX κ ε own cc nL ret fr lo mc ms) {ix : Nat} (hd : decode cc pc = .ok (.getfield ix, 3)) (hw : Cond.fieldLink own ix "RingDevices$Chain" "addresses" "[I" ∈ TB) (h : JW κ k n (WD ε ad v f u g) (pc + 3) lv (.ref (ad 8) :: st)) : JW κ k n (WD ε ad v f u g) pc lv (.ref (ad 7) :: st) := j_get C hd 7 wl_7 inX0 rfl 1 (by decide) hw rfl rfl h
theorem g_7_lengths (C : CX κ ε own cc nL ret fr lo mc ms) {ix : Nat} (hd : decode cc pc = .ok (.getfield ix, 3)) (hw : Cond.fieldLink own ix "RingDevices$Chain" "lengths" "[I" ∈ TB) (h : JW κ k n (WD ε ad v f u g) (pc + 3) lv (.ref (ad 9) :: st)) : JW κ k n (WD ε ad v f u g) pc lv (.ref (ad 7) :: st) := j_get C hd 7 wl_7 inX0 rfl 2 (by decide) hw rfl rfl h
theorem g_7_parts (C : CX κ ε own cc nL ret fr lo mc ms) {ix : Nat} {x : Int32} (hd : decode cc pc = .ok (.getfield ix, 3)) (hw : Cond.fieldLink own ix "RingDevices$Chain" "parts" "I" ∈ TB) (hv : v 28 = x) (h : JW κ k n (WD ε ad v f u g) (pc + 3) lv (.int x :: st)) : JW κ k n (WD ε ad v f u g) pc lv (.ref (ad 7) :: st) := by
  subst hv
  exact j_get C hd 7 wl_7 inX0 rfl 3 (by decide) hw rfl rfl h
theorem ws_7_parts {x : Int32} : (WD ε ad v f u g).set 7 (ad 7, .inr (0, [.ref (ad 1), .ref (ad 8), .ref (ad 9), .int (v 28), .int (v 29), .int (v 30), .int (v 31), .int (v 32), .int (v 33), .int (v 34), .int (v 35), .int (v 36)].set 3 (.int x))) = WD ε ad (upd v 28 x) f u g := rfl
theorem p_7_parts (C : CX κ ε own cc nL ret fr lo mc ms) {ix : Nat} {x : Int32} (hd : decode cc pc = .ok (.putfield ix, 3)) (hw : Cond.fieldLink own ix "RingDevices$Chain" "parts" "I" ∈ TB) (h : JW κ k n (WD ε ad (upd v 28 x) f u g) (pc + 3) lv st) : JW κ k n (WD ε ad v f u g) pc lv (.int x :: .ref (ad 7) :: st) := j_put C hd 7 wl_7 inX0 tyX0 tyX0_ok nmX0 rfl 3 (by decide) hw rfl rfl rfl rfl (Nat.le_of_ble_eq_true rfl) ws_7_parts h
theorem g_7_readParts (C : CX κ ε own cc nL ret fr lo mc ms) {ix : Nat} {x : Int32} (hd : decode cc pc = .ok (.getfield ix, 3)) (hw : Cond.fieldLink own ix "RingDevices$Chain" "readParts" "I" ∈ TB) (hv : v 29 = x) (h : JW κ k n (WD ε ad v f u g) (pc + 3) lv (.int x :: st)) : JW κ k n (WD ε ad v f u g) pc lv (.ref (ad 7) :: st) := by
  subst hv
  exact j_get C hd 7 wl_7 inX0 rfl 4 (by decide) hw rfl rfl h
theorem ws_7_readParts {x : Int32} : (WD ε ad v f u g).set 7 (ad 7, .inr (0, [.ref (ad 1), .ref (ad 8), .ref (ad 9), .int (v 28), .int (v 29), .int (v 30), .int (v 31), .int (v 32), .int (v 33), .int (v 34), .int (v 35), .int (v 36)].set 4 (.int x))) = WD ε ad (upd v 29 x) f u g := rfl
theorem p_7_readParts (C : CX κ ε own cc nL ret fr lo mc ms) {ix : Nat} {x : Int32} (hd : decode cc pc = .ok (.putfield ix, 3)) (hw : Cond.fieldLink own ix "RingDevices$Chain" "readParts" "I" ∈ TB) (h : JW κ k n (WD ε ad (upd v 29 x) f u g) (pc + 3) lv st) : JW κ k n (WD ε ad v f u g) pc lv (.int x :: .ref (ad 7) :: st) := j_put C hd 7 wl_7 inX0 tyX0 tyX0_ok nmX0 rfl 4 (by decide) hw rfl rfl rfl rfl (Nat.le_of_ble_eq_true rfl) ws_7_readParts h
theorem g_7_part (C : CX κ ε own cc nL ret fr lo mc ms) {ix : Nat} {x : Int32} (hd : decode cc pc = .ok (.getfield ix, 3)) (hw : Cond.fieldLink own ix "RingDevices$Chain" "part" "I" ∈ TB) (hv : v 30 = x) (h : JW κ k n (WD ε ad v f u g) (pc + 3) lv (.int x :: st)) : JW κ k n (WD ε ad v f u g) pc lv (.ref (ad 7) :: st) := by
  subst hv
  exact j_get C hd 7 wl_7 inX0 rfl 5 (by decide) hw rfl rfl h
theorem ws_7_part {x : Int32} : (WD ε ad v f u g).set 7 (ad 7, .inr (0, [.ref (ad 1), .ref (ad 8), .ref (ad 9), .int (v 28), .int (v 29), .int (v 30), .int (v 31), .int (v 32), .int (v 33), .int (v 34), .int (v 35), .int (v 36)].set 5 (.int x))) = WD ε ad (upd v 30 x) f u g := rfl
theorem p_7_part (C : CX κ ε own cc nL ret fr lo mc ms) {ix : Nat} {x : Int32} (hd : decode cc pc = .ok (.putfield ix, 3)) (hw : Cond.fieldLink own ix "RingDevices$Chain" "part" "I" ∈ TB) (h : JW κ k n (WD ε ad (upd v 30 x) f u g) (pc + 3) lv st) : JW κ k n (WD ε ad v f u g) pc lv (.int x :: .ref (ad 7) :: st) := j_put C hd 7 wl_7 inX0 tyX0 tyX0_ok nmX0 rfl 5 (by decide) hw rfl rfl rfl rfl (Nat.le_of_ble_eq_true rfl) ws_7_part h
theorem g_7_end (C : CX κ ε own cc nL ret fr lo mc ms) {ix : Nat} {x : Int32} (hd : decode cc pc = .ok (.getfield ix, 3)) (hw : Cond.fieldLink own ix "RingDevices$Chain" "end" "I" ∈ TB) (hv : v 31 = x) (h : JW κ k n (WD ε ad v f u g) (pc + 3) lv (.int x :: st)) : JW κ k n (WD ε ad v f u g) pc lv (.ref (ad 7) :: st) := by
  subst hv
  exact j_get C hd 7 wl_7 inX0 rfl 6 (by decide) hw rfl rfl h
theorem ws_7_end {x : Int32} : (WD ε ad v f u g).set 7 (ad 7, .inr (0, [.ref (ad 1), .ref (ad 8), .ref (ad 9), .int (v 28), .int (v 29), .int (v 30), .int (v 31), .int (v 32), .int (v 33), .int (v 34), .int (v 35), .int (v 36)].set 6 (.int x))) = WD ε ad (upd v 31 x) f u g := rfl
theorem p_7_end (C : CX κ ε own cc nL ret fr lo mc ms) {ix : Nat} {x : Int32} (hd : decode cc pc = .ok (.putfield ix, 3)) (hw : Cond.fieldLink own ix "RingDevices$Chain" "end" "I" ∈ TB) (h : JW κ k n (WD ε ad (upd v 31 x) f u g) (pc + 3) lv st) : JW κ k n (WD ε ad v f u g) pc lv (.int x :: .ref (ad 7) :: st) := j_put C hd 7 wl_7 inX0 tyX0 tyX0_ok nmX0 rfl 6 (by decide) hw rfl rfl rfl rfl (Nat.le_of_ble_eq_true rfl) ws_7_end h
theorem g_7_offset (C : CX κ ε own cc nL ret fr lo mc ms) {ix : Nat} {x : Int32} (hd : decode cc pc = .ok (.getfield ix, 3)) (hw : Cond.fieldLink own ix "RingDevices$Chain" "offset" "I" ∈ TB) (hv : v 32 = x) (h : JW κ k n (WD ε ad v f u g) (pc + 3) lv (.int x :: st)) : JW κ k n (WD ε ad v f u g) pc lv (.ref (ad 7) :: st) := by
  subst hv
  exact j_get C hd 7 wl_7 inX0 rfl 7 (by decide) hw rfl rfl h
theorem ws_7_offset {x : Int32} : (WD ε ad v f u g).set 7 (ad 7, .inr (0, [.ref (ad 1), .ref (ad 8), .ref (ad 9), .int (v 28), .int (v 29), .int (v 30), .int (v 31), .int (v 32), .int (v 33), .int (v 34), .int (v 35), .int (v 36)].set 7 (.int x))) = WD ε ad (upd v 32 x) f u g := rfl
theorem p_7_offset (C : CX κ ε own cc nL ret fr lo mc ms) {ix : Nat} {x : Int32} (hd : decode cc pc = .ok (.putfield ix, 3)) (hw : Cond.fieldLink own ix "RingDevices$Chain" "offset" "I" ∈ TB) (h : JW κ k n (WD ε ad (upd v 32 x) f u g) (pc + 3) lv st) : JW κ k n (WD ε ad v f u g) pc lv (.int x :: .ref (ad 7) :: st) := j_put C hd 7 wl_7 inX0 tyX0 tyX0_ok nmX0 rfl 7 (by decide) hw rfl rfl rfl rfl (Nat.le_of_ble_eq_true rfl) ws_7_offset h
theorem g_7_lastPlace (C : CX κ ε own cc nL ret fr lo mc ms) {ix : Nat} {x : Int32} (hd : decode cc pc = .ok (.getfield ix, 3)) (hw : Cond.fieldLink own ix "RingDevices$Chain" "lastPlace" "I" ∈ TB) (hv : v 33 = x) (h : JW κ k n (WD ε ad v f u g) (pc + 3) lv (.int x :: st)) : JW κ k n (WD ε ad v f u g) pc lv (.ref (ad 7) :: st) := by
  subst hv
  exact j_get C hd 7 wl_7 inX0 rfl 8 (by decide) hw rfl rfl h
theorem ws_7_lastPlace {x : Int32} : (WD ε ad v f u g).set 7 (ad 7, .inr (0, [.ref (ad 1), .ref (ad 8), .ref (ad 9), .int (v 28), .int (v 29), .int (v 30), .int (v 31), .int (v 32), .int (v 33), .int (v 34), .int (v 35), .int (v 36)].set 8 (.int x))) = WD ε ad (upd v 33 x) f u g := rfl
theorem p_7_lastPlace (C : CX κ ε own cc nL ret fr lo mc ms) {ix : Nat} {x : Int32} (hd : decode cc pc = .ok (.putfield ix, 3)) (hw : Cond.fieldLink own ix "RingDevices$Chain" "lastPlace" "I" ∈ TB) (h : JW κ k n (WD ε ad (upd v 33 x) f u g) (pc + 3) lv st) : JW κ k n (WD ε ad v f u g) pc lv (.int x :: .ref (ad 7) :: st) := j_put C hd 7 wl_7 inX0 tyX0 tyX0_ok nmX0 rfl 8 (by decide) hw rfl rfl rfl rfl (Nat.le_of_ble_eq_true rfl) ws_7_lastPlace h
theorem g_7_head (C : CX κ ε own cc nL ret fr lo mc ms) {ix : Nat} {x : Int32} (hd : decode cc pc = .ok (.getfield ix, 3)) (hw : Cond.fieldLink own ix "RingDevices$Chain" "head" "I" ∈ TB) (hv : v 34 = x) (h : JW κ k n (WD ε ad v f u g) (pc + 3) lv (.int x :: st)) : JW κ k n (WD ε ad v f u g) pc lv (.ref (ad 7) :: st) := by
  subst hv
  exact j_get C hd 7 wl_7 inX0 rfl 9 (by decide) hw rfl rfl h
theorem ws_7_head {x : Int32} : (WD ε ad v f u g).set 7 (ad 7, .inr (0, [.ref (ad 1), .ref (ad 8), .ref (ad 9), .int (v 28), .int (v 29), .int (v 30), .int (v 31), .int (v 32), .int (v 33), .int (v 34), .int (v 35), .int (v 36)].set 9 (.int x))) = WD ε ad (upd v 34 x) f u g := rfl
theorem p_7_head (C : CX κ ε own cc nL ret fr lo mc ms) {ix : Nat} {x : Int32} (hd : decode cc pc = .ok (.putfield ix, 3)) (hw : Cond.fieldLink own ix "RingDevices$Chain" "head" "I" ∈ TB) (h : JW κ k n (WD ε ad (upd v 34 x) f u g) (pc + 3) lv st) : JW κ k n (WD ε ad v f u g) pc lv (.int x :: .ref (ad 7) :: st) := j_put C hd 7 wl_7 inX0 tyX0 tyX0_ok nmX0 rfl 9 (by decide) hw rfl rfl rfl rfl (Nat.le_of_ble_eq_true rfl) ws_7_head h
theorem g_7_readable (C : CX κ ε own cc nL ret fr lo mc ms) {ix : Nat} {x : Int32} (hd : decode cc pc = .ok (.getfield ix, 3)) (hw : Cond.fieldLink own ix "RingDevices$Chain" "readable" "I" ∈ TB) (hv : v 35 = x) (h : JW κ k n (WD ε ad v f u g) (pc + 3) lv (.int x :: st)) : JW κ k n (WD ε ad v f u g) pc lv (.ref (ad 7) :: st) := by
  subst hv
  exact j_get C hd 7 wl_7 inX0 rfl 10 (by decide) hw rfl rfl h
theorem ws_7_readable {x : Int32} : (WD ε ad v f u g).set 7 (ad 7, .inr (0, [.ref (ad 1), .ref (ad 8), .ref (ad 9), .int (v 28), .int (v 29), .int (v 30), .int (v 31), .int (v 32), .int (v 33), .int (v 34), .int (v 35), .int (v 36)].set 10 (.int x))) = WD ε ad (upd v 35 x) f u g := rfl
theorem p_7_readable (C : CX κ ε own cc nL ret fr lo mc ms) {ix : Nat} {x : Int32} (hd : decode cc pc = .ok (.putfield ix, 3)) (hw : Cond.fieldLink own ix "RingDevices$Chain" "readable" "I" ∈ TB) (h : JW κ k n (WD ε ad (upd v 35 x) f u g) (pc + 3) lv st) : JW κ k n (WD ε ad v f u g) pc lv (.int x :: .ref (ad 7) :: st) := j_put C hd 7 wl_7 inX0 tyX0 tyX0_ok nmX0 rfl 10 (by decide) hw rfl rfl rfl rfl (Nat.le_of_ble_eq_true rfl) ws_7_readable h
theorem g_7_writable (C : CX κ ε own cc nL ret fr lo mc ms) {ix : Nat} {x : Int32} (hd : decode cc pc = .ok (.getfield ix, 3)) (hw : Cond.fieldLink own ix "RingDevices$Chain" "writable" "I" ∈ TB) (hv : v 36 = x) (h : JW κ k n (WD ε ad v f u g) (pc + 3) lv (.int x :: st)) : JW κ k n (WD ε ad v f u g) pc lv (.ref (ad 7) :: st) := by
  subst hv
  exact j_get C hd 7 wl_7 inX0 rfl 11 (by decide) hw rfl rfl h
theorem ws_7_writable {x : Int32} : (WD ε ad v f u g).set 7 (ad 7, .inr (0, [.ref (ad 1), .ref (ad 8), .ref (ad 9), .int (v 28), .int (v 29), .int (v 30), .int (v 31), .int (v 32), .int (v 33), .int (v 34), .int (v 35), .int (v 36)].set 11 (.int x))) = WD ε ad (upd v 36 x) f u g := rfl
theorem p_7_writable (C : CX κ ε own cc nL ret fr lo mc ms) {ix : Nat} {x : Int32} (hd : decode cc pc = .ok (.putfield ix, 3)) (hw : Cond.fieldLink own ix "RingDevices$Chain" "writable" "I" ∈ TB) (h : JW κ k n (WD ε ad (upd v 36 x) f u g) (pc + 3) lv st) : JW κ k n (WD ε ad v f u g) pc lv (.int x :: .ref (ad 7) :: st) := j_put C hd 7 wl_7 inX0 tyX0 tyX0_ok nmX0 rfl 11 (by decide) hw rfl rfl rfl rfl (Nat.le_of_ble_eq_true rfl) ws_7_writable h
theorem al_8 (C : CX κ ε own cc nL ret fr lo mc ms) {i : Int32} {F : Nat → Int32} (hd : decode cc pc = .ok (.iaload, 1)) (hin : vp_in i 16) (hF : f 8 = F) (h : JW κ k n (WD ε ad v f u g) (pc + 1) lv (.int (F i.toNatClampNeg) :: st)) : JW κ k n (WD ε ad v f u g) pc lv (.int i :: .ref (ad 8) :: st) := by
  subst hF
  exact j_iald C hd 8 wl_8 hin h
theorem wt_8 {F : Nat → Int32} : (WD ε ad v f u g).set 8 (ad 8, .inl (ε.2.2.1, 16, .inl F)) = WD ε ad v (va_up f 8 F) u g := rfl
theorem as_8 (C : CX κ ε own cc nL ret fr lo mc ms) {i x : Int32} {F F2 : Nat → Int32} (hd : decode cc pc = .ok (.iastore, 1)) (hin : vp_in i 16) (hF : f 8 = F2) (hF2 : upd F2 i.toNatClampNeg x = F) (h : JW κ k n (WD ε ad v (va_up f 8 F) u g) (pc + 1) lv st) : JW κ k n (WD ε ad v f u g) pc lv (.int x :: .int i :: .ref (ad 8) :: st) := by
  subst hF; subst hF2
  exact j_iast C hd 8 wl_8 hin wt_8 h
theorem an_8 (C : CX κ ε own cc nL ret fr lo mc ms) (hd : decode cc pc = .ok (.arraylength, 1)) (h : JW κ k n (WD ε ad v f u g) (pc + 1) lv (.int 16 :: st)) : JW κ k n (WD ε ad v f u g) pc lv (.ref (ad 8) :: st) := j_alen C hd 8 1 wl_8 rfl rfl h
theorem al_9 (C : CX κ ε own cc nL ret fr lo mc ms) {i : Int32} {F : Nat → Int32} (hd : decode cc pc = .ok (.iaload, 1)) (hin : vp_in i 16) (hF : f 9 = F) (h : JW κ k n (WD ε ad v f u g) (pc + 1) lv (.int (F i.toNatClampNeg) :: st)) : JW κ k n (WD ε ad v f u g) pc lv (.int i :: .ref (ad 9) :: st) := by
  subst hF
  exact j_iald C hd 9 wl_9 hin h
theorem wt_9 {F : Nat → Int32} : (WD ε ad v f u g).set 9 (ad 9, .inl (ε.2.2.1, 16, .inl F)) = WD ε ad v (va_up f 9 F) u g := rfl
theorem as_9 (C : CX κ ε own cc nL ret fr lo mc ms) {i x : Int32} {F F2 : Nat → Int32} (hd : decode cc pc = .ok (.iastore, 1)) (hin : vp_in i 16) (hF : f 9 = F2) (hF2 : upd F2 i.toNatClampNeg x = F) (h : JW κ k n (WD ε ad v (va_up f 9 F) u g) (pc + 1) lv st) : JW κ k n (WD ε ad v f u g) pc lv (.int x :: .int i :: .ref (ad 9) :: st) := by
  subst hF; subst hF2
  exact j_iast C hd 9 wl_9 hin wt_9 h
theorem an_9 (C : CX κ ε own cc nL ret fr lo mc ms) (hd : decode cc pc = .ok (.arraylength, 1)) (h : JW κ k n (WD ε ad v f u g) (pc + 1) lv (.int 16 :: st)) : JW κ k n (WD ε ad v f u g) pc lv (.ref (ad 9) :: st) := j_alen C hd 9 1 wl_9 rfl rfl h
theorem g_10_bytes (C : CX κ ε own cc nL ret fr lo mc ms) {ix : Nat} (hd : decode cc pc = .ok (.getfield ix, 3)) (hw : Cond.fieldLink own ix "RingDevices$Disk" "bytes" "[B" ∈ TB) (h : JW κ k n (WD ε ad v f u g) (pc + 3) lv (.ref (ad 11) :: st)) : JW κ k n (WD ε ad v f u g) pc lv (.ref (ad 10) :: st) := j_get C hd 10 wl_10 inX2 rfl 0 (by decide) hw rfl rfl h
theorem al_11 (C : CX κ ε own cc nL ret fr lo mc ms) {i : Int32} {F : Nat → Int32} (hd : decode cc pc = .ok (.baload, 1)) (hin : vp_in i 2048) (hF : f 11 = F) (h : JW κ k n (WD ε ad v f u g) (pc + 1) lv (.int (F i.toNatClampNeg) :: st)) : JW κ k n (WD ε ad v f u g) pc lv (.int i :: .ref (ad 11) :: st) := by
  subst hF
  exact j_bald C hd 11 wl_11 hin h
theorem wt_11 {F : Nat → Int32} : (WD ε ad v f u g).set 11 (ad 11, .inl (ε.2.1, 2048, .inl F)) = WD ε ad v (va_up f 11 F) u g := rfl
theorem as_11 (C : CX κ ε own cc nL ret fr lo mc ms) {i x : Int32} {F F2 : Nat → Int32} (hd : decode cc pc = .ok (.bastore, 1)) (hin : vp_in i 2048) (hF : f 11 = F2) (hF2 : upd F2 i.toNatClampNeg (vp_nar .byte x) = F) (h : JW κ k n (WD ε ad v (va_up f 11 F) u g) (pc + 1) lv st) : JW κ k n (WD ε ad v f u g) pc lv (.int x :: .int i :: .ref (ad 11) :: st) := by
  subst hF; subst hF2
  exact j_bast C hd 11 wl_11 hin wt_11 h
theorem an_11 (C : CX κ ε own cc nL ret fr lo mc ms) (hd : decode cc pc = .ok (.arraylength, 1)) (h : JW κ k n (WD ε ad v f u g) (pc + 1) lv (.int 2048 :: st)) : JW κ k n (WD ε ad v f u g) pc lv (.ref (ad 11) :: st) := j_alen C hd 11 0 wl_11 rfl rfl h
theorem g_12_bytes (C : CX κ ε own cc nL ret fr lo mc ms) {ix : Nat} (hd : decode cc pc = .ok (.getfield ix, 3)) (hw : Cond.fieldLink own ix "RingDevices$Wire" "bytes" "[B" ∈ TB) (h : JW κ k n (WD ε ad v f u g) (pc + 3) lv (.ref (ad 13) :: st)) : JW κ k n (WD ε ad v f u g) pc lv (.ref (ad 12) :: st) := j_get C hd 12 wl_12 inX7 rfl 0 (by decide) hw rfl rfl h
theorem g_12_lengths (C : CX κ ε own cc nL ret fr lo mc ms) {ix : Nat} (hd : decode cc pc = .ok (.getfield ix, 3)) (hw : Cond.fieldLink own ix "RingDevices$Wire" "lengths" "[I" ∈ TB) (h : JW κ k n (WD ε ad v f u g) (pc + 3) lv (.ref (ad 14) :: st)) : JW κ k n (WD ε ad v f u g) pc lv (.ref (ad 12) :: st) := j_get C hd 12 wl_12 inX7 rfl 1 (by decide) hw rfl rfl h
theorem g_12_latest (C : CX κ ε own cc nL ret fr lo mc ms) {ix : Nat} {x : Int32} (hd : decode cc pc = .ok (.getfield ix, 3)) (hw : Cond.fieldLink own ix "RingDevices$Wire" "latest" "I" ∈ TB) (hv : v 37 = x) (h : JW κ k n (WD ε ad v f u g) (pc + 3) lv (.int x :: st)) : JW κ k n (WD ε ad v f u g) pc lv (.ref (ad 12) :: st) := by
  subst hv
  exact j_get C hd 12 wl_12 inX7 rfl 2 (by decide) hw rfl rfl h
theorem ws_12_latest {x : Int32} : (WD ε ad v f u g).set 12 (ad 12, .inr (7, [.ref (ad 13), .ref (ad 14), .int (v 37), .int (v 38)].set 2 (.int x))) = WD ε ad (upd v 37 x) f u g := rfl
theorem p_12_latest (C : CX κ ε own cc nL ret fr lo mc ms) {ix : Nat} {x : Int32} (hd : decode cc pc = .ok (.putfield ix, 3)) (hw : Cond.fieldLink own ix "RingDevices$Wire" "latest" "I" ∈ TB) (h : JW κ k n (WD ε ad (upd v 37 x) f u g) (pc + 3) lv st) : JW κ k n (WD ε ad v f u g) pc lv (.int x :: .ref (ad 12) :: st) := j_put C hd 12 wl_12 inX7 tyX7 tyX7_ok nmX7 rfl 2 (by decide) hw rfl rfl rfl rfl (Nat.le_of_ble_eq_true rfl) ws_12_latest h
theorem g_12_went (C : CX κ ε own cc nL ret fr lo mc ms) {ix : Nat} {x : Int32} (hd : decode cc pc = .ok (.getfield ix, 3)) (hw : Cond.fieldLink own ix "RingDevices$Wire" "went" "I" ∈ TB) (hv : v 38 = x) (h : JW κ k n (WD ε ad v f u g) (pc + 3) lv (.int x :: st)) : JW κ k n (WD ε ad v f u g) pc lv (.ref (ad 12) :: st) := by
  subst hv
  exact j_get C hd 12 wl_12 inX7 rfl 3 (by decide) hw rfl rfl h
theorem ws_12_went {x : Int32} : (WD ε ad v f u g).set 12 (ad 12, .inr (7, [.ref (ad 13), .ref (ad 14), .int (v 37), .int (v 38)].set 3 (.int x))) = WD ε ad (upd v 38 x) f u g := rfl
theorem p_12_went (C : CX κ ε own cc nL ret fr lo mc ms) {ix : Nat} {x : Int32} (hd : decode cc pc = .ok (.putfield ix, 3)) (hw : Cond.fieldLink own ix "RingDevices$Wire" "went" "I" ∈ TB) (h : JW κ k n (WD ε ad (upd v 38 x) f u g) (pc + 3) lv st) : JW κ k n (WD ε ad v f u g) pc lv (.int x :: .ref (ad 12) :: st) := j_put C hd 12 wl_12 inX7 tyX7 tyX7_ok nmX7 rfl 3 (by decide) hw rfl rfl rfl rfl (Nat.le_of_ble_eq_true rfl) ws_12_went h
theorem al_13 (C : CX κ ε own cc nL ret fr lo mc ms) {i : Int32} {F : Nat → Int32} (hd : decode cc pc = .ok (.baload, 1)) (hin : vp_in i 1280) (hF : f 13 = F) (h : JW κ k n (WD ε ad v f u g) (pc + 1) lv (.int (F i.toNatClampNeg) :: st)) : JW κ k n (WD ε ad v f u g) pc lv (.int i :: .ref (ad 13) :: st) := by
  subst hF
  exact j_bald C hd 13 wl_13 hin h
theorem wt_13 {F : Nat → Int32} : (WD ε ad v f u g).set 13 (ad 13, .inl (ε.2.1, 1280, .inl F)) = WD ε ad v (va_up f 13 F) u g := rfl
theorem as_13 (C : CX κ ε own cc nL ret fr lo mc ms) {i x : Int32} {F F2 : Nat → Int32} (hd : decode cc pc = .ok (.bastore, 1)) (hin : vp_in i 1280) (hF : f 13 = F2) (hF2 : upd F2 i.toNatClampNeg (vp_nar .byte x) = F) (h : JW κ k n (WD ε ad v (va_up f 13 F) u g) (pc + 1) lv st) : JW κ k n (WD ε ad v f u g) pc lv (.int x :: .int i :: .ref (ad 13) :: st) := by
  subst hF; subst hF2
  exact j_bast C hd 13 wl_13 hin wt_13 h
theorem an_13 (C : CX κ ε own cc nL ret fr lo mc ms) (hd : decode cc pc = .ok (.arraylength, 1)) (h : JW κ k n (WD ε ad v f u g) (pc + 1) lv (.int 1280 :: st)) : JW κ k n (WD ε ad v f u g) pc lv (.ref (ad 13) :: st) := j_alen C hd 13 0 wl_13 rfl rfl h
theorem al_14 (C : CX κ ε own cc nL ret fr lo mc ms) {i : Int32} {F : Nat → Int32} (hd : decode cc pc = .ok (.iaload, 1)) (hin : vp_in i 16) (hF : f 14 = F) (h : JW κ k n (WD ε ad v f u g) (pc + 1) lv (.int (F i.toNatClampNeg) :: st)) : JW κ k n (WD ε ad v f u g) pc lv (.int i :: .ref (ad 14) :: st) := by
  subst hF
  exact j_iald C hd 14 wl_14 hin h
theorem wt_14 {F : Nat → Int32} : (WD ε ad v f u g).set 14 (ad 14, .inl (ε.2.2.1, 16, .inl F)) = WD ε ad v (va_up f 14 F) u g := rfl
theorem as_14 (C : CX κ ε own cc nL ret fr lo mc ms) {i x : Int32} {F F2 : Nat → Int32} (hd : decode cc pc = .ok (.iastore, 1)) (hin : vp_in i 16) (hF : f 14 = F2) (hF2 : upd F2 i.toNatClampNeg x = F) (h : JW κ k n (WD ε ad v (va_up f 14 F) u g) (pc + 1) lv st) : JW κ k n (WD ε ad v f u g) pc lv (.int x :: .int i :: .ref (ad 14) :: st) := by
  subst hF; subst hF2
  exact j_iast C hd 14 wl_14 hin wt_14 h
theorem an_14 (C : CX κ ε own cc nL ret fr lo mc ms) (hd : decode cc pc = .ok (.arraylength, 1)) (h : JW κ k n (WD ε ad v f u g) (pc + 1) lv (.int 16 :: st)) : JW κ k n (WD ε ad v f u g) pc lv (.ref (ad 14) :: st) := j_alen C hd 14 1 wl_14 rfl rfl h
theorem g_15_memory (C : CX κ ε own cc nL ret fr lo mc ms) {ix : Nat} (hd : decode cc pc = .ok (.getfield ix, 3)) (hw : Cond.fieldLink own ix "RingDevices$Driver" "memory" "LRingDevices$Memory;" ∈ TB) (h : JW κ k n (WD ε ad v f u g) (pc + 3) lv (.ref (ad 1) :: st)) : JW κ k n (WD ε ad v f u g) pc lv (.ref (ad 15) :: st) := j_get C hd 15 wl_15 inX3 rfl 0 (by decide) hw rfl rfl h
theorem g_15_disks (C : CX κ ε own cc nL ret fr lo mc ms) {ix : Nat} (hd : decode cc pc = .ok (.getfield ix, 3)) (hw : Cond.fieldLink own ix "RingDevices$Driver" "disks" "LRingDevices$Loans;" ∈ TB) (h : JW κ k n (WD ε ad v f u g) (pc + 3) lv (.ref (ad 16) :: st)) : JW κ k n (WD ε ad v f u g) pc lv (.ref (ad 15) :: st) := j_get C hd 15 wl_15 inX3 rfl 1 (by decide) hw rfl rfl h
theorem g_15_comes (C : CX κ ε own cc nL ret fr lo mc ms) {ix : Nat} (hd : decode cc pc = .ok (.getfield ix, 3)) (hw : Cond.fieldLink own ix "RingDevices$Driver" "comes" "LRingDevices$Loans;" ∈ TB) (h : JW κ k n (WD ε ad v f u g) (pc + 3) lv (.ref (ad 18) :: st)) : JW κ k n (WD ε ad v f u g) pc lv (.ref (ad 15) :: st) := j_get C hd 15 wl_15 inX3 rfl 2 (by decide) hw rfl rfl h
theorem g_15_goes (C : CX κ ε own cc nL ret fr lo mc ms) {ix : Nat} (hd : decode cc pc = .ok (.getfield ix, 3)) (hw : Cond.fieldLink own ix "RingDevices$Driver" "goes" "LRingDevices$Loans;" ∈ TB) (h : JW κ k n (WD ε ad v f u g) (pc + 3) lv (.ref (ad 20) :: st)) : JW κ k n (WD ε ad v f u g) pc lv (.ref (ad 15) :: st) := j_get C hd 15 wl_15 inX3 rfl 3 (by decide) hw rfl rfl h
theorem g_15_tables (C : CX κ ε own cc nL ret fr lo mc ms) {ix : Nat} {x : Int32} (hd : decode cc pc = .ok (.getfield ix, 3)) (hw : Cond.fieldLink own ix "RingDevices$Driver" "tables" "Z" ∈ TB) (hv : v 39 = x) (h : JW κ k n (WD ε ad v f u g) (pc + 3) lv (.int x :: st)) : JW κ k n (WD ε ad v f u g) pc lv (.ref (ad 15) :: st) := by
  subst hv
  exact j_get C hd 15 wl_15 inX3 rfl 4 (by decide) hw rfl rfl h
theorem ws_15_tables {x : Int32} : (WD ε ad v f u g).set 15 (ad 15, .inr (3, [.ref (ad 1), .ref (ad 16), .ref (ad 18), .ref (ad 20), .int (v 39), .int (v 40)].set 4 (.int x))) = WD ε ad (upd v 39 x) f u g := rfl
theorem p_15_tables (C : CX κ ε own cc nL ret fr lo mc ms) {ix : Nat} {x : Int32} (hd : decode cc pc = .ok (.putfield ix, 3)) (hw : Cond.fieldLink own ix "RingDevices$Driver" "tables" "Z" ∈ TB) (hb : x = 0 ∨ x = 1) (h : JW κ k n (WD ε ad (upd v 39 x) f u g) (pc + 3) lv st) : JW κ k n (WD ε ad v f u g) pc lv (.int x :: .ref (ad 15) :: st) := j_put C hd 15 wl_15 inX3 tyX3 tyX3_ok nmX3 rfl 4 (by decide) hw rfl rfl (nb_b hb).1 (nb_b hb).2 (Nat.le_of_ble_eq_true rfl) ws_15_tables h
theorem g_15_started (C : CX κ ε own cc nL ret fr lo mc ms) {ix : Nat} {x : Int32} (hd : decode cc pc = .ok (.getfield ix, 3)) (hw : Cond.fieldLink own ix "RingDevices$Driver" "started" "Z" ∈ TB) (hv : v 40 = x) (h : JW κ k n (WD ε ad v f u g) (pc + 3) lv (.int x :: st)) : JW κ k n (WD ε ad v f u g) pc lv (.ref (ad 15) :: st) := by
  subst hv
  exact j_get C hd 15 wl_15 inX3 rfl 5 (by decide) hw rfl rfl h
theorem ws_15_started {x : Int32} : (WD ε ad v f u g).set 15 (ad 15, .inr (3, [.ref (ad 1), .ref (ad 16), .ref (ad 18), .ref (ad 20), .int (v 39), .int (v 40)].set 5 (.int x))) = WD ε ad (upd v 40 x) f u g := rfl
theorem p_15_started (C : CX κ ε own cc nL ret fr lo mc ms) {ix : Nat} {x : Int32} (hd : decode cc pc = .ok (.putfield ix, 3)) (hw : Cond.fieldLink own ix "RingDevices$Driver" "started" "Z" ∈ TB) (hb : x = 0 ∨ x = 1) (h : JW κ k n (WD ε ad (upd v 40 x) f u g) (pc + 3) lv st) : JW κ k n (WD ε ad v f u g) pc lv (.int x :: .ref (ad 15) :: st) := j_put C hd 15 wl_15 inX3 tyX3 tyX3_ok nmX3 rfl 5 (by decide) hw rfl rfl (nb_b hb).1 (nb_b hb).2 (Nat.le_of_ble_eq_true rfl) ws_15_started h
theorem g_16_chains (C : CX κ ε own cc nL ret fr lo mc ms) {ix : Nat} (hd : decode cc pc = .ok (.getfield ix, 3)) (hw : Cond.fieldLink own ix "RingDevices$Loans" "chains" "[I" ∈ TB) (h : JW κ k n (WD ε ad v f u g) (pc + 3) lv (.ref (ad 17) :: st)) : JW κ k n (WD ε ad v f u g) pc lv (.ref (ad 16) :: st) := j_get C hd 16 wl_16 inX4 rfl 0 (by decide) hw rfl rfl h
theorem g_16_free (C : CX κ ε own cc nL ret fr lo mc ms) {ix : Nat} {x : Int32} (hd : decode cc pc = .ok (.getfield ix, 3)) (hw : Cond.fieldLink own ix "RingDevices$Loans" "free" "I" ∈ TB) (hv : v 41 = x) (h : JW κ k n (WD ε ad v f u g) (pc + 3) lv (.int x :: st)) : JW κ k n (WD ε ad v f u g) pc lv (.ref (ad 16) :: st) := by
  subst hv
  exact j_get C hd 16 wl_16 inX4 rfl 1 (by decide) hw rfl rfl h
theorem ws_16_free {x : Int32} : (WD ε ad v f u g).set 16 (ad 16, .inr (4, [.ref (ad 17), .int (v 41), .int (v 42), .int (v 43), .int (v 44)].set 1 (.int x))) = WD ε ad (upd v 41 x) f u g := rfl
theorem p_16_free (C : CX κ ε own cc nL ret fr lo mc ms) {ix : Nat} {x : Int32} (hd : decode cc pc = .ok (.putfield ix, 3)) (hw : Cond.fieldLink own ix "RingDevices$Loans" "free" "I" ∈ TB) (h : JW κ k n (WD ε ad (upd v 41 x) f u g) (pc + 3) lv st) : JW κ k n (WD ε ad v f u g) pc lv (.int x :: .ref (ad 16) :: st) := j_put C hd 16 wl_16 inX4 tyX4 tyX4_ok nmX4 rfl 1 (by decide) hw rfl rfl rfl rfl (Nat.le_of_ble_eq_true rfl) ws_16_free h
theorem g_16_asked (C : CX κ ε own cc nL ret fr lo mc ms) {ix : Nat} {x : Int32} (hd : decode cc pc = .ok (.getfield ix, 3)) (hw : Cond.fieldLink own ix "RingDevices$Loans" "asked" "I" ∈ TB) (hv : v 42 = x) (h : JW κ k n (WD ε ad v f u g) (pc + 3) lv (.int x :: st)) : JW κ k n (WD ε ad v f u g) pc lv (.ref (ad 16) :: st) := by
  subst hv
  exact j_get C hd 16 wl_16 inX4 rfl 2 (by decide) hw rfl rfl h
theorem ws_16_asked {x : Int32} : (WD ε ad v f u g).set 16 (ad 16, .inr (4, [.ref (ad 17), .int (v 41), .int (v 42), .int (v 43), .int (v 44)].set 2 (.int x))) = WD ε ad (upd v 42 x) f u g := rfl
theorem p_16_asked (C : CX κ ε own cc nL ret fr lo mc ms) {ix : Nat} {x : Int32} (hd : decode cc pc = .ok (.putfield ix, 3)) (hw : Cond.fieldLink own ix "RingDevices$Loans" "asked" "I" ∈ TB) (h : JW κ k n (WD ε ad (upd v 42 x) f u g) (pc + 3) lv st) : JW κ k n (WD ε ad v f u g) pc lv (.int x :: .ref (ad 16) :: st) := j_put C hd 16 wl_16 inX4 tyX4 tyX4_ok nmX4 rfl 2 (by decide) hw rfl rfl rfl rfl (Nat.le_of_ble_eq_true rfl) ws_16_asked h
theorem g_16_saw (C : CX κ ε own cc nL ret fr lo mc ms) {ix : Nat} {x : Int32} (hd : decode cc pc = .ok (.getfield ix, 3)) (hw : Cond.fieldLink own ix "RingDevices$Loans" "saw" "I" ∈ TB) (hv : v 43 = x) (h : JW κ k n (WD ε ad v f u g) (pc + 3) lv (.int x :: st)) : JW κ k n (WD ε ad v f u g) pc lv (.ref (ad 16) :: st) := by
  subst hv
  exact j_get C hd 16 wl_16 inX4 rfl 3 (by decide) hw rfl rfl h
theorem ws_16_saw {x : Int32} : (WD ε ad v f u g).set 16 (ad 16, .inr (4, [.ref (ad 17), .int (v 41), .int (v 42), .int (v 43), .int (v 44)].set 3 (.int x))) = WD ε ad (upd v 43 x) f u g := rfl
theorem p_16_saw (C : CX κ ε own cc nL ret fr lo mc ms) {ix : Nat} {x : Int32} (hd : decode cc pc = .ok (.putfield ix, 3)) (hw : Cond.fieldLink own ix "RingDevices$Loans" "saw" "I" ∈ TB) (h : JW κ k n (WD ε ad (upd v 43 x) f u g) (pc + 3) lv st) : JW κ k n (WD ε ad v f u g) pc lv (.int x :: .ref (ad 16) :: st) := j_put C hd 16 wl_16 inX4 tyX4 tyX4_ok nmX4 rfl 3 (by decide) hw rfl rfl rfl rfl (Nat.le_of_ble_eq_true rfl) ws_16_saw h
theorem g_16_latestWritten (C : CX κ ε own cc nL ret fr lo mc ms) {ix : Nat} {x : Int32} (hd : decode cc pc = .ok (.getfield ix, 3)) (hw : Cond.fieldLink own ix "RingDevices$Loans" "latestWritten" "I" ∈ TB) (hv : v 44 = x) (h : JW κ k n (WD ε ad v f u g) (pc + 3) lv (.int x :: st)) : JW κ k n (WD ε ad v f u g) pc lv (.ref (ad 16) :: st) := by
  subst hv
  exact j_get C hd 16 wl_16 inX4 rfl 4 (by decide) hw rfl rfl h
theorem ws_16_latestWritten {x : Int32} : (WD ε ad v f u g).set 16 (ad 16, .inr (4, [.ref (ad 17), .int (v 41), .int (v 42), .int (v 43), .int (v 44)].set 4 (.int x))) = WD ε ad (upd v 44 x) f u g := rfl
theorem p_16_latestWritten (C : CX κ ε own cc nL ret fr lo mc ms) {ix : Nat} {x : Int32} (hd : decode cc pc = .ok (.putfield ix, 3)) (hw : Cond.fieldLink own ix "RingDevices$Loans" "latestWritten" "I" ∈ TB) (h : JW κ k n (WD ε ad (upd v 44 x) f u g) (pc + 3) lv st) : JW κ k n (WD ε ad v f u g) pc lv (.int x :: .ref (ad 16) :: st) := j_put C hd 16 wl_16 inX4 tyX4 tyX4_ok nmX4 rfl 4 (by decide) hw rfl rfl rfl rfl (Nat.le_of_ble_eq_true rfl) ws_16_latestWritten h
theorem al_17 (C : CX κ ε own cc nL ret fr lo mc ms) {i : Int32} {F : Nat → Int32} (hd : decode cc pc = .ok (.iaload, 1)) (hin : vp_in i 8) (hF : f 17 = F) (h : JW κ k n (WD ε ad v f u g) (pc + 1) lv (.int (F i.toNatClampNeg) :: st)) : JW κ k n (WD ε ad v f u g) pc lv (.int i :: .ref (ad 17) :: st) := by
  subst hF
  exact j_iald C hd 17 wl_17 hin h
theorem wt_17 {F : Nat → Int32} : (WD ε ad v f u g).set 17 (ad 17, .inl (ε.2.2.1, 8, .inl F)) = WD ε ad v (va_up f 17 F) u g := rfl
theorem as_17 (C : CX κ ε own cc nL ret fr lo mc ms) {i x : Int32} {F F2 : Nat → Int32} (hd : decode cc pc = .ok (.iastore, 1)) (hin : vp_in i 8) (hF : f 17 = F2) (hF2 : upd F2 i.toNatClampNeg x = F) (h : JW κ k n (WD ε ad v (va_up f 17 F) u g) (pc + 1) lv st) : JW κ k n (WD ε ad v f u g) pc lv (.int x :: .int i :: .ref (ad 17) :: st) := by
  subst hF; subst hF2
  exact j_iast C hd 17 wl_17 hin wt_17 h
theorem an_17 (C : CX κ ε own cc nL ret fr lo mc ms) (hd : decode cc pc = .ok (.arraylength, 1)) (h : JW κ k n (WD ε ad v f u g) (pc + 1) lv (.int 8 :: st)) : JW κ k n (WD ε ad v f u g) pc lv (.ref (ad 17) :: st) := j_alen C hd 17 1 wl_17 rfl rfl h
theorem g_18_chains (C : CX κ ε own cc nL ret fr lo mc ms) {ix : Nat} (hd : decode cc pc = .ok (.getfield ix, 3)) (hw : Cond.fieldLink own ix "RingDevices$Loans" "chains" "[I" ∈ TB) (h : JW κ k n (WD ε ad v f u g) (pc + 3) lv (.ref (ad 19) :: st)) : JW κ k n (WD ε ad v f u g) pc lv (.ref (ad 18) :: st) := j_get C hd 18 wl_18 inX4 rfl 0 (by decide) hw rfl rfl h
theorem g_18_free (C : CX κ ε own cc nL ret fr lo mc ms) {ix : Nat} {x : Int32} (hd : decode cc pc = .ok (.getfield ix, 3)) (hw : Cond.fieldLink own ix "RingDevices$Loans" "free" "I" ∈ TB) (hv : v 45 = x) (h : JW κ k n (WD ε ad v f u g) (pc + 3) lv (.int x :: st)) : JW κ k n (WD ε ad v f u g) pc lv (.ref (ad 18) :: st) := by
  subst hv
  exact j_get C hd 18 wl_18 inX4 rfl 1 (by decide) hw rfl rfl h
theorem ws_18_free {x : Int32} : (WD ε ad v f u g).set 18 (ad 18, .inr (4, [.ref (ad 19), .int (v 45), .int (v 46), .int (v 47), .int (v 48)].set 1 (.int x))) = WD ε ad (upd v 45 x) f u g := rfl
theorem p_18_free (C : CX κ ε own cc nL ret fr lo mc ms) {ix : Nat} {x : Int32} (hd : decode cc pc = .ok (.putfield ix, 3)) (hw : Cond.fieldLink own ix "RingDevices$Loans" "free" "I" ∈ TB) (h : JW κ k n (WD ε ad (upd v 45 x) f u g) (pc + 3) lv st) : JW κ k n (WD ε ad v f u g) pc lv (.int x :: .ref (ad 18) :: st) := j_put C hd 18 wl_18 inX4 tyX4 tyX4_ok nmX4 rfl 1 (by decide) hw rfl rfl rfl rfl (Nat.le_of_ble_eq_true rfl) ws_18_free h
theorem g_18_asked (C : CX κ ε own cc nL ret fr lo mc ms) {ix : Nat} {x : Int32} (hd : decode cc pc = .ok (.getfield ix, 3)) (hw : Cond.fieldLink own ix "RingDevices$Loans" "asked" "I" ∈ TB) (hv : v 46 = x) (h : JW κ k n (WD ε ad v f u g) (pc + 3) lv (.int x :: st)) : JW κ k n (WD ε ad v f u g) pc lv (.ref (ad 18) :: st) := by
  subst hv
  exact j_get C hd 18 wl_18 inX4 rfl 2 (by decide) hw rfl rfl h
theorem ws_18_asked {x : Int32} : (WD ε ad v f u g).set 18 (ad 18, .inr (4, [.ref (ad 19), .int (v 45), .int (v 46), .int (v 47), .int (v 48)].set 2 (.int x))) = WD ε ad (upd v 46 x) f u g := rfl
theorem p_18_asked (C : CX κ ε own cc nL ret fr lo mc ms) {ix : Nat} {x : Int32} (hd : decode cc pc = .ok (.putfield ix, 3)) (hw : Cond.fieldLink own ix "RingDevices$Loans" "asked" "I" ∈ TB) (h : JW κ k n (WD ε ad (upd v 46 x) f u g) (pc + 3) lv st) : JW κ k n (WD ε ad v f u g) pc lv (.int x :: .ref (ad 18) :: st) := j_put C hd 18 wl_18 inX4 tyX4 tyX4_ok nmX4 rfl 2 (by decide) hw rfl rfl rfl rfl (Nat.le_of_ble_eq_true rfl) ws_18_asked h
theorem g_18_saw (C : CX κ ε own cc nL ret fr lo mc ms) {ix : Nat} {x : Int32} (hd : decode cc pc = .ok (.getfield ix, 3)) (hw : Cond.fieldLink own ix "RingDevices$Loans" "saw" "I" ∈ TB) (hv : v 47 = x) (h : JW κ k n (WD ε ad v f u g) (pc + 3) lv (.int x :: st)) : JW κ k n (WD ε ad v f u g) pc lv (.ref (ad 18) :: st) := by
  subst hv
  exact j_get C hd 18 wl_18 inX4 rfl 3 (by decide) hw rfl rfl h
theorem ws_18_saw {x : Int32} : (WD ε ad v f u g).set 18 (ad 18, .inr (4, [.ref (ad 19), .int (v 45), .int (v 46), .int (v 47), .int (v 48)].set 3 (.int x))) = WD ε ad (upd v 47 x) f u g := rfl
theorem p_18_saw (C : CX κ ε own cc nL ret fr lo mc ms) {ix : Nat} {x : Int32} (hd : decode cc pc = .ok (.putfield ix, 3)) (hw : Cond.fieldLink own ix "RingDevices$Loans" "saw" "I" ∈ TB) (h : JW κ k n (WD ε ad (upd v 47 x) f u g) (pc + 3) lv st) : JW κ k n (WD ε ad v f u g) pc lv (.int x :: .ref (ad 18) :: st) := j_put C hd 18 wl_18 inX4 tyX4 tyX4_ok nmX4 rfl 3 (by decide) hw rfl rfl rfl rfl (Nat.le_of_ble_eq_true rfl) ws_18_saw h
theorem g_18_latestWritten (C : CX κ ε own cc nL ret fr lo mc ms) {ix : Nat} {x : Int32} (hd : decode cc pc = .ok (.getfield ix, 3)) (hw : Cond.fieldLink own ix "RingDevices$Loans" "latestWritten" "I" ∈ TB) (hv : v 48 = x) (h : JW κ k n (WD ε ad v f u g) (pc + 3) lv (.int x :: st)) : JW κ k n (WD ε ad v f u g) pc lv (.ref (ad 18) :: st) := by
  subst hv
  exact j_get C hd 18 wl_18 inX4 rfl 4 (by decide) hw rfl rfl h
theorem ws_18_latestWritten {x : Int32} : (WD ε ad v f u g).set 18 (ad 18, .inr (4, [.ref (ad 19), .int (v 45), .int (v 46), .int (v 47), .int (v 48)].set 4 (.int x))) = WD ε ad (upd v 48 x) f u g := rfl
theorem p_18_latestWritten (C : CX κ ε own cc nL ret fr lo mc ms) {ix : Nat} {x : Int32} (hd : decode cc pc = .ok (.putfield ix, 3)) (hw : Cond.fieldLink own ix "RingDevices$Loans" "latestWritten" "I" ∈ TB) (h : JW κ k n (WD ε ad (upd v 48 x) f u g) (pc + 3) lv st) : JW κ k n (WD ε ad v f u g) pc lv (.int x :: .ref (ad 18) :: st) := j_put C hd 18 wl_18 inX4 tyX4 tyX4_ok nmX4 rfl 4 (by decide) hw rfl rfl rfl rfl (Nat.le_of_ble_eq_true rfl) ws_18_latestWritten h
theorem al_19 (C : CX κ ε own cc nL ret fr lo mc ms) {i : Int32} {F : Nat → Int32} (hd : decode cc pc = .ok (.iaload, 1)) (hin : vp_in i 8) (hF : f 19 = F) (h : JW κ k n (WD ε ad v f u g) (pc + 1) lv (.int (F i.toNatClampNeg) :: st)) : JW κ k n (WD ε ad v f u g) pc lv (.int i :: .ref (ad 19) :: st) := by
  subst hF
  exact j_iald C hd 19 wl_19 hin h
theorem wt_19 {F : Nat → Int32} : (WD ε ad v f u g).set 19 (ad 19, .inl (ε.2.2.1, 8, .inl F)) = WD ε ad v (va_up f 19 F) u g := rfl
theorem as_19 (C : CX κ ε own cc nL ret fr lo mc ms) {i x : Int32} {F F2 : Nat → Int32} (hd : decode cc pc = .ok (.iastore, 1)) (hin : vp_in i 8) (hF : f 19 = F2) (hF2 : upd F2 i.toNatClampNeg x = F) (h : JW κ k n (WD ε ad v (va_up f 19 F) u g) (pc + 1) lv st) : JW κ k n (WD ε ad v f u g) pc lv (.int x :: .int i :: .ref (ad 19) :: st) := by
  subst hF; subst hF2
  exact j_iast C hd 19 wl_19 hin wt_19 h
theorem an_19 (C : CX κ ε own cc nL ret fr lo mc ms) (hd : decode cc pc = .ok (.arraylength, 1)) (h : JW κ k n (WD ε ad v f u g) (pc + 1) lv (.int 8 :: st)) : JW κ k n (WD ε ad v f u g) pc lv (.ref (ad 19) :: st) := j_alen C hd 19 1 wl_19 rfl rfl h
theorem g_20_chains (C : CX κ ε own cc nL ret fr lo mc ms) {ix : Nat} (hd : decode cc pc = .ok (.getfield ix, 3)) (hw : Cond.fieldLink own ix "RingDevices$Loans" "chains" "[I" ∈ TB) (h : JW κ k n (WD ε ad v f u g) (pc + 3) lv (.ref (ad 21) :: st)) : JW κ k n (WD ε ad v f u g) pc lv (.ref (ad 20) :: st) := j_get C hd 20 wl_20 inX4 rfl 0 (by decide) hw rfl rfl h
theorem g_20_free (C : CX κ ε own cc nL ret fr lo mc ms) {ix : Nat} {x : Int32} (hd : decode cc pc = .ok (.getfield ix, 3)) (hw : Cond.fieldLink own ix "RingDevices$Loans" "free" "I" ∈ TB) (hv : v 49 = x) (h : JW κ k n (WD ε ad v f u g) (pc + 3) lv (.int x :: st)) : JW κ k n (WD ε ad v f u g) pc lv (.ref (ad 20) :: st) := by
  subst hv
  exact j_get C hd 20 wl_20 inX4 rfl 1 (by decide) hw rfl rfl h
theorem ws_20_free {x : Int32} : (WD ε ad v f u g).set 20 (ad 20, .inr (4, [.ref (ad 21), .int (v 49), .int (v 50), .int (v 51), .int (v 52)].set 1 (.int x))) = WD ε ad (upd v 49 x) f u g := rfl
theorem p_20_free (C : CX κ ε own cc nL ret fr lo mc ms) {ix : Nat} {x : Int32} (hd : decode cc pc = .ok (.putfield ix, 3)) (hw : Cond.fieldLink own ix "RingDevices$Loans" "free" "I" ∈ TB) (h : JW κ k n (WD ε ad (upd v 49 x) f u g) (pc + 3) lv st) : JW κ k n (WD ε ad v f u g) pc lv (.int x :: .ref (ad 20) :: st) := j_put C hd 20 wl_20 inX4 tyX4 tyX4_ok nmX4 rfl 1 (by decide) hw rfl rfl rfl rfl (Nat.le_of_ble_eq_true rfl) ws_20_free h
theorem g_20_asked (C : CX κ ε own cc nL ret fr lo mc ms) {ix : Nat} {x : Int32} (hd : decode cc pc = .ok (.getfield ix, 3)) (hw : Cond.fieldLink own ix "RingDevices$Loans" "asked" "I" ∈ TB) (hv : v 50 = x) (h : JW κ k n (WD ε ad v f u g) (pc + 3) lv (.int x :: st)) : JW κ k n (WD ε ad v f u g) pc lv (.ref (ad 20) :: st) := by
  subst hv
  exact j_get C hd 20 wl_20 inX4 rfl 2 (by decide) hw rfl rfl h
theorem ws_20_asked {x : Int32} : (WD ε ad v f u g).set 20 (ad 20, .inr (4, [.ref (ad 21), .int (v 49), .int (v 50), .int (v 51), .int (v 52)].set 2 (.int x))) = WD ε ad (upd v 50 x) f u g := rfl
theorem p_20_asked (C : CX κ ε own cc nL ret fr lo mc ms) {ix : Nat} {x : Int32} (hd : decode cc pc = .ok (.putfield ix, 3)) (hw : Cond.fieldLink own ix "RingDevices$Loans" "asked" "I" ∈ TB) (h : JW κ k n (WD ε ad (upd v 50 x) f u g) (pc + 3) lv st) : JW κ k n (WD ε ad v f u g) pc lv (.int x :: .ref (ad 20) :: st) := j_put C hd 20 wl_20 inX4 tyX4 tyX4_ok nmX4 rfl 2 (by decide) hw rfl rfl rfl rfl (Nat.le_of_ble_eq_true rfl) ws_20_asked h
theorem g_20_saw (C : CX κ ε own cc nL ret fr lo mc ms) {ix : Nat} {x : Int32} (hd : decode cc pc = .ok (.getfield ix, 3)) (hw : Cond.fieldLink own ix "RingDevices$Loans" "saw" "I" ∈ TB) (hv : v 51 = x) (h : JW κ k n (WD ε ad v f u g) (pc + 3) lv (.int x :: st)) : JW κ k n (WD ε ad v f u g) pc lv (.ref (ad 20) :: st) := by
  subst hv
  exact j_get C hd 20 wl_20 inX4 rfl 3 (by decide) hw rfl rfl h
theorem ws_20_saw {x : Int32} : (WD ε ad v f u g).set 20 (ad 20, .inr (4, [.ref (ad 21), .int (v 49), .int (v 50), .int (v 51), .int (v 52)].set 3 (.int x))) = WD ε ad (upd v 51 x) f u g := rfl
theorem p_20_saw (C : CX κ ε own cc nL ret fr lo mc ms) {ix : Nat} {x : Int32} (hd : decode cc pc = .ok (.putfield ix, 3)) (hw : Cond.fieldLink own ix "RingDevices$Loans" "saw" "I" ∈ TB) (h : JW κ k n (WD ε ad (upd v 51 x) f u g) (pc + 3) lv st) : JW κ k n (WD ε ad v f u g) pc lv (.int x :: .ref (ad 20) :: st) := j_put C hd 20 wl_20 inX4 tyX4 tyX4_ok nmX4 rfl 3 (by decide) hw rfl rfl rfl rfl (Nat.le_of_ble_eq_true rfl) ws_20_saw h
theorem g_20_latestWritten (C : CX κ ε own cc nL ret fr lo mc ms) {ix : Nat} {x : Int32} (hd : decode cc pc = .ok (.getfield ix, 3)) (hw : Cond.fieldLink own ix "RingDevices$Loans" "latestWritten" "I" ∈ TB) (hv : v 52 = x) (h : JW κ k n (WD ε ad v f u g) (pc + 3) lv (.int x :: st)) : JW κ k n (WD ε ad v f u g) pc lv (.ref (ad 20) :: st) := by
  subst hv
  exact j_get C hd 20 wl_20 inX4 rfl 4 (by decide) hw rfl rfl h
theorem ws_20_latestWritten {x : Int32} : (WD ε ad v f u g).set 20 (ad 20, .inr (4, [.ref (ad 21), .int (v 49), .int (v 50), .int (v 51), .int (v 52)].set 4 (.int x))) = WD ε ad (upd v 52 x) f u g := rfl
theorem p_20_latestWritten (C : CX κ ε own cc nL ret fr lo mc ms) {ix : Nat} {x : Int32} (hd : decode cc pc = .ok (.putfield ix, 3)) (hw : Cond.fieldLink own ix "RingDevices$Loans" "latestWritten" "I" ∈ TB) (h : JW κ k n (WD ε ad (upd v 52 x) f u g) (pc + 3) lv st) : JW κ k n (WD ε ad v f u g) pc lv (.int x :: .ref (ad 20) :: st) := j_put C hd 20 wl_20 inX4 tyX4 tyX4_ok nmX4 rfl 4 (by decide) hw rfl rfl rfl rfl (Nat.le_of_ble_eq_true rfl) ws_20_latestWritten h
theorem al_21 (C : CX κ ε own cc nL ret fr lo mc ms) {i : Int32} {F : Nat → Int32} (hd : decode cc pc = .ok (.iaload, 1)) (hin : vp_in i 8) (hF : f 21 = F) (h : JW κ k n (WD ε ad v f u g) (pc + 1) lv (.int (F i.toNatClampNeg) :: st)) : JW κ k n (WD ε ad v f u g) pc lv (.int i :: .ref (ad 21) :: st) := by
  subst hF
  exact j_iald C hd 21 wl_21 hin h
theorem wt_21 {F : Nat → Int32} : (WD ε ad v f u g).set 21 (ad 21, .inl (ε.2.2.1, 8, .inl F)) = WD ε ad v (va_up f 21 F) u g := rfl
theorem as_21 (C : CX κ ε own cc nL ret fr lo mc ms) {i x : Int32} {F F2 : Nat → Int32} (hd : decode cc pc = .ok (.iastore, 1)) (hin : vp_in i 8) (hF : f 21 = F2) (hF2 : upd F2 i.toNatClampNeg x = F) (h : JW κ k n (WD ε ad v (va_up f 21 F) u g) (pc + 1) lv st) : JW κ k n (WD ε ad v f u g) pc lv (.int x :: .int i :: .ref (ad 21) :: st) := by
  subst hF; subst hF2
  exact j_iast C hd 21 wl_21 hin wt_21 h
theorem an_21 (C : CX κ ε own cc nL ret fr lo mc ms) (hd : decode cc pc = .ok (.arraylength, 1)) (h : JW κ k n (WD ε ad v f u g) (pc + 1) lv (.int 8 :: st)) : JW κ k n (WD ε ad v f u g) pc lv (.ref (ad 21) :: st) := j_alen C hd 21 1 wl_21 rfl rfl h
theorem g_22_memory (C : CX κ ε own cc nL ret fr lo mc ms) {ix : Nat} (hd : decode cc pc = .ok (.getfield ix, 3)) (hw : Cond.fieldLink own ix "RingDevicesModel" "memory" "[B" ∈ TB) (h : JW κ k n (WD ε ad v f u g) (pc + 3) lv (.ref (ad 23) :: st)) : JW κ k n (WD ε ad v f u g) pc lv (.ref (ad 22) :: st) := j_get C hd 22 wl_22 inX9 rfl 0 (by decide) hw rfl rfl h
theorem g_22_disk (C : CX κ ε own cc nL ret fr lo mc ms) {ix : Nat} (hd : decode cc pc = .ok (.getfield ix, 3)) (hw : Cond.fieldLink own ix "RingDevicesModel" "disk" "[B" ∈ TB) (h : JW κ k n (WD ε ad v f u g) (pc + 3) lv (.ref (ad 24) :: st)) : JW κ k n (WD ε ad v f u g) pc lv (.ref (ad 22) :: st) := j_get C hd 22 wl_22 inX9 rfl 1 (by decide) hw rfl rfl h
theorem g_22_state (C : CX κ ε own cc nL ret fr lo mc ms) {ix : Nat} {x : Int32} (hd : decode cc pc = .ok (.getfield ix, 3)) (hw : Cond.fieldLink own ix "RingDevicesModel" "state" "I" ∈ TB) (hv : u 0 = x) (h : JW κ k n (WD ε ad v f u g) (pc + 3) lv (.int x :: st)) : JW κ k n (WD ε ad v f u g) pc lv (.ref (ad 22) :: st) := by
  subst hv
  exact j_get C hd 22 wl_22 inX9 rfl 2 (by decide) hw rfl rfl h
theorem ws_22_state {x : Int32} : (WD ε ad v f u g).set 22 (ad 22, .inr (9, [.ref (ad 23), .ref (ad 24), .int (u 0), .int (u 1), .int (u 2), .ref (ad 25), .ref (ad 26), .ref (ad 27), .ref (ad 28), .ref (ad 29), .ref (ad 30), .ref (ad 31), .int (u 3), .ref (ad 32), .ref (ad 33), .int (u 4), .int (u 5), .ref (ad 34), .ref (ad 35), .int (u 6), .int (u 7), .int (u 8), .ref (ad 36), .ref (ad 37), .int (u 9), .int (u 10), .int (u 11), .ref (ad 38), .ref (ad 39), .ref (ad 40), .ref (ad 41), .ref (ad 42)].set 2 (.int x))) = WD ε ad v f (upd u 0 x) g := rfl
theorem p_22_state (C : CX κ ε own cc nL ret fr lo mc ms) {ix : Nat} {x : Int32} (hd : decode cc pc = .ok (.putfield ix, 3)) (hw : Cond.fieldLink own ix "RingDevicesModel" "state" "I" ∈ TB) (h : JW κ k n (WD ε ad v f (upd u 0 x) g) (pc + 3) lv st) : JW κ k n (WD ε ad v f u g) pc lv (.int x :: .ref (ad 22) :: st) := j_put C hd 22 wl_22 inX9 tyX9 tyX9_ok nmX9 rfl 2 (by decide) hw rfl rfl rfl rfl (Nat.le_of_ble_eq_true rfl) ws_22_state h
theorem g_22_tables (C : CX κ ε own cc nL ret fr lo mc ms) {ix : Nat} {x : Int32} (hd : decode cc pc = .ok (.getfield ix, 3)) (hw : Cond.fieldLink own ix "RingDevicesModel" "tables" "Z" ∈ TB) (hv : u 1 = x) (h : JW κ k n (WD ε ad v f u g) (pc + 3) lv (.int x :: st)) : JW κ k n (WD ε ad v f u g) pc lv (.ref (ad 22) :: st) := by
  subst hv
  exact j_get C hd 22 wl_22 inX9 rfl 3 (by decide) hw rfl rfl h
theorem ws_22_tables {x : Int32} : (WD ε ad v f u g).set 22 (ad 22, .inr (9, [.ref (ad 23), .ref (ad 24), .int (u 0), .int (u 1), .int (u 2), .ref (ad 25), .ref (ad 26), .ref (ad 27), .ref (ad 28), .ref (ad 29), .ref (ad 30), .ref (ad 31), .int (u 3), .ref (ad 32), .ref (ad 33), .int (u 4), .int (u 5), .ref (ad 34), .ref (ad 35), .int (u 6), .int (u 7), .int (u 8), .ref (ad 36), .ref (ad 37), .int (u 9), .int (u 10), .int (u 11), .ref (ad 38), .ref (ad 39), .ref (ad 40), .ref (ad 41), .ref (ad 42)].set 3 (.int x))) = WD ε ad v f (upd u 1 x) g := rfl
theorem p_22_tables (C : CX κ ε own cc nL ret fr lo mc ms) {ix : Nat} {x : Int32} (hd : decode cc pc = .ok (.putfield ix, 3)) (hw : Cond.fieldLink own ix "RingDevicesModel" "tables" "Z" ∈ TB) (hb : x = 0 ∨ x = 1) (h : JW κ k n (WD ε ad v f (upd u 1 x) g) (pc + 3) lv st) : JW κ k n (WD ε ad v f u g) pc lv (.int x :: .ref (ad 22) :: st) := j_put C hd 22 wl_22 inX9 tyX9 tyX9_ok nmX9 rfl 3 (by decide) hw rfl rfl (nb_b hb).1 (nb_b hb).2 (Nat.le_of_ble_eq_true rfl) ws_22_tables h
theorem g_22_started (C : CX κ ε own cc nL ret fr lo mc ms) {ix : Nat} {x : Int32} (hd : decode cc pc = .ok (.getfield ix, 3)) (hw : Cond.fieldLink own ix "RingDevicesModel" "started" "Z" ∈ TB) (hv : u 2 = x) (h : JW κ k n (WD ε ad v f u g) (pc + 3) lv (.int x :: st)) : JW κ k n (WD ε ad v f u g) pc lv (.ref (ad 22) :: st) := by
  subst hv
  exact j_get C hd 22 wl_22 inX9 rfl 4 (by decide) hw rfl rfl h
theorem ws_22_started {x : Int32} : (WD ε ad v f u g).set 22 (ad 22, .inr (9, [.ref (ad 23), .ref (ad 24), .int (u 0), .int (u 1), .int (u 2), .ref (ad 25), .ref (ad 26), .ref (ad 27), .ref (ad 28), .ref (ad 29), .ref (ad 30), .ref (ad 31), .int (u 3), .ref (ad 32), .ref (ad 33), .int (u 4), .int (u 5), .ref (ad 34), .ref (ad 35), .int (u 6), .int (u 7), .int (u 8), .ref (ad 36), .ref (ad 37), .int (u 9), .int (u 10), .int (u 11), .ref (ad 38), .ref (ad 39), .ref (ad 40), .ref (ad 41), .ref (ad 42)].set 4 (.int x))) = WD ε ad v f (upd u 2 x) g := rfl
theorem p_22_started (C : CX κ ε own cc nL ret fr lo mc ms) {ix : Nat} {x : Int32} (hd : decode cc pc = .ok (.putfield ix, 3)) (hw : Cond.fieldLink own ix "RingDevicesModel" "started" "Z" ∈ TB) (hb : x = 0 ∨ x = 1) (h : JW κ k n (WD ε ad v f (upd u 2 x) g) (pc + 3) lv st) : JW κ k n (WD ε ad v f u g) pc lv (.int x :: .ref (ad 22) :: st) := j_put C hd 22 wl_22 inX9 tyX9 tyX9_ok nmX9 rfl 4 (by decide) hw rfl rfl (nb_b hb).1 (nb_b hb).2 (Nat.le_of_ble_eq_true rfl) ws_22_started h
theorem g_22_sizes (C : CX κ ε own cc nL ret fr lo mc ms) {ix : Nat} (hd : decode cc pc = .ok (.getfield ix, 3)) (hw : Cond.fieldLink own ix "RingDevicesModel" "sizes" "[I" ∈ TB) (h : JW κ k n (WD ε ad v f u g) (pc + 3) lv (.ref (ad 25) :: st)) : JW κ k n (WD ε ad v f u g) pc lv (.ref (ad 22) :: st) := j_get C hd 22 wl_22 inX9 rfl 5 (by decide) hw rfl rfl h
theorem g_22_descriptors (C : CX κ ε own cc nL ret fr lo mc ms) {ix : Nat} (hd : decode cc pc = .ok (.getfield ix, 3)) (hw : Cond.fieldLink own ix "RingDevicesModel" "descriptors" "[I" ∈ TB) (h : JW κ k n (WD ε ad v f u g) (pc + 3) lv (.ref (ad 26) :: st)) : JW κ k n (WD ε ad v f u g) pc lv (.ref (ad 22) :: st) := j_get C hd 22 wl_22 inX9 rfl 6 (by decide) hw rfl rfl h
theorem g_22_availables (C : CX κ ε own cc nL ret fr lo mc ms) {ix : Nat} (hd : decode cc pc = .ok (.getfield ix, 3)) (hw : Cond.fieldLink own ix "RingDevicesModel" "availables" "[I" ∈ TB) (h : JW κ k n (WD ε ad v f u g) (pc + 3) lv (.ref (ad 27) :: st)) : JW κ k n (WD ε ad v f u g) pc lv (.ref (ad 22) :: st) := j_get C hd 22 wl_22 inX9 rfl 7 (by decide) hw rfl rfl h
theorem g_22_useds (C : CX κ ε own cc nL ret fr lo mc ms) {ix : Nat} (hd : decode cc pc = .ok (.getfield ix, 3)) (hw : Cond.fieldLink own ix "RingDevicesModel" "useds" "[I" ∈ TB) (h : JW κ k n (WD ε ad v f u g) (pc + 3) lv (.ref (ad 28) :: st)) : JW κ k n (WD ε ad v f u g) pc lv (.ref (ad 22) :: st) := j_get C hd 22 wl_22 inX9 rfl 8 (by decide) hw rfl rfl h
theorem g_22_takens (C : CX κ ε own cc nL ret fr lo mc ms) {ix : Nat} (hd : decode cc pc = .ok (.getfield ix, 3)) (hw : Cond.fieldLink own ix "RingDevicesModel" "takens" "[I" ∈ TB) (h : JW κ k n (WD ε ad v f u g) (pc + 3) lv (.ref (ad 29) :: st)) : JW κ k n (WD ε ad v f u g) pc lv (.ref (ad 22) :: st) := j_get C hd 22 wl_22 inX9 rfl 9 (by decide) hw rfl rfl h
theorem g_22_givens (C : CX κ ε own cc nL ret fr lo mc ms) {ix : Nat} (hd : decode cc pc = .ok (.getfield ix, 3)) (hw : Cond.fieldLink own ix "RingDevicesModel" "givens" "[I" ∈ TB) (h : JW κ k n (WD ε ad v f u g) (pc + 3) lv (.ref (ad 30) :: st)) : JW κ k n (WD ε ad v f u g) pc lv (.ref (ad 22) :: st) := j_get C hd 22 wl_22 inX9 rfl 10 (by decide) hw rfl rfl h
theorem g_22_signals (C : CX κ ε own cc nL ret fr lo mc ms) {ix : Nat} (hd : decode cc pc = .ok (.getfield ix, 3)) (hw : Cond.fieldLink own ix "RingDevicesModel" "signals" "[I" ∈ TB) (h : JW κ k n (WD ε ad v f u g) (pc + 3) lv (.ref (ad 31) :: st)) : JW κ k n (WD ε ad v f u g) pc lv (.ref (ad 22) :: st) := j_get C hd 22 wl_22 inX9 rfl 11 (by decide) hw rfl rfl h
theorem g_22_head (C : CX κ ε own cc nL ret fr lo mc ms) {ix : Nat} {x : Int32} (hd : decode cc pc = .ok (.getfield ix, 3)) (hw : Cond.fieldLink own ix "RingDevicesModel" "head" "I" ∈ TB) (hv : u 3 = x) (h : JW κ k n (WD ε ad v f u g) (pc + 3) lv (.int x :: st)) : JW κ k n (WD ε ad v f u g) pc lv (.ref (ad 22) :: st) := by
  subst hv
  exact j_get C hd 22 wl_22 inX9 rfl 12 (by decide) hw rfl rfl h
theorem ws_22_head {x : Int32} : (WD ε ad v f u g).set 22 (ad 22, .inr (9, [.ref (ad 23), .ref (ad 24), .int (u 0), .int (u 1), .int (u 2), .ref (ad 25), .ref (ad 26), .ref (ad 27), .ref (ad 28), .ref (ad 29), .ref (ad 30), .ref (ad 31), .int (u 3), .ref (ad 32), .ref (ad 33), .int (u 4), .int (u 5), .ref (ad 34), .ref (ad 35), .int (u 6), .int (u 7), .int (u 8), .ref (ad 36), .ref (ad 37), .int (u 9), .int (u 10), .int (u 11), .ref (ad 38), .ref (ad 39), .ref (ad 40), .ref (ad 41), .ref (ad 42)].set 12 (.int x))) = WD ε ad v f (upd u 3 x) g := rfl
theorem p_22_head (C : CX κ ε own cc nL ret fr lo mc ms) {ix : Nat} {x : Int32} (hd : decode cc pc = .ok (.putfield ix, 3)) (hw : Cond.fieldLink own ix "RingDevicesModel" "head" "I" ∈ TB) (h : JW κ k n (WD ε ad v f (upd u 3 x) g) (pc + 3) lv st) : JW κ k n (WD ε ad v f u g) pc lv (.int x :: .ref (ad 22) :: st) := j_put C hd 22 wl_22 inX9 tyX9 tyX9_ok nmX9 rfl 12 (by decide) hw rfl rfl rfl rfl (Nat.le_of_ble_eq_true rfl) ws_22_head h
theorem g_22_reads (C : CX κ ε own cc nL ret fr lo mc ms) {ix : Nat} (hd : decode cc pc = .ok (.getfield ix, 3)) (hw : Cond.fieldLink own ix "RingDevicesModel" "reads" "[I" ∈ TB) (h : JW κ k n (WD ε ad v f u g) (pc + 3) lv (.ref (ad 32) :: st)) : JW κ k n (WD ε ad v f u g) pc lv (.ref (ad 22) :: st) := j_get C hd 22 wl_22 inX9 rfl 13 (by decide) hw rfl rfl h
theorem g_22_readSizes (C : CX κ ε own cc nL ret fr lo mc ms) {ix : Nat} (hd : decode cc pc = .ok (.getfield ix, 3)) (hw : Cond.fieldLink own ix "RingDevicesModel" "readSizes" "[I" ∈ TB) (h : JW κ k n (WD ε ad v f u g) (pc + 3) lv (.ref (ad 33) :: st)) : JW κ k n (WD ε ad v f u g) pc lv (.ref (ad 22) :: st) := j_get C hd 22 wl_22 inX9 rfl 14 (by decide) hw rfl rfl h
theorem g_22_readMany (C : CX κ ε own cc nL ret fr lo mc ms) {ix : Nat} {x : Int32} (hd : decode cc pc = .ok (.getfield ix, 3)) (hw : Cond.fieldLink own ix "RingDevicesModel" "readMany" "I" ∈ TB) (hv : u 4 = x) (h : JW κ k n (WD ε ad v f u g) (pc + 3) lv (.int x :: st)) : JW κ k n (WD ε ad v f u g) pc lv (.ref (ad 22) :: st) := by
  subst hv
  exact j_get C hd 22 wl_22 inX9 rfl 15 (by decide) hw rfl rfl h
theorem ws_22_readMany {x : Int32} : (WD ε ad v f u g).set 22 (ad 22, .inr (9, [.ref (ad 23), .ref (ad 24), .int (u 0), .int (u 1), .int (u 2), .ref (ad 25), .ref (ad 26), .ref (ad 27), .ref (ad 28), .ref (ad 29), .ref (ad 30), .ref (ad 31), .int (u 3), .ref (ad 32), .ref (ad 33), .int (u 4), .int (u 5), .ref (ad 34), .ref (ad 35), .int (u 6), .int (u 7), .int (u 8), .ref (ad 36), .ref (ad 37), .int (u 9), .int (u 10), .int (u 11), .ref (ad 38), .ref (ad 39), .ref (ad 40), .ref (ad 41), .ref (ad 42)].set 15 (.int x))) = WD ε ad v f (upd u 4 x) g := rfl
theorem p_22_readMany (C : CX κ ε own cc nL ret fr lo mc ms) {ix : Nat} {x : Int32} (hd : decode cc pc = .ok (.putfield ix, 3)) (hw : Cond.fieldLink own ix "RingDevicesModel" "readMany" "I" ∈ TB) (h : JW κ k n (WD ε ad v f (upd u 4 x) g) (pc + 3) lv st) : JW κ k n (WD ε ad v f u g) pc lv (.int x :: .ref (ad 22) :: st) := j_put C hd 22 wl_22 inX9 tyX9 tyX9_ok nmX9 rfl 15 (by decide) hw rfl rfl rfl rfl (Nat.le_of_ble_eq_true rfl) ws_22_readMany h
theorem g_22_readAll (C : CX κ ε own cc nL ret fr lo mc ms) {ix : Nat} {x : Int32} (hd : decode cc pc = .ok (.getfield ix, 3)) (hw : Cond.fieldLink own ix "RingDevicesModel" "readAll" "I" ∈ TB) (hv : u 5 = x) (h : JW κ k n (WD ε ad v f u g) (pc + 3) lv (.int x :: st)) : JW κ k n (WD ε ad v f u g) pc lv (.ref (ad 22) :: st) := by
  subst hv
  exact j_get C hd 22 wl_22 inX9 rfl 16 (by decide) hw rfl rfl h
theorem ws_22_readAll {x : Int32} : (WD ε ad v f u g).set 22 (ad 22, .inr (9, [.ref (ad 23), .ref (ad 24), .int (u 0), .int (u 1), .int (u 2), .ref (ad 25), .ref (ad 26), .ref (ad 27), .ref (ad 28), .ref (ad 29), .ref (ad 30), .ref (ad 31), .int (u 3), .ref (ad 32), .ref (ad 33), .int (u 4), .int (u 5), .ref (ad 34), .ref (ad 35), .int (u 6), .int (u 7), .int (u 8), .ref (ad 36), .ref (ad 37), .int (u 9), .int (u 10), .int (u 11), .ref (ad 38), .ref (ad 39), .ref (ad 40), .ref (ad 41), .ref (ad 42)].set 16 (.int x))) = WD ε ad v f (upd u 5 x) g := rfl
theorem p_22_readAll (C : CX κ ε own cc nL ret fr lo mc ms) {ix : Nat} {x : Int32} (hd : decode cc pc = .ok (.putfield ix, 3)) (hw : Cond.fieldLink own ix "RingDevicesModel" "readAll" "I" ∈ TB) (h : JW κ k n (WD ε ad v f (upd u 5 x) g) (pc + 3) lv st) : JW κ k n (WD ε ad v f u g) pc lv (.int x :: .ref (ad 22) :: st) := j_put C hd 22 wl_22 inX9 tyX9 tyX9_ok nmX9 rfl 16 (by decide) hw rfl rfl rfl rfl (Nat.le_of_ble_eq_true rfl) ws_22_readAll h
theorem g_22_writes (C : CX κ ε own cc nL ret fr lo mc ms) {ix : Nat} (hd : decode cc pc = .ok (.getfield ix, 3)) (hw : Cond.fieldLink own ix "RingDevicesModel" "writes" "[I" ∈ TB) (h : JW κ k n (WD ε ad v f u g) (pc + 3) lv (.ref (ad 34) :: st)) : JW κ k n (WD ε ad v f u g) pc lv (.ref (ad 22) :: st) := j_get C hd 22 wl_22 inX9 rfl 17 (by decide) hw rfl rfl h
theorem g_22_writeSizes (C : CX κ ε own cc nL ret fr lo mc ms) {ix : Nat} (hd : decode cc pc = .ok (.getfield ix, 3)) (hw : Cond.fieldLink own ix "RingDevicesModel" "writeSizes" "[I" ∈ TB) (h : JW κ k n (WD ε ad v f u g) (pc + 3) lv (.ref (ad 35) :: st)) : JW κ k n (WD ε ad v f u g) pc lv (.ref (ad 22) :: st) := j_get C hd 22 wl_22 inX9 rfl 18 (by decide) hw rfl rfl h
theorem g_22_writeMany (C : CX κ ε own cc nL ret fr lo mc ms) {ix : Nat} {x : Int32} (hd : decode cc pc = .ok (.getfield ix, 3)) (hw : Cond.fieldLink own ix "RingDevicesModel" "writeMany" "I" ∈ TB) (hv : u 6 = x) (h : JW κ k n (WD ε ad v f u g) (pc + 3) lv (.int x :: st)) : JW κ k n (WD ε ad v f u g) pc lv (.ref (ad 22) :: st) := by
  subst hv
  exact j_get C hd 22 wl_22 inX9 rfl 19 (by decide) hw rfl rfl h
theorem ws_22_writeMany {x : Int32} : (WD ε ad v f u g).set 22 (ad 22, .inr (9, [.ref (ad 23), .ref (ad 24), .int (u 0), .int (u 1), .int (u 2), .ref (ad 25), .ref (ad 26), .ref (ad 27), .ref (ad 28), .ref (ad 29), .ref (ad 30), .ref (ad 31), .int (u 3), .ref (ad 32), .ref (ad 33), .int (u 4), .int (u 5), .ref (ad 34), .ref (ad 35), .int (u 6), .int (u 7), .int (u 8), .ref (ad 36), .ref (ad 37), .int (u 9), .int (u 10), .int (u 11), .ref (ad 38), .ref (ad 39), .ref (ad 40), .ref (ad 41), .ref (ad 42)].set 19 (.int x))) = WD ε ad v f (upd u 6 x) g := rfl
theorem p_22_writeMany (C : CX κ ε own cc nL ret fr lo mc ms) {ix : Nat} {x : Int32} (hd : decode cc pc = .ok (.putfield ix, 3)) (hw : Cond.fieldLink own ix "RingDevicesModel" "writeMany" "I" ∈ TB) (h : JW κ k n (WD ε ad v f (upd u 6 x) g) (pc + 3) lv st) : JW κ k n (WD ε ad v f u g) pc lv (.int x :: .ref (ad 22) :: st) := j_put C hd 22 wl_22 inX9 tyX9 tyX9_ok nmX9 rfl 19 (by decide) hw rfl rfl rfl rfl (Nat.le_of_ble_eq_true rfl) ws_22_writeMany h
theorem g_22_writeAll (C : CX κ ε own cc nL ret fr lo mc ms) {ix : Nat} {x : Int32} (hd : decode cc pc = .ok (.getfield ix, 3)) (hw : Cond.fieldLink own ix "RingDevicesModel" "writeAll" "I" ∈ TB) (hv : u 7 = x) (h : JW κ k n (WD ε ad v f u g) (pc + 3) lv (.int x :: st)) : JW κ k n (WD ε ad v f u g) pc lv (.ref (ad 22) :: st) := by
  subst hv
  exact j_get C hd 22 wl_22 inX9 rfl 20 (by decide) hw rfl rfl h
theorem ws_22_writeAll {x : Int32} : (WD ε ad v f u g).set 22 (ad 22, .inr (9, [.ref (ad 23), .ref (ad 24), .int (u 0), .int (u 1), .int (u 2), .ref (ad 25), .ref (ad 26), .ref (ad 27), .ref (ad 28), .ref (ad 29), .ref (ad 30), .ref (ad 31), .int (u 3), .ref (ad 32), .ref (ad 33), .int (u 4), .int (u 5), .ref (ad 34), .ref (ad 35), .int (u 6), .int (u 7), .int (u 8), .ref (ad 36), .ref (ad 37), .int (u 9), .int (u 10), .int (u 11), .ref (ad 38), .ref (ad 39), .ref (ad 40), .ref (ad 41), .ref (ad 42)].set 20 (.int x))) = WD ε ad v f (upd u 7 x) g := rfl
theorem p_22_writeAll (C : CX κ ε own cc nL ret fr lo mc ms) {ix : Nat} {x : Int32} (hd : decode cc pc = .ok (.putfield ix, 3)) (hw : Cond.fieldLink own ix "RingDevicesModel" "writeAll" "I" ∈ TB) (h : JW κ k n (WD ε ad v f (upd u 7 x) g) (pc + 3) lv st) : JW κ k n (WD ε ad v f u g) pc lv (.int x :: .ref (ad 22) :: st) := j_put C hd 22 wl_22 inX9 tyX9 tyX9_ok nmX9 rfl 20 (by decide) hw rfl rfl rfl rfl (Nat.le_of_ble_eq_true rfl) ws_22_writeAll h
theorem g_22_bad (C : CX κ ε own cc nL ret fr lo mc ms) {ix : Nat} {x : Int32} (hd : decode cc pc = .ok (.getfield ix, 3)) (hw : Cond.fieldLink own ix "RingDevicesModel" "bad" "Z" ∈ TB) (hv : u 8 = x) (h : JW κ k n (WD ε ad v f u g) (pc + 3) lv (.int x :: st)) : JW κ k n (WD ε ad v f u g) pc lv (.ref (ad 22) :: st) := by
  subst hv
  exact j_get C hd 22 wl_22 inX9 rfl 21 (by decide) hw rfl rfl h
theorem ws_22_bad {x : Int32} : (WD ε ad v f u g).set 22 (ad 22, .inr (9, [.ref (ad 23), .ref (ad 24), .int (u 0), .int (u 1), .int (u 2), .ref (ad 25), .ref (ad 26), .ref (ad 27), .ref (ad 28), .ref (ad 29), .ref (ad 30), .ref (ad 31), .int (u 3), .ref (ad 32), .ref (ad 33), .int (u 4), .int (u 5), .ref (ad 34), .ref (ad 35), .int (u 6), .int (u 7), .int (u 8), .ref (ad 36), .ref (ad 37), .int (u 9), .int (u 10), .int (u 11), .ref (ad 38), .ref (ad 39), .ref (ad 40), .ref (ad 41), .ref (ad 42)].set 21 (.int x))) = WD ε ad v f (upd u 8 x) g := rfl
theorem p_22_bad (C : CX κ ε own cc nL ret fr lo mc ms) {ix : Nat} {x : Int32} (hd : decode cc pc = .ok (.putfield ix, 3)) (hw : Cond.fieldLink own ix "RingDevicesModel" "bad" "Z" ∈ TB) (hb : x = 0 ∨ x = 1) (h : JW κ k n (WD ε ad v f (upd u 8 x) g) (pc + 3) lv st) : JW κ k n (WD ε ad v f u g) pc lv (.int x :: .ref (ad 22) :: st) := j_put C hd 22 wl_22 inX9 tyX9 tyX9_ok nmX9 rfl 21 (by decide) hw rfl rfl (nb_b hb).1 (nb_b hb).2 (Nat.le_of_ble_eq_true rfl) ws_22_bad h
theorem g_22_wires (C : CX κ ε own cc nL ret fr lo mc ms) {ix : Nat} (hd : decode cc pc = .ok (.getfield ix, 3)) (hw : Cond.fieldLink own ix "RingDevicesModel" "wires" "[B" ∈ TB) (h : JW κ k n (WD ε ad v f u g) (pc + 3) lv (.ref (ad 36) :: st)) : JW κ k n (WD ε ad v f u g) pc lv (.ref (ad 22) :: st) := j_get C hd 22 wl_22 inX9 rfl 22 (by decide) hw rfl rfl h
theorem g_22_wireSizes (C : CX κ ε own cc nL ret fr lo mc ms) {ix : Nat} (hd : decode cc pc = .ok (.getfield ix, 3)) (hw : Cond.fieldLink own ix "RingDevicesModel" "wireSizes" "[I" ∈ TB) (h : JW κ k n (WD ε ad v f u g) (pc + 3) lv (.ref (ad 37) :: st)) : JW κ k n (WD ε ad v f u g) pc lv (.ref (ad 22) :: st) := j_get C hd 22 wl_22 inX9 rfl 23 (by decide) hw rfl rfl h
theorem g_22_went (C : CX κ ε own cc nL ret fr lo mc ms) {ix : Nat} {x : Int32} (hd : decode cc pc = .ok (.getfield ix, 3)) (hw : Cond.fieldLink own ix "RingDevicesModel" "went" "I" ∈ TB) (hv : u 9 = x) (h : JW κ k n (WD ε ad v f u g) (pc + 3) lv (.int x :: st)) : JW κ k n (WD ε ad v f u g) pc lv (.ref (ad 22) :: st) := by
  subst hv
  exact j_get C hd 22 wl_22 inX9 rfl 24 (by decide) hw rfl rfl h
theorem ws_22_went {x : Int32} : (WD ε ad v f u g).set 22 (ad 22, .inr (9, [.ref (ad 23), .ref (ad 24), .int (u 0), .int (u 1), .int (u 2), .ref (ad 25), .ref (ad 26), .ref (ad 27), .ref (ad 28), .ref (ad 29), .ref (ad 30), .ref (ad 31), .int (u 3), .ref (ad 32), .ref (ad 33), .int (u 4), .int (u 5), .ref (ad 34), .ref (ad 35), .int (u 6), .int (u 7), .int (u 8), .ref (ad 36), .ref (ad 37), .int (u 9), .int (u 10), .int (u 11), .ref (ad 38), .ref (ad 39), .ref (ad 40), .ref (ad 41), .ref (ad 42)].set 24 (.int x))) = WD ε ad v f (upd u 9 x) g := rfl
theorem p_22_went (C : CX κ ε own cc nL ret fr lo mc ms) {ix : Nat} {x : Int32} (hd : decode cc pc = .ok (.putfield ix, 3)) (hw : Cond.fieldLink own ix "RingDevicesModel" "went" "I" ∈ TB) (h : JW κ k n (WD ε ad v f (upd u 9 x) g) (pc + 3) lv st) : JW κ k n (WD ε ad v f u g) pc lv (.int x :: .ref (ad 22) :: st) := j_put C hd 22 wl_22 inX9 tyX9 tyX9_ok nmX9 rfl 24 (by decide) hw rfl rfl rfl rfl (Nat.le_of_ble_eq_true rfl) ws_22_went h
theorem g_22_came (C : CX κ ε own cc nL ret fr lo mc ms) {ix : Nat} {x : Int32} (hd : decode cc pc = .ok (.getfield ix, 3)) (hw : Cond.fieldLink own ix "RingDevicesModel" "came" "I" ∈ TB) (hv : u 10 = x) (h : JW κ k n (WD ε ad v f u g) (pc + 3) lv (.int x :: st)) : JW κ k n (WD ε ad v f u g) pc lv (.ref (ad 22) :: st) := by
  subst hv
  exact j_get C hd 22 wl_22 inX9 rfl 25 (by decide) hw rfl rfl h
theorem ws_22_came {x : Int32} : (WD ε ad v f u g).set 22 (ad 22, .inr (9, [.ref (ad 23), .ref (ad 24), .int (u 0), .int (u 1), .int (u 2), .ref (ad 25), .ref (ad 26), .ref (ad 27), .ref (ad 28), .ref (ad 29), .ref (ad 30), .ref (ad 31), .int (u 3), .ref (ad 32), .ref (ad 33), .int (u 4), .int (u 5), .ref (ad 34), .ref (ad 35), .int (u 6), .int (u 7), .int (u 8), .ref (ad 36), .ref (ad 37), .int (u 9), .int (u 10), .int (u 11), .ref (ad 38), .ref (ad 39), .ref (ad 40), .ref (ad 41), .ref (ad 42)].set 25 (.int x))) = WD ε ad v f (upd u 10 x) g := rfl
theorem p_22_came (C : CX κ ε own cc nL ret fr lo mc ms) {ix : Nat} {x : Int32} (hd : decode cc pc = .ok (.putfield ix, 3)) (hw : Cond.fieldLink own ix "RingDevicesModel" "came" "I" ∈ TB) (h : JW κ k n (WD ε ad v f (upd u 10 x) g) (pc + 3) lv st) : JW κ k n (WD ε ad v f u g) pc lv (.int x :: .ref (ad 22) :: st) := j_put C hd 22 wl_22 inX9 tyX9 tyX9_ok nmX9 rfl 25 (by decide) hw rfl rfl rfl rfl (Nat.le_of_ble_eq_true rfl) ws_22_came h
theorem g_22_dropped (C : CX κ ε own cc nL ret fr lo mc ms) {ix : Nat} {x : Int32} (hd : decode cc pc = .ok (.getfield ix, 3)) (hw : Cond.fieldLink own ix "RingDevicesModel" "dropped" "I" ∈ TB) (hv : u 11 = x) (h : JW κ k n (WD ε ad v f u g) (pc + 3) lv (.int x :: st)) : JW κ k n (WD ε ad v f u g) pc lv (.ref (ad 22) :: st) := by
  subst hv
  exact j_get C hd 22 wl_22 inX9 rfl 26 (by decide) hw rfl rfl h
theorem ws_22_dropped {x : Int32} : (WD ε ad v f u g).set 22 (ad 22, .inr (9, [.ref (ad 23), .ref (ad 24), .int (u 0), .int (u 1), .int (u 2), .ref (ad 25), .ref (ad 26), .ref (ad 27), .ref (ad 28), .ref (ad 29), .ref (ad 30), .ref (ad 31), .int (u 3), .ref (ad 32), .ref (ad 33), .int (u 4), .int (u 5), .ref (ad 34), .ref (ad 35), .int (u 6), .int (u 7), .int (u 8), .ref (ad 36), .ref (ad 37), .int (u 9), .int (u 10), .int (u 11), .ref (ad 38), .ref (ad 39), .ref (ad 40), .ref (ad 41), .ref (ad 42)].set 26 (.int x))) = WD ε ad v f (upd u 11 x) g := rfl
theorem p_22_dropped (C : CX κ ε own cc nL ret fr lo mc ms) {ix : Nat} {x : Int32} (hd : decode cc pc = .ok (.putfield ix, 3)) (hw : Cond.fieldLink own ix "RingDevicesModel" "dropped" "I" ∈ TB) (h : JW κ k n (WD ε ad v f (upd u 11 x) g) (pc + 3) lv st) : JW κ k n (WD ε ad v f u g) pc lv (.int x :: .ref (ad 22) :: st) := j_put C hd 22 wl_22 inX9 tyX9 tyX9_ok nmX9 rfl 26 (by decide) hw rfl rfl rfl rfl (Nat.le_of_ble_eq_true rfl) ws_22_dropped h
theorem g_22_lent (C : CX κ ε own cc nL ret fr lo mc ms) {ix : Nat} (hd : decode cc pc = .ok (.getfield ix, 3)) (hw : Cond.fieldLink own ix "RingDevicesModel" "lent" "[Z" ∈ TB) (h : JW κ k n (WD ε ad v f u g) (pc + 3) lv (.ref (ad 38) :: st)) : JW κ k n (WD ε ad v f u g) pc lv (.ref (ad 22) :: st) := j_get C hd 22 wl_22 inX9 rfl 27 (by decide) hw rfl rfl h
theorem g_22_heads (C : CX κ ε own cc nL ret fr lo mc ms) {ix : Nat} (hd : decode cc pc = .ok (.getfield ix, 3)) (hw : Cond.fieldLink own ix "RingDevicesModel" "heads" "[I" ∈ TB) (h : JW κ k n (WD ε ad v f u g) (pc + 3) lv (.ref (ad 39) :: st)) : JW κ k n (WD ε ad v f u g) pc lv (.ref (ad 22) :: st) := j_get C hd 22 wl_22 inX9 rfl 28 (by decide) hw rfl rfl h
theorem g_22_counts (C : CX κ ε own cc nL ret fr lo mc ms) {ix : Nat} (hd : decode cc pc = .ok (.getfield ix, 3)) (hw : Cond.fieldLink own ix "RingDevicesModel" "counts" "[I" ∈ TB) (h : JW κ k n (WD ε ad v f u g) (pc + 3) lv (.ref (ad 40) :: st)) : JW κ k n (WD ε ad v f u g) pc lv (.ref (ad 22) :: st) := j_get C hd 22 wl_22 inX9 rfl 29 (by decide) hw rfl rfl h
theorem g_22_saws (C : CX κ ε own cc nL ret fr lo mc ms) {ix : Nat} (hd : decode cc pc = .ok (.getfield ix, 3)) (hw : Cond.fieldLink own ix "RingDevicesModel" "saws" "[I" ∈ TB) (h : JW κ k n (WD ε ad v f u g) (pc + 3) lv (.ref (ad 41) :: st)) : JW κ k n (WD ε ad v f u g) pc lv (.ref (ad 22) :: st) := j_get C hd 22 wl_22 inX9 rfl 30 (by decide) hw rfl rfl h
theorem g_22_written (C : CX κ ε own cc nL ret fr lo mc ms) {ix : Nat} (hd : decode cc pc = .ok (.getfield ix, 3)) (hw : Cond.fieldLink own ix "RingDevicesModel" "written" "[I" ∈ TB) (h : JW κ k n (WD ε ad v f u g) (pc + 3) lv (.ref (ad 42) :: st)) : JW κ k n (WD ε ad v f u g) pc lv (.ref (ad 22) :: st) := j_get C hd 22 wl_22 inX9 rfl 31 (by decide) hw rfl rfl h
theorem al_23 (C : CX κ ε own cc nL ret fr lo mc ms) {i : Int32} {F : Nat → Int32} (hd : decode cc pc = .ok (.baload, 1)) (hin : vp_in i 4096) (hF : g 23 = F) (h : JW κ k n (WD ε ad v f u g) (pc + 1) lv (.int (F i.toNatClampNeg) :: st)) : JW κ k n (WD ε ad v f u g) pc lv (.int i :: .ref (ad 23) :: st) := by
  subst hF
  exact j_bald C hd 23 wl_23 hin h
theorem wt_23 {F : Nat → Int32} : (WD ε ad v f u g).set 23 (ad 23, .inl (ε.2.1, 4096, .inl F)) = WD ε ad v f u (va_up g 23 F) := rfl
theorem as_23 (C : CX κ ε own cc nL ret fr lo mc ms) {i x : Int32} {F F2 : Nat → Int32} (hd : decode cc pc = .ok (.bastore, 1)) (hin : vp_in i 4096) (hF : g 23 = F2) (hF2 : upd F2 i.toNatClampNeg (vp_nar .byte x) = F) (h : JW κ k n (WD ε ad v f u (va_up g 23 F)) (pc + 1) lv st) : JW κ k n (WD ε ad v f u g) pc lv (.int x :: .int i :: .ref (ad 23) :: st) := by
  subst hF; subst hF2
  exact j_bast C hd 23 wl_23 hin wt_23 h
theorem an_23 (C : CX κ ε own cc nL ret fr lo mc ms) (hd : decode cc pc = .ok (.arraylength, 1)) (h : JW κ k n (WD ε ad v f u g) (pc + 1) lv (.int 4096 :: st)) : JW κ k n (WD ε ad v f u g) pc lv (.ref (ad 23) :: st) := j_alen C hd 23 0 wl_23 rfl rfl h
theorem al_24 (C : CX κ ε own cc nL ret fr lo mc ms) {i : Int32} {F : Nat → Int32} (hd : decode cc pc = .ok (.baload, 1)) (hin : vp_in i 2048) (hF : g 24 = F) (h : JW κ k n (WD ε ad v f u g) (pc + 1) lv (.int (F i.toNatClampNeg) :: st)) : JW κ k n (WD ε ad v f u g) pc lv (.int i :: .ref (ad 24) :: st) := by
  subst hF
  exact j_bald C hd 24 wl_24 hin h
theorem wt_24 {F : Nat → Int32} : (WD ε ad v f u g).set 24 (ad 24, .inl (ε.2.1, 2048, .inl F)) = WD ε ad v f u (va_up g 24 F) := rfl
theorem as_24 (C : CX κ ε own cc nL ret fr lo mc ms) {i x : Int32} {F F2 : Nat → Int32} (hd : decode cc pc = .ok (.bastore, 1)) (hin : vp_in i 2048) (hF : g 24 = F2) (hF2 : upd F2 i.toNatClampNeg (vp_nar .byte x) = F) (h : JW κ k n (WD ε ad v f u (va_up g 24 F)) (pc + 1) lv st) : JW κ k n (WD ε ad v f u g) pc lv (.int x :: .int i :: .ref (ad 24) :: st) := by
  subst hF; subst hF2
  exact j_bast C hd 24 wl_24 hin wt_24 h
theorem an_24 (C : CX κ ε own cc nL ret fr lo mc ms) (hd : decode cc pc = .ok (.arraylength, 1)) (h : JW κ k n (WD ε ad v f u g) (pc + 1) lv (.int 2048 :: st)) : JW κ k n (WD ε ad v f u g) pc lv (.ref (ad 24) :: st) := j_alen C hd 24 0 wl_24 rfl rfl h
theorem al_25 (C : CX κ ε own cc nL ret fr lo mc ms) {i : Int32} {F : Nat → Int32} (hd : decode cc pc = .ok (.iaload, 1)) (hin : vp_in i 3) (hF : g 25 = F) (h : JW κ k n (WD ε ad v f u g) (pc + 1) lv (.int (F i.toNatClampNeg) :: st)) : JW κ k n (WD ε ad v f u g) pc lv (.int i :: .ref (ad 25) :: st) := by
  subst hF
  exact j_iald C hd 25 wl_25 hin h
theorem wt_25 {F : Nat → Int32} : (WD ε ad v f u g).set 25 (ad 25, .inl (ε.2.2.1, 3, .inl F)) = WD ε ad v f u (va_up g 25 F) := rfl
theorem as_25 (C : CX κ ε own cc nL ret fr lo mc ms) {i x : Int32} {F F2 : Nat → Int32} (hd : decode cc pc = .ok (.iastore, 1)) (hin : vp_in i 3) (hF : g 25 = F2) (hF2 : upd F2 i.toNatClampNeg x = F) (h : JW κ k n (WD ε ad v f u (va_up g 25 F)) (pc + 1) lv st) : JW κ k n (WD ε ad v f u g) pc lv (.int x :: .int i :: .ref (ad 25) :: st) := by
  subst hF; subst hF2
  exact j_iast C hd 25 wl_25 hin wt_25 h
theorem an_25 (C : CX κ ε own cc nL ret fr lo mc ms) (hd : decode cc pc = .ok (.arraylength, 1)) (h : JW κ k n (WD ε ad v f u g) (pc + 1) lv (.int 3 :: st)) : JW κ k n (WD ε ad v f u g) pc lv (.ref (ad 25) :: st) := j_alen C hd 25 1 wl_25 rfl rfl h
theorem al_26 (C : CX κ ε own cc nL ret fr lo mc ms) {i : Int32} {F : Nat → Int32} (hd : decode cc pc = .ok (.iaload, 1)) (hin : vp_in i 3) (hF : g 26 = F) (h : JW κ k n (WD ε ad v f u g) (pc + 1) lv (.int (F i.toNatClampNeg) :: st)) : JW κ k n (WD ε ad v f u g) pc lv (.int i :: .ref (ad 26) :: st) := by
  subst hF
  exact j_iald C hd 26 wl_26 hin h
theorem wt_26 {F : Nat → Int32} : (WD ε ad v f u g).set 26 (ad 26, .inl (ε.2.2.1, 3, .inl F)) = WD ε ad v f u (va_up g 26 F) := rfl
theorem as_26 (C : CX κ ε own cc nL ret fr lo mc ms) {i x : Int32} {F F2 : Nat → Int32} (hd : decode cc pc = .ok (.iastore, 1)) (hin : vp_in i 3) (hF : g 26 = F2) (hF2 : upd F2 i.toNatClampNeg x = F) (h : JW κ k n (WD ε ad v f u (va_up g 26 F)) (pc + 1) lv st) : JW κ k n (WD ε ad v f u g) pc lv (.int x :: .int i :: .ref (ad 26) :: st) := by
  subst hF; subst hF2
  exact j_iast C hd 26 wl_26 hin wt_26 h
theorem an_26 (C : CX κ ε own cc nL ret fr lo mc ms) (hd : decode cc pc = .ok (.arraylength, 1)) (h : JW κ k n (WD ε ad v f u g) (pc + 1) lv (.int 3 :: st)) : JW κ k n (WD ε ad v f u g) pc lv (.ref (ad 26) :: st) := j_alen C hd 26 1 wl_26 rfl rfl h
theorem al_27 (C : CX κ ε own cc nL ret fr lo mc ms) {i : Int32} {F : Nat → Int32} (hd : decode cc pc = .ok (.iaload, 1)) (hin : vp_in i 3) (hF : g 27 = F) (h : JW κ k n (WD ε ad v f u g) (pc + 1) lv (.int (F i.toNatClampNeg) :: st)) : JW κ k n (WD ε ad v f u g) pc lv (.int i :: .ref (ad 27) :: st) := by
  subst hF
  exact j_iald C hd 27 wl_27 hin h
theorem wt_27 {F : Nat → Int32} : (WD ε ad v f u g).set 27 (ad 27, .inl (ε.2.2.1, 3, .inl F)) = WD ε ad v f u (va_up g 27 F) := rfl
theorem as_27 (C : CX κ ε own cc nL ret fr lo mc ms) {i x : Int32} {F F2 : Nat → Int32} (hd : decode cc pc = .ok (.iastore, 1)) (hin : vp_in i 3) (hF : g 27 = F2) (hF2 : upd F2 i.toNatClampNeg x = F) (h : JW κ k n (WD ε ad v f u (va_up g 27 F)) (pc + 1) lv st) : JW κ k n (WD ε ad v f u g) pc lv (.int x :: .int i :: .ref (ad 27) :: st) := by
  subst hF; subst hF2
  exact j_iast C hd 27 wl_27 hin wt_27 h
theorem an_27 (C : CX κ ε own cc nL ret fr lo mc ms) (hd : decode cc pc = .ok (.arraylength, 1)) (h : JW κ k n (WD ε ad v f u g) (pc + 1) lv (.int 3 :: st)) : JW κ k n (WD ε ad v f u g) pc lv (.ref (ad 27) :: st) := j_alen C hd 27 1 wl_27 rfl rfl h
theorem al_28 (C : CX κ ε own cc nL ret fr lo mc ms) {i : Int32} {F : Nat → Int32} (hd : decode cc pc = .ok (.iaload, 1)) (hin : vp_in i 3) (hF : g 28 = F) (h : JW κ k n (WD ε ad v f u g) (pc + 1) lv (.int (F i.toNatClampNeg) :: st)) : JW κ k n (WD ε ad v f u g) pc lv (.int i :: .ref (ad 28) :: st) := by
  subst hF
  exact j_iald C hd 28 wl_28 hin h
theorem wt_28 {F : Nat → Int32} : (WD ε ad v f u g).set 28 (ad 28, .inl (ε.2.2.1, 3, .inl F)) = WD ε ad v f u (va_up g 28 F) := rfl
theorem as_28 (C : CX κ ε own cc nL ret fr lo mc ms) {i x : Int32} {F F2 : Nat → Int32} (hd : decode cc pc = .ok (.iastore, 1)) (hin : vp_in i 3) (hF : g 28 = F2) (hF2 : upd F2 i.toNatClampNeg x = F) (h : JW κ k n (WD ε ad v f u (va_up g 28 F)) (pc + 1) lv st) : JW κ k n (WD ε ad v f u g) pc lv (.int x :: .int i :: .ref (ad 28) :: st) := by
  subst hF; subst hF2
  exact j_iast C hd 28 wl_28 hin wt_28 h
theorem an_28 (C : CX κ ε own cc nL ret fr lo mc ms) (hd : decode cc pc = .ok (.arraylength, 1)) (h : JW κ k n (WD ε ad v f u g) (pc + 1) lv (.int 3 :: st)) : JW κ k n (WD ε ad v f u g) pc lv (.ref (ad 28) :: st) := j_alen C hd 28 1 wl_28 rfl rfl h
theorem al_29 (C : CX κ ε own cc nL ret fr lo mc ms) {i : Int32} {F : Nat → Int32} (hd : decode cc pc = .ok (.iaload, 1)) (hin : vp_in i 3) (hF : g 29 = F) (h : JW κ k n (WD ε ad v f u g) (pc + 1) lv (.int (F i.toNatClampNeg) :: st)) : JW κ k n (WD ε ad v f u g) pc lv (.int i :: .ref (ad 29) :: st) := by
  subst hF
  exact j_iald C hd 29 wl_29 hin h
theorem wt_29 {F : Nat → Int32} : (WD ε ad v f u g).set 29 (ad 29, .inl (ε.2.2.1, 3, .inl F)) = WD ε ad v f u (va_up g 29 F) := rfl
theorem as_29 (C : CX κ ε own cc nL ret fr lo mc ms) {i x : Int32} {F F2 : Nat → Int32} (hd : decode cc pc = .ok (.iastore, 1)) (hin : vp_in i 3) (hF : g 29 = F2) (hF2 : upd F2 i.toNatClampNeg x = F) (h : JW κ k n (WD ε ad v f u (va_up g 29 F)) (pc + 1) lv st) : JW κ k n (WD ε ad v f u g) pc lv (.int x :: .int i :: .ref (ad 29) :: st) := by
  subst hF; subst hF2
  exact j_iast C hd 29 wl_29 hin wt_29 h
theorem an_29 (C : CX κ ε own cc nL ret fr lo mc ms) (hd : decode cc pc = .ok (.arraylength, 1)) (h : JW κ k n (WD ε ad v f u g) (pc + 1) lv (.int 3 :: st)) : JW κ k n (WD ε ad v f u g) pc lv (.ref (ad 29) :: st) := j_alen C hd 29 1 wl_29 rfl rfl h
theorem al_30 (C : CX κ ε own cc nL ret fr lo mc ms) {i : Int32} {F : Nat → Int32} (hd : decode cc pc = .ok (.iaload, 1)) (hin : vp_in i 3) (hF : g 30 = F) (h : JW κ k n (WD ε ad v f u g) (pc + 1) lv (.int (F i.toNatClampNeg) :: st)) : JW κ k n (WD ε ad v f u g) pc lv (.int i :: .ref (ad 30) :: st) := by
  subst hF
  exact j_iald C hd 30 wl_30 hin h
theorem wt_30 {F : Nat → Int32} : (WD ε ad v f u g).set 30 (ad 30, .inl (ε.2.2.1, 3, .inl F)) = WD ε ad v f u (va_up g 30 F) := rfl
theorem as_30 (C : CX κ ε own cc nL ret fr lo mc ms) {i x : Int32} {F F2 : Nat → Int32} (hd : decode cc pc = .ok (.iastore, 1)) (hin : vp_in i 3) (hF : g 30 = F2) (hF2 : upd F2 i.toNatClampNeg x = F) (h : JW κ k n (WD ε ad v f u (va_up g 30 F)) (pc + 1) lv st) : JW κ k n (WD ε ad v f u g) pc lv (.int x :: .int i :: .ref (ad 30) :: st) := by
  subst hF; subst hF2
  exact j_iast C hd 30 wl_30 hin wt_30 h
theorem an_30 (C : CX κ ε own cc nL ret fr lo mc ms) (hd : decode cc pc = .ok (.arraylength, 1)) (h : JW κ k n (WD ε ad v f u g) (pc + 1) lv (.int 3 :: st)) : JW κ k n (WD ε ad v f u g) pc lv (.ref (ad 30) :: st) := j_alen C hd 30 1 wl_30 rfl rfl h
theorem al_31 (C : CX κ ε own cc nL ret fr lo mc ms) {i : Int32} {F : Nat → Int32} (hd : decode cc pc = .ok (.iaload, 1)) (hin : vp_in i 3) (hF : g 31 = F) (h : JW κ k n (WD ε ad v f u g) (pc + 1) lv (.int (F i.toNatClampNeg) :: st)) : JW κ k n (WD ε ad v f u g) pc lv (.int i :: .ref (ad 31) :: st) := by
  subst hF
  exact j_iald C hd 31 wl_31 hin h
theorem wt_31 {F : Nat → Int32} : (WD ε ad v f u g).set 31 (ad 31, .inl (ε.2.2.1, 3, .inl F)) = WD ε ad v f u (va_up g 31 F) := rfl
theorem as_31 (C : CX κ ε own cc nL ret fr lo mc ms) {i x : Int32} {F F2 : Nat → Int32} (hd : decode cc pc = .ok (.iastore, 1)) (hin : vp_in i 3) (hF : g 31 = F2) (hF2 : upd F2 i.toNatClampNeg x = F) (h : JW κ k n (WD ε ad v f u (va_up g 31 F)) (pc + 1) lv st) : JW κ k n (WD ε ad v f u g) pc lv (.int x :: .int i :: .ref (ad 31) :: st) := by
  subst hF; subst hF2
  exact j_iast C hd 31 wl_31 hin wt_31 h
theorem an_31 (C : CX κ ε own cc nL ret fr lo mc ms) (hd : decode cc pc = .ok (.arraylength, 1)) (h : JW κ k n (WD ε ad v f u g) (pc + 1) lv (.int 3 :: st)) : JW κ k n (WD ε ad v f u g) pc lv (.ref (ad 31) :: st) := j_alen C hd 31 1 wl_31 rfl rfl h
theorem al_32 (C : CX κ ε own cc nL ret fr lo mc ms) {i : Int32} {F : Nat → Int32} (hd : decode cc pc = .ok (.iaload, 1)) (hin : vp_in i 20) (hF : g 32 = F) (h : JW κ k n (WD ε ad v f u g) (pc + 1) lv (.int (F i.toNatClampNeg) :: st)) : JW κ k n (WD ε ad v f u g) pc lv (.int i :: .ref (ad 32) :: st) := by
  subst hF
  exact j_iald C hd 32 wl_32 hin h
theorem wt_32 {F : Nat → Int32} : (WD ε ad v f u g).set 32 (ad 32, .inl (ε.2.2.1, 20, .inl F)) = WD ε ad v f u (va_up g 32 F) := rfl
theorem as_32 (C : CX κ ε own cc nL ret fr lo mc ms) {i x : Int32} {F F2 : Nat → Int32} (hd : decode cc pc = .ok (.iastore, 1)) (hin : vp_in i 20) (hF : g 32 = F2) (hF2 : upd F2 i.toNatClampNeg x = F) (h : JW κ k n (WD ε ad v f u (va_up g 32 F)) (pc + 1) lv st) : JW κ k n (WD ε ad v f u g) pc lv (.int x :: .int i :: .ref (ad 32) :: st) := by
  subst hF; subst hF2
  exact j_iast C hd 32 wl_32 hin wt_32 h
theorem an_32 (C : CX κ ε own cc nL ret fr lo mc ms) (hd : decode cc pc = .ok (.arraylength, 1)) (h : JW κ k n (WD ε ad v f u g) (pc + 1) lv (.int 20 :: st)) : JW κ k n (WD ε ad v f u g) pc lv (.ref (ad 32) :: st) := j_alen C hd 32 1 wl_32 rfl rfl h
theorem al_33 (C : CX κ ε own cc nL ret fr lo mc ms) {i : Int32} {F : Nat → Int32} (hd : decode cc pc = .ok (.iaload, 1)) (hin : vp_in i 20) (hF : g 33 = F) (h : JW κ k n (WD ε ad v f u g) (pc + 1) lv (.int (F i.toNatClampNeg) :: st)) : JW κ k n (WD ε ad v f u g) pc lv (.int i :: .ref (ad 33) :: st) := by
  subst hF
  exact j_iald C hd 33 wl_33 hin h
theorem wt_33 {F : Nat → Int32} : (WD ε ad v f u g).set 33 (ad 33, .inl (ε.2.2.1, 20, .inl F)) = WD ε ad v f u (va_up g 33 F) := rfl
theorem as_33 (C : CX κ ε own cc nL ret fr lo mc ms) {i x : Int32} {F F2 : Nat → Int32} (hd : decode cc pc = .ok (.iastore, 1)) (hin : vp_in i 20) (hF : g 33 = F2) (hF2 : upd F2 i.toNatClampNeg x = F) (h : JW κ k n (WD ε ad v f u (va_up g 33 F)) (pc + 1) lv st) : JW κ k n (WD ε ad v f u g) pc lv (.int x :: .int i :: .ref (ad 33) :: st) := by
  subst hF; subst hF2
  exact j_iast C hd 33 wl_33 hin wt_33 h
theorem an_33 (C : CX κ ε own cc nL ret fr lo mc ms) (hd : decode cc pc = .ok (.arraylength, 1)) (h : JW κ k n (WD ε ad v f u g) (pc + 1) lv (.int 20 :: st)) : JW κ k n (WD ε ad v f u g) pc lv (.ref (ad 33) :: st) := j_alen C hd 33 1 wl_33 rfl rfl h
theorem al_34 (C : CX κ ε own cc nL ret fr lo mc ms) {i : Int32} {F : Nat → Int32} (hd : decode cc pc = .ok (.iaload, 1)) (hin : vp_in i 20) (hF : g 34 = F) (h : JW κ k n (WD ε ad v f u g) (pc + 1) lv (.int (F i.toNatClampNeg) :: st)) : JW κ k n (WD ε ad v f u g) pc lv (.int i :: .ref (ad 34) :: st) := by
  subst hF
  exact j_iald C hd 34 wl_34 hin h
theorem wt_34 {F : Nat → Int32} : (WD ε ad v f u g).set 34 (ad 34, .inl (ε.2.2.1, 20, .inl F)) = WD ε ad v f u (va_up g 34 F) := rfl
theorem as_34 (C : CX κ ε own cc nL ret fr lo mc ms) {i x : Int32} {F F2 : Nat → Int32} (hd : decode cc pc = .ok (.iastore, 1)) (hin : vp_in i 20) (hF : g 34 = F2) (hF2 : upd F2 i.toNatClampNeg x = F) (h : JW κ k n (WD ε ad v f u (va_up g 34 F)) (pc + 1) lv st) : JW κ k n (WD ε ad v f u g) pc lv (.int x :: .int i :: .ref (ad 34) :: st) := by
  subst hF; subst hF2
  exact j_iast C hd 34 wl_34 hin wt_34 h
theorem an_34 (C : CX κ ε own cc nL ret fr lo mc ms) (hd : decode cc pc = .ok (.arraylength, 1)) (h : JW κ k n (WD ε ad v f u g) (pc + 1) lv (.int 20 :: st)) : JW κ k n (WD ε ad v f u g) pc lv (.ref (ad 34) :: st) := j_alen C hd 34 1 wl_34 rfl rfl h
theorem al_35 (C : CX κ ε own cc nL ret fr lo mc ms) {i : Int32} {F : Nat → Int32} (hd : decode cc pc = .ok (.iaload, 1)) (hin : vp_in i 20) (hF : g 35 = F) (h : JW κ k n (WD ε ad v f u g) (pc + 1) lv (.int (F i.toNatClampNeg) :: st)) : JW κ k n (WD ε ad v f u g) pc lv (.int i :: .ref (ad 35) :: st) := by
  subst hF
  exact j_iald C hd 35 wl_35 hin h
theorem wt_35 {F : Nat → Int32} : (WD ε ad v f u g).set 35 (ad 35, .inl (ε.2.2.1, 20, .inl F)) = WD ε ad v f u (va_up g 35 F) := rfl
theorem as_35 (C : CX κ ε own cc nL ret fr lo mc ms) {i x : Int32} {F F2 : Nat → Int32} (hd : decode cc pc = .ok (.iastore, 1)) (hin : vp_in i 20) (hF : g 35 = F2) (hF2 : upd F2 i.toNatClampNeg x = F) (h : JW κ k n (WD ε ad v f u (va_up g 35 F)) (pc + 1) lv st) : JW κ k n (WD ε ad v f u g) pc lv (.int x :: .int i :: .ref (ad 35) :: st) := by
  subst hF; subst hF2
  exact j_iast C hd 35 wl_35 hin wt_35 h
theorem an_35 (C : CX κ ε own cc nL ret fr lo mc ms) (hd : decode cc pc = .ok (.arraylength, 1)) (h : JW κ k n (WD ε ad v f u g) (pc + 1) lv (.int 20 :: st)) : JW κ k n (WD ε ad v f u g) pc lv (.ref (ad 35) :: st) := j_alen C hd 35 1 wl_35 rfl rfl h
theorem al_36 (C : CX κ ε own cc nL ret fr lo mc ms) {i : Int32} {F : Nat → Int32} (hd : decode cc pc = .ok (.baload, 1)) (hin : vp_in i 1280) (hF : g 36 = F) (h : JW κ k n (WD ε ad v f u g) (pc + 1) lv (.int (F i.toNatClampNeg) :: st)) : JW κ k n (WD ε ad v f u g) pc lv (.int i :: .ref (ad 36) :: st) := by
  subst hF
  exact j_bald C hd 36 wl_36 hin h
theorem wt_36 {F : Nat → Int32} : (WD ε ad v f u g).set 36 (ad 36, .inl (ε.2.1, 1280, .inl F)) = WD ε ad v f u (va_up g 36 F) := rfl
theorem as_36 (C : CX κ ε own cc nL ret fr lo mc ms) {i x : Int32} {F F2 : Nat → Int32} (hd : decode cc pc = .ok (.bastore, 1)) (hin : vp_in i 1280) (hF : g 36 = F2) (hF2 : upd F2 i.toNatClampNeg (vp_nar .byte x) = F) (h : JW κ k n (WD ε ad v f u (va_up g 36 F)) (pc + 1) lv st) : JW κ k n (WD ε ad v f u g) pc lv (.int x :: .int i :: .ref (ad 36) :: st) := by
  subst hF; subst hF2
  exact j_bast C hd 36 wl_36 hin wt_36 h
theorem an_36 (C : CX κ ε own cc nL ret fr lo mc ms) (hd : decode cc pc = .ok (.arraylength, 1)) (h : JW κ k n (WD ε ad v f u g) (pc + 1) lv (.int 1280 :: st)) : JW κ k n (WD ε ad v f u g) pc lv (.ref (ad 36) :: st) := j_alen C hd 36 0 wl_36 rfl rfl h
theorem al_37 (C : CX κ ε own cc nL ret fr lo mc ms) {i : Int32} {F : Nat → Int32} (hd : decode cc pc = .ok (.iaload, 1)) (hin : vp_in i 16) (hF : g 37 = F) (h : JW κ k n (WD ε ad v f u g) (pc + 1) lv (.int (F i.toNatClampNeg) :: st)) : JW κ k n (WD ε ad v f u g) pc lv (.int i :: .ref (ad 37) :: st) := by
  subst hF
  exact j_iald C hd 37 wl_37 hin h
theorem wt_37 {F : Nat → Int32} : (WD ε ad v f u g).set 37 (ad 37, .inl (ε.2.2.1, 16, .inl F)) = WD ε ad v f u (va_up g 37 F) := rfl
theorem as_37 (C : CX κ ε own cc nL ret fr lo mc ms) {i x : Int32} {F F2 : Nat → Int32} (hd : decode cc pc = .ok (.iastore, 1)) (hin : vp_in i 16) (hF : g 37 = F2) (hF2 : upd F2 i.toNatClampNeg x = F) (h : JW κ k n (WD ε ad v f u (va_up g 37 F)) (pc + 1) lv st) : JW κ k n (WD ε ad v f u g) pc lv (.int x :: .int i :: .ref (ad 37) :: st) := by
  subst hF; subst hF2
  exact j_iast C hd 37 wl_37 hin wt_37 h
theorem an_37 (C : CX κ ε own cc nL ret fr lo mc ms) (hd : decode cc pc = .ok (.arraylength, 1)) (h : JW κ k n (WD ε ad v f u g) (pc + 1) lv (.int 16 :: st)) : JW κ k n (WD ε ad v f u g) pc lv (.ref (ad 37) :: st) := j_alen C hd 37 1 wl_37 rfl rfl h
theorem al_38 (C : CX κ ε own cc nL ret fr lo mc ms) {i : Int32} {F : Nat → Int32} (hd : decode cc pc = .ok (.baload, 1)) (hin : vp_in i 24) (hF : g 38 = F) (h : JW κ k n (WD ε ad v f u g) (pc + 1) lv (.int (F i.toNatClampNeg) :: st)) : JW κ k n (WD ε ad v f u g) pc lv (.int i :: .ref (ad 38) :: st) := by
  subst hF
  exact j_zald C hd 38 wl_38 hin h
theorem wt_38 {F : Nat → Int32} : (WD ε ad v f u g).set 38 (ad 38, .inl (ε.2.2.2, 24, .inl F)) = WD ε ad v f u (va_up g 38 F) := rfl
theorem as_38 (C : CX κ ε own cc nL ret fr lo mc ms) {i x : Int32} {F F2 : Nat → Int32} (hd : decode cc pc = .ok (.bastore, 1)) (hin : vp_in i 24) (hF : g 38 = F2) (hF2 : upd F2 i.toNatClampNeg (vp_nar .boolean x) = F) (h : JW κ k n (WD ε ad v f u (va_up g 38 F)) (pc + 1) lv st) : JW κ k n (WD ε ad v f u g) pc lv (.int x :: .int i :: .ref (ad 38) :: st) := by
  subst hF; subst hF2
  exact j_zast C hd 38 wl_38 hin wt_38 h
theorem an_38 (C : CX κ ε own cc nL ret fr lo mc ms) (hd : decode cc pc = .ok (.arraylength, 1)) (h : JW κ k n (WD ε ad v f u g) (pc + 1) lv (.int 24 :: st)) : JW κ k n (WD ε ad v f u g) pc lv (.ref (ad 38) :: st) := j_alen C hd 38 2 wl_38 rfl rfl h
theorem al_39 (C : CX κ ε own cc nL ret fr lo mc ms) {i : Int32} {F : Nat → Int32} (hd : decode cc pc = .ok (.iaload, 1)) (hin : vp_in i 24) (hF : g 39 = F) (h : JW κ k n (WD ε ad v f u g) (pc + 1) lv (.int (F i.toNatClampNeg) :: st)) : JW κ k n (WD ε ad v f u g) pc lv (.int i :: .ref (ad 39) :: st) := by
  subst hF
  exact j_iald C hd 39 wl_39 hin h
theorem wt_39 {F : Nat → Int32} : (WD ε ad v f u g).set 39 (ad 39, .inl (ε.2.2.1, 24, .inl F)) = WD ε ad v f u (va_up g 39 F) := rfl
theorem as_39 (C : CX κ ε own cc nL ret fr lo mc ms) {i x : Int32} {F F2 : Nat → Int32} (hd : decode cc pc = .ok (.iastore, 1)) (hin : vp_in i 24) (hF : g 39 = F2) (hF2 : upd F2 i.toNatClampNeg x = F) (h : JW κ k n (WD ε ad v f u (va_up g 39 F)) (pc + 1) lv st) : JW κ k n (WD ε ad v f u g) pc lv (.int x :: .int i :: .ref (ad 39) :: st) := by
  subst hF; subst hF2
  exact j_iast C hd 39 wl_39 hin wt_39 h
theorem an_39 (C : CX κ ε own cc nL ret fr lo mc ms) (hd : decode cc pc = .ok (.arraylength, 1)) (h : JW κ k n (WD ε ad v f u g) (pc + 1) lv (.int 24 :: st)) : JW κ k n (WD ε ad v f u g) pc lv (.ref (ad 39) :: st) := j_alen C hd 39 1 wl_39 rfl rfl h
theorem al_40 (C : CX κ ε own cc nL ret fr lo mc ms) {i : Int32} {F : Nat → Int32} (hd : decode cc pc = .ok (.iaload, 1)) (hin : vp_in i 3) (hF : g 40 = F) (h : JW κ k n (WD ε ad v f u g) (pc + 1) lv (.int (F i.toNatClampNeg) :: st)) : JW κ k n (WD ε ad v f u g) pc lv (.int i :: .ref (ad 40) :: st) := by
  subst hF
  exact j_iald C hd 40 wl_40 hin h
theorem wt_40 {F : Nat → Int32} : (WD ε ad v f u g).set 40 (ad 40, .inl (ε.2.2.1, 3, .inl F)) = WD ε ad v f u (va_up g 40 F) := rfl
theorem as_40 (C : CX κ ε own cc nL ret fr lo mc ms) {i x : Int32} {F F2 : Nat → Int32} (hd : decode cc pc = .ok (.iastore, 1)) (hin : vp_in i 3) (hF : g 40 = F2) (hF2 : upd F2 i.toNatClampNeg x = F) (h : JW κ k n (WD ε ad v f u (va_up g 40 F)) (pc + 1) lv st) : JW κ k n (WD ε ad v f u g) pc lv (.int x :: .int i :: .ref (ad 40) :: st) := by
  subst hF; subst hF2
  exact j_iast C hd 40 wl_40 hin wt_40 h
theorem an_40 (C : CX κ ε own cc nL ret fr lo mc ms) (hd : decode cc pc = .ok (.arraylength, 1)) (h : JW κ k n (WD ε ad v f u g) (pc + 1) lv (.int 3 :: st)) : JW κ k n (WD ε ad v f u g) pc lv (.ref (ad 40) :: st) := j_alen C hd 40 1 wl_40 rfl rfl h
theorem al_41 (C : CX κ ε own cc nL ret fr lo mc ms) {i : Int32} {F : Nat → Int32} (hd : decode cc pc = .ok (.iaload, 1)) (hin : vp_in i 3) (hF : g 41 = F) (h : JW κ k n (WD ε ad v f u g) (pc + 1) lv (.int (F i.toNatClampNeg) :: st)) : JW κ k n (WD ε ad v f u g) pc lv (.int i :: .ref (ad 41) :: st) := by
  subst hF
  exact j_iald C hd 41 wl_41 hin h
theorem wt_41 {F : Nat → Int32} : (WD ε ad v f u g).set 41 (ad 41, .inl (ε.2.2.1, 3, .inl F)) = WD ε ad v f u (va_up g 41 F) := rfl
theorem as_41 (C : CX κ ε own cc nL ret fr lo mc ms) {i x : Int32} {F F2 : Nat → Int32} (hd : decode cc pc = .ok (.iastore, 1)) (hin : vp_in i 3) (hF : g 41 = F2) (hF2 : upd F2 i.toNatClampNeg x = F) (h : JW κ k n (WD ε ad v f u (va_up g 41 F)) (pc + 1) lv st) : JW κ k n (WD ε ad v f u g) pc lv (.int x :: .int i :: .ref (ad 41) :: st) := by
  subst hF; subst hF2
  exact j_iast C hd 41 wl_41 hin wt_41 h
theorem an_41 (C : CX κ ε own cc nL ret fr lo mc ms) (hd : decode cc pc = .ok (.arraylength, 1)) (h : JW κ k n (WD ε ad v f u g) (pc + 1) lv (.int 3 :: st)) : JW κ k n (WD ε ad v f u g) pc lv (.ref (ad 41) :: st) := j_alen C hd 41 1 wl_41 rfl rfl h
theorem al_42 (C : CX κ ε own cc nL ret fr lo mc ms) {i : Int32} {F : Nat → Int32} (hd : decode cc pc = .ok (.iaload, 1)) (hin : vp_in i 3) (hF : g 42 = F) (h : JW κ k n (WD ε ad v f u g) (pc + 1) lv (.int (F i.toNatClampNeg) :: st)) : JW κ k n (WD ε ad v f u g) pc lv (.int i :: .ref (ad 42) :: st) := by
  subst hF
  exact j_iald C hd 42 wl_42 hin h
theorem wt_42 {F : Nat → Int32} : (WD ε ad v f u g).set 42 (ad 42, .inl (ε.2.2.1, 3, .inl F)) = WD ε ad v f u (va_up g 42 F) := rfl
theorem as_42 (C : CX κ ε own cc nL ret fr lo mc ms) {i x : Int32} {F F2 : Nat → Int32} (hd : decode cc pc = .ok (.iastore, 1)) (hin : vp_in i 3) (hF : g 42 = F2) (hF2 : upd F2 i.toNatClampNeg x = F) (h : JW κ k n (WD ε ad v f u (va_up g 42 F)) (pc + 1) lv st) : JW κ k n (WD ε ad v f u g) pc lv (.int x :: .int i :: .ref (ad 42) :: st) := by
  subst hF; subst hF2
  exact j_iast C hd 42 wl_42 hin wt_42 h
theorem an_42 (C : CX κ ε own cc nL ret fr lo mc ms) (hd : decode cc pc = .ok (.arraylength, 1)) (h : JW κ k n (WD ε ad v f u g) (pc + 1) lv (.int 3 :: st)) : JW κ k n (WD ε ad v f u g) pc lv (.ref (ad 42) :: st) := j_alen C hd 42 1 wl_42 rfl rfl h
theorem c_V (C : CX κ ε own cc nL ret fr lo mc ms) {y : MethodName} {cc1 : ByteArray} {nL1 : Nat} {ret1 : Option FieldType} {fr1 lo1 ix na : Nat} {As rest st1 : List Value} {r : Option Value} {ω ω1 : va_W} {Cn : String} {T : u_T} {N ci b : Nat} {fs : List Value} (hM : CT ε y cc1 nL1 ret1 fr1 lo1 0 0 (.ref b :: As) ω (DT r ω1)) (hv : MV y cc1 nL1 ret1 Cn na) (hw : Cond.methodLink own ix y ∈ TB) (hd : decode cc pc = .ok (.invokevirtual ix, 3)) (q : Nat) (he : ω[q]? = some (b, .inr (ci, fs))) (hc : vwCl[ci]? = some (Cn, T, N)) (hn : As.length = na) (hst : st = As.reverse ++ .ref b :: rest) (hroom : (fr1 + 1 ≤ fr ∧ 8 + (nL1 + 11) + lo1 ≤ lo) ∧ k ≤ mc ∧ n ≤ ms) (hcat : (rest.map fun v => v.category).sum ≤ 8) (hs1 : r.toList ++ rest = st1) (h : JW κ k n ω1 (pc + 3) lv st1) : JW κ k n ω pc lv st := j_callV C hM hv hw hd q he hc hn hst ⟨hroom.1.1, hroom.1.2, hroom.2.1, hroom.2.2⟩ hcat (fun r9 ω9 hp => by obtain ⟨rfl, rfl⟩ := hp; rw [hs1]; exact h)
theorem c_S (C : CX κ ε own cc nL ret fr lo mc ms) {y : MethodName} {cc1 : ByteArray} {nL1 : Nat} {ret1 : Option FieldType} {fr1 lo1 ix na : Nat} {As rest st1 : List Value} {r : Option Value} {ω ω1 : va_W} (hM : CT ε y cc1 nL1 ret1 fr1 lo1 0 0 As ω (DT r ω1)) (hv : MS y cc1 nL1 ret1 na) (hw : Cond.methodLink own ix y ∈ TB) (hd : decode cc pc = .ok (.invokestatic ix, 3)) (hn : As.length = na) (hst : st = As.reverse ++ rest) (hroom : (fr1 + 1 ≤ fr ∧ 8 + (nL1 + 11) + lo1 ≤ lo) ∧ k ≤ mc ∧ n ≤ ms) (hcat : (rest.map fun v => v.category).sum ≤ 8) (hs1 : r.toList ++ rest = st1) (h : JW κ k n ω1 (pc + 3) lv st1) : JW κ k n ω pc lv st := j_callS C hM hv hw hd hn hst ⟨hroom.1.1, hroom.1.2, hroom.2.1, hroom.2.2⟩ hcat (fun r9 ω9 hp => by obtain ⟨rfl, rfl⟩ := hp; rw [hs1]; exact h)
theorem c_SN (C : CX κ ε own cc nL ret fr lo mc ms) {y : MethodName} {cc1 : ByteArray} {nL1 : Nat} {ret1 : Option FieldType} {fr1 lo1 ix na : Nat} {As rest st1 : List Value} {r : Option Value} {ω ω1 : va_W} {host : String} (hM : CT ε y cc1 nL1 ret1 fr1 lo1 0 0 As ω (DT r ω1)) (hv : MS y cc1 nL1 ret1 na) (hw : Cond.methodLinkNest own ix y host ∈ nestW) (hd : decode cc pc = .ok (.invokestatic ix, 3)) (hn : As.length = na) (hst : st = As.reverse ++ rest) (hroom : (fr1 + 1 ≤ fr ∧ 8 + (nL1 + 11) + lo1 ≤ lo) ∧ k ≤ mc ∧ n ≤ ms) (hcat : (rest.map fun v => v.category).sum ≤ 8) (hs1 : r.toList ++ rest = st1) (h : JW κ k n ω1 (pc + 3) lv st1) : JW κ k n ω pc lv st := j_callSN C hM hv hw hd hn hst ⟨hroom.1.1, hroom.1.2, hroom.2.1, hroom.2.2⟩ hcat (fun r9 ω9 hp => by obtain ⟨rfl, rfl⟩ := hp; rw [hs1]; exact h)
end WORLD
end
section
/-- the nest words by their places -/
theorem nw_X0_78 : Cond.methodLinkNest RX0 78 yX8_liesInMemory "RingDevices" ∈ nestW := List.mem_of_getElem? (i := 0) rfl
theorem nw_X1_122 : Cond.methodLinkNest RX1 122 yX8_oneMore "RingDevices" ∈ nestW := List.mem_of_getElem? (i := 1) rfl
theorem nw_X7_25 : Cond.methodLinkNest RX7 25 yX8_isFrame "RingDevices" ∈ nestW := List.mem_of_getElem? (i := 2) rfl
theorem nw_X6_55 : Cond.methodLinkNest RX6 55 yX8_oneMore "RingDevices" ∈ nestW := List.mem_of_getElem? (i := 3) rfl
theorem nw_X1_104 : Cond.methodLinkNest RX1 104 yX8_patternByte "RingDevices" ∈ nestW := List.mem_of_getElem? (i := 4) rfl
theorem nw_X3_70 : Cond.methodLinkNest RX3 70 yX8_descriptorsOf "RingDevices" ∈ nestW := List.mem_of_getElem? (i := 5) rfl
theorem nw_X3_88 : Cond.methodLinkNest RX3 88 yX8_patternByte "RingDevices" ∈ nestW := List.mem_of_getElem? (i := 6) rfl
theorem nw_X3_99 : Cond.methodLinkNest RX3 99 yX8_availableOf "RingDevices" ∈ nestW := List.mem_of_getElem? (i := 7) rfl
theorem nw_X3_106 : Cond.methodLinkNest RX3 106 yX8_oneMore "RingDevices" ∈ nestW := List.mem_of_getElem? (i := 8) rfl
theorem nw_X3_109 : Cond.methodLinkNest RX3 109 yX8_usedOf "RingDevices" ∈ nestW := List.mem_of_getElem? (i := 9) rfl
theorem vp_i0 {x : Int32} {N : Nat} {M : Int32} (h0 : ¬ x < 0) (h1 : ¬ M ≤ x) (hM : M.toInt = N) : vp_in x N := by
  rw [vp_in_iff]
  rw [Int32.lt_iff_toInt_lt] at h0
  rw [Int32.le_iff_toInt_le] at h1
  have : (0 : Int32).toInt = 0 := rfl
  omega
def S_X5_at (v : Nat → Int32) (f : Nat → Nat → Int32) (a : Int32) : Int32 :=
  if a < 0 then 0
  else if 4096 ≤ a then 0
    else (((f 2) (a).toNatClampNeg) &&& 255)
set_option maxHeartbeats 4000000 in
theorem c_X5_at (ε : ET) (ad : Nat → Nat) (v : Nat → Int32) (f : Nat → Nat → Int32) (u : Nat → Int32) (g : Nat → Nat → Int32) (a : Int32)  : CT ε yX5_at cX5_at 2 (some .int) 0 0 0 0 [.ref (ad 1), .int a] (WD ε ad v f u g) (DT (some (.int (S_X5_at v f a))) (WD ε ad v f u g)) := by
  refine CT.of (own := RX5) (by decide) rfl (Nat.le_of_ble_eq_true rfl) (fun κ C hQ => ?_)
  refine j_iload_n (i := 1) C dX5_at_0 rfl 1 rfl ?_
  refine j_if_lt (tgt := 26) C dX5_at_1 (by decide) (fun c_1 => ?_) (fun c_1 => ?_)
  · refine j_iconst (x := 0) C dX5_at_26 (by decide) ?_
    have hs : S_X5_at v f a = 0 := by unfold S_X5_at; rw [if_pos c_1]
    exact j_iret C hQ rfl dX5_at_27 (by rw [hs]; exact ⟨rfl, rfl⟩)
  · refine j_iload_n (i := 1) C dX5_at_4 rfl 1 rfl ?_
    refine j_aload_n (i := 0) C dX5_at_5 rfl 0 rfl ?_
    refine g_1_bytes C dX5_at_6 lf_X5_9 ?_
    refine an_2 C dX5_at_9 ?_
    refine j_icmp_ge (tgt := 26) C dX5_at_10 (by decide) (fun c_2 => ?_) (fun c_2 => ?_)
    · refine j_iconst (x := 0) C dX5_at_26 (by decide) ?_
      have hs : S_X5_at v f a = 0 := by unfold S_X5_at; rw [if_neg c_1, if_pos c_2]
      exact j_iret C hQ rfl dX5_at_27 (by rw [hs]; exact ⟨rfl, rfl⟩)
    · refine j_aload_n (i := 0) C dX5_at_13 rfl 0 rfl ?_
      refine g_1_bytes C dX5_at_14 lf_X5_9 ?_
      refine j_iload_n (i := 1) C dX5_at_17 rfl 1 rfl ?_
      refine al_2 (F := (f 2)) C dX5_at_18 (vp_i0 c_1 c_2 rfl) rfl ?_
      refine j_sipush (x := 255) C dX5_at_19 (by decide) ?_
      refine j_iand C dX5_at_22 ?_
      refine j_goto (tgt := 27) C dX5_at_23 (by decide) ?_
      have hs : S_X5_at v f a = (((f 2) (a).toNatClampNeg) &&& 255) := by unfold S_X5_at; rw [if_neg c_1, if_neg c_2]
      exact j_iret C hQ rfl dX5_at_27 (by rw [hs]; exact ⟨rfl, rfl⟩)

def S_X5_set (v : Nat → Int32) (f : Nat → Nat → Int32) (a : Int32) (b : Int32) : (Nat → Nat → Int32) :=
  if a < 0 then f
  else if 4096 ≤ a then f
    else (va_up f 2 (upd (f 2) (a).toNatClampNeg (vp_nar .byte ((b : Int32).toInt8.toInt32))))
set_option maxHeartbeats 4000000 in
theorem c_X5_set (ε : ET) (ad : Nat → Nat) (v : Nat → Int32) (f : Nat → Nat → Int32) (u : Nat → Int32) (g : Nat → Nat → Int32) (a : Int32) (b : Int32)  : CT ε yX5_set cX5_set 3 none 0 0 0 0 [.ref (ad 1), .int a, .int b] (WD ε ad v f u g) (DT none (WD ε ad v (S_X5_set v f a b) u g)) := by
  refine CT.of (own := RX5) (by decide) rfl (Nat.le_of_ble_eq_true rfl) (fun κ C hQ => ?_)
  refine j_iload_n (i := 1) C dX5_set_0 rfl 1 rfl ?_
  refine j_if_lt (tgt := 21) C dX5_set_1 (by decide) (fun c_1 => ?_) (fun c_1 => ?_)
  · have hs : S_X5_set v f a b = f := by unfold S_X5_set; rw [if_pos c_1]
    exact j_vret C hQ rfl dX5_set_21 (by rw [hs]; exact ⟨rfl, rfl⟩)
  · refine j_iload_n (i := 1) C dX5_set_4 rfl 1 rfl ?_
    refine j_aload_n (i := 0) C dX5_set_5 rfl 0 rfl ?_
    refine g_1_bytes C dX5_set_6 lf_X5_9 ?_
    refine an_2 C dX5_set_9 ?_
    refine j_icmp_ge (tgt := 21) C dX5_set_10 (by decide) (fun c_2 => ?_) (fun c_2 => ?_)
    · have hs : S_X5_set v f a b = f := by unfold S_X5_set; rw [if_neg c_1, if_pos c_2]
      exact j_vret C hQ rfl dX5_set_21 (by rw [hs]; exact ⟨rfl, rfl⟩)
    · refine j_aload_n (i := 0) C dX5_set_13 rfl 0 rfl ?_
      refine g_1_bytes C dX5_set_14 lf_X5_9 ?_
      refine j_iload_n (i := 1) C dX5_set_17 rfl 1 rfl ?_
      refine j_iload_n (i := 2) C dX5_set_18 rfl 2 rfl ?_
      refine j_i2b C dX5_set_19 ?_
      refine as_2 (F2 := (f 2)) (F := (upd (f 2) (a).toNatClampNeg (vp_nar .byte ((b : Int32).toInt8.toInt32)))) C dX5_set_20 (vp_i0 c_1 c_2 rfl) rfl rfl ?_
      have hs : S_X5_set v f a b = (va_up f 2 (upd (f 2) (a).toNatClampNeg (vp_nar .byte ((b : Int32).toInt8.toInt32)))) := by unfold S_X5_set; rw [if_neg c_1, if_neg c_2]
      exact j_vret C hQ rfl dX5_set_21 (by rw [hs]; exact ⟨rfl, rfl⟩)

def S_X5_two (v : Nat → Int32) (f : Nat → Nat → Int32) (a : Int32) : Int32 :=
  ((S_X5_at v f a) ||| ((S_X5_at v f (a + 1)) <<< (8 &&& 31)))
set_option maxHeartbeats 4000000 in
theorem c_X5_two (ε : ET) (ad : Nat → Nat) (v : Nat → Int32) (f : Nat → Nat → Int32) (u : Nat → Int32) (g : Nat → Nat → Int32) (a : Int32)  : CT ε yX5_two cX5_two 2 (some .int) 1 21 0 0 [.ref (ad 1), .int a] (WD ε ad v f u g) (DT (some (.int (S_X5_two v f a))) (WD ε ad v f u g)) := by
  refine CT.of (own := RX5) (by decide) rfl (Nat.le_of_ble_eq_true rfl) (fun κ C hQ => ?_)
  refine j_aload_n (i := 0) C dX5_two_0 rfl 0 rfl ?_
  refine j_iload_n (i := 1) C dX5_two_1 rfl 1 rfl ?_
  refine c_V (As := [.int a]) (rest := []) (st1 := [.int (S_X5_at v f a)]) C (c_X5_at ε ad v f u g a ) mv_X5_at lm_X5_21 dX5_two_2 1 wl_1 rfl rfl rfl (by decide) (Nat.le_of_ble_eq_true rfl) rfl ?_
  refine j_aload_n (i := 0) C dX5_two_5 rfl 0 rfl ?_
  refine j_iload_n (i := 1) C dX5_two_6 rfl 1 rfl ?_
  refine j_iconst (x := 1) C dX5_two_7 (by decide) ?_
  refine j_iadd C dX5_two_8 ?_
  refine c_V (As := [.int (a + 1)]) (rest := [.int (S_X5_at v f a)]) (st1 := [.int (S_X5_at v f (a + 1)), .int (S_X5_at v f a)]) C (c_X5_at ε ad v f u g (a + 1) ) mv_X5_at lm_X5_21 dX5_two_9 1 wl_1 rfl rfl rfl (by decide) (Nat.le_of_ble_eq_true rfl) rfl ?_
  refine j_bipush (x := 8) C dX5_two_12 (by decide) ?_
  refine j_ishl C dX5_two_14 ?_
  refine j_ior C dX5_two_15 ?_
  have hs : S_X5_two v f a = ((S_X5_at v f a) ||| ((S_X5_at v f (a + 1)) <<< (8 &&& 31))) := by unfold S_X5_two; rfl
  exact j_iret C hQ rfl dX5_two_16 (by rw [hs]; exact ⟨rfl, rfl⟩)

def L_X5_number (v : Nat → Int32) (f : Nat → Nat → Int32) (a : Int32) (N : Nat) : Nat → Int64
  | 0 => 0
  | i1 + 1 =>
    ((L_X5_number v f a N i1) ||| ((((S_X5_at v f (a + (nI i1))) : Int32).toInt64) <<< (((8 * (nI i1)) : Int32).toInt64 &&& 63)))
def S_X5_number (v : Nat → Int32) (f : Nat → Nat → Int32) (a : Int32) (N : Nat) : Int64 :=
  (L_X5_number v f a N N)
set_option maxHeartbeats 4000000 in
theorem c_X5_number (ε : ET) (ad : Nat → Nat) (v : Nat → Int32) (f : Nat → Nat → Int32) (u : Nat → Int32) (g : Nat → Nat → Int32) (a : Int32) (N : Nat) (hN : N < 2 ^ 31) : CT ε yX5_number cX5_number 6 (some .long) 1 21 0 0 [.ref (ad 1), .int a, .int (nI N)] (WD ε ad v f u g) (DT (some (.long (S_X5_number v f a N))) (WD ε ad v f u g)) := by
  refine CT.of (own := RX5) (by decide) rfl (Nat.le_of_ble_eq_true rfl) (fun κ C hQ => ?_)
  refine j_lconst (x := 0) C dX5_number_0 (by decide) ?_
  refine j_lstore_n (i := 3) (lv' := [(3, .long 0), (0, .ref (ad 1)), (1, .int a), (2, .int (nI N))]) C dX5_number_1 rfl (by decide) rfl ?_
  refine j_iconst (x := 0) C dX5_number_2 (by decide) ?_
  refine j_istore (i := 5) (lv' := [(5, .int 0), (3, .long 0), (0, .ref (ad 1)), (1, .int a), (2, .int (nI N))]) C dX5_number_3 (by decide) rfl ?_
  have hx1 : JW κ 0 0 (WD ε ad v f u g) 35 [(5, .int (nI N)), (3, .long (L_X5_number v f a N N)), (0, .ref (ad 1)), (1, .int a), (2, .int (nI N))] [] := by
    refine j_lload_n (i := 3) C dX5_number_35 rfl 1 rfl ?_
    have hs : S_X5_number v f a N = (L_X5_number v f a N N) := by unfold S_X5_number; rfl
    exact j_lret C hQ rfl dX5_number_36 (by rw [hs]; exact ⟨rfl, rfl⟩)
  have lp1 : ∀ d1 i1 : Nat, i1 + d1 = N → JW κ 0 0 (WD ε ad v f u g) 5 [(5, .int (nI i1)), (3, .long (L_X5_number v f a N i1)), (0, .ref (ad 1)), (1, .int a), (2, .int (nI N))] [] := by
    intro d1
    induction d1 with
    | zero =>
      intro i1 hi
      have e9 : i1 = N := by omega
      rw [e9]
      have lf1 : (nI N) ≤ (nI N) := Int32.le_refl _
      refine j_iload (i := 5) C dX5_number_5 0 rfl ?_
      refine j_iload_n (i := 2) C dX5_number_7 rfl 4 rfl ?_
      refine j_icmp_ge (tgt := 35) C dX5_number_8 (by decide) (fun _ => ?_) (fun c9 => absurd lf1 c9)
      exact hx1
    | succ d1 ih1 =>
      intro i1 hi
      have hlt1 : i1 < N := by omega
      have lf1 : ¬ (nI N) ≤ (nI i1) := nI_ge hlt1 (by omega)
      refine j_iload (i := 5) C dX5_number_5 0 rfl ?_
      refine j_iload_n (i := 2) C dX5_number_7 rfl 4 rfl ?_
      refine j_icmp_ge (tgt := 35) C dX5_number_8 (by decide) (fun c9 => absurd c9 lf1) (fun _ => ?_)
      refine j_lload_n (i := 3) C dX5_number_11 rfl 1 rfl ?_
      refine j_aload_n (i := 0) C dX5_number_12 rfl 2 rfl ?_
      refine j_iload_n (i := 1) C dX5_number_13 rfl 3 rfl ?_
      refine j_iload (i := 5) C dX5_number_14 0 rfl ?_
      refine j_iadd C dX5_number_16 ?_
      refine c_V (As := [.int (a + (nI i1))]) (rest := [.long (L_X5_number v f a N i1)]) (st1 := [.int (S_X5_at v f (a + (nI i1))), .long (L_X5_number v f a N i1)]) C (c_X5_at ε ad v f u g (a + (nI i1)) ) mv_X5_at lm_X5_21 dX5_number_17 1 wl_1 rfl rfl rfl (by decide) (Nat.le_of_ble_eq_true rfl) rfl ?_
      refine j_i2l C dX5_number_20 ?_
      refine j_bipush (x := 8) C dX5_number_21 (by decide) ?_
      refine j_iload (i := 5) C dX5_number_23 0 rfl ?_
      refine j_imul C dX5_number_25 ?_
      refine j_lshl C dX5_number_26 ?_
      refine j_lor C dX5_number_27 ?_
      refine j_lstore_n (i := 3) (lv' := [(3, .long ((L_X5_number v f a N i1) ||| ((((S_X5_at v f (a + (nI i1))) : Int32).toInt64) <<< (((8 * (nI i1)) : Int32).toInt64 &&& 63)))), (5, .int (nI i1)), (0, .ref (ad 1)), (1, .int a), (2, .int (nI N))]) C dX5_number_28 rfl (by decide) rfl ?_
      refine j_iinc (y := (nI (i1 + 1))) (lv' := [(5, .int (nI (i1 + 1))), (3, .long ((L_X5_number v f a N i1) ||| ((((S_X5_at v f (a + (nI i1))) : Int32).toInt64) <<< (((8 * (nI i1)) : Int32).toInt64 &&& 63)))), (0, .ref (ad 1)), (1, .int a), (2, .int (nI N))]) C dX5_number_29 1 rfl (nI_1 _) (by decide) rfl ?_
      refine j_goto (tgt := 5) C dX5_number_32 (by decide) ?_
      refine j_lv (lv' := [(5, .int (nI (i1 + 1))), (3, .long ((L_X5_number v f a N i1) ||| ((((S_X5_at v f (a + (nI i1))) : Int32).toInt64) <<< (((8 * (nI i1)) : Int32).toInt64 &&& 63)))), (0, .ref (ad 1)), (1, .int a), (2, .int (nI N))]) [0, 1, 2, 3, 4] rfl ?_
      exact ih1 (i1 + 1) (by omega)
  exact lp1 N 0 (by omega)

def L_X5_setNumber (v : Nat → Int32) (f : Nat → Nat → Int32) (a : Int32) (x : Int64) (N : Nat) : Nat → (Nat → Nat → Int32)
  | 0 => f
  | i1 + 1 =>
    (S_X5_set v (L_X5_setNumber v f a x N i1) (a + (nI i1)) ((((((x).toUInt64 >>> (((8 * (nI i1)) : Int32).toInt64.toUInt64 &&& Int64.toUInt64 63)).toInt64) : Int64).toInt32) &&& 255))
def S_X5_setNumber (v : Nat → Int32) (f : Nat → Nat → Int32) (a : Int32) (x : Int64) (N : Nat) : (Nat → Nat → Int32) :=
  (L_X5_setNumber v f a x N N)
set_option maxHeartbeats 4000000 in
theorem c_X5_setNumber (ε : ET) (ad : Nat → Nat) (v : Nat → Int32) (f : Nat → Nat → Int32) (u : Nat → Int32) (g : Nat → Nat → Int32) (a : Int32) (x : Int64) (N : Nat) (hN : N < 2 ^ 31) : CT ε yX5_setNumber cX5_setNumber 6 none 1 22 0 0 [.ref (ad 1), .int a, .int (nI N), .long x] (WD ε ad v f u g) (DT none (WD ε ad v (S_X5_setNumber v f a x N) u g)) := by
  refine CT.of (own := RX5) (by decide) rfl (Nat.le_of_ble_eq_true rfl) (fun κ C hQ => ?_)
  refine j_iconst (x := 0) C dX5_setNumber_0 (by decide) ?_
  refine j_istore (i := 5) (lv' := [(5, .int 0), (0, .ref (ad 1)), (1, .int a), (2, .int (nI N)), (3, .long x)]) C dX5_setNumber_1 (by decide) rfl ?_
  have hx1 : JW κ 0 0 (WD ε ad v (L_X5_setNumber v f a x N N) u g) 35 [(5, .int (nI N)), (0, .ref (ad 1)), (1, .int a), (2, .int (nI N)), (3, .long x)] [] := by
    have hs : S_X5_setNumber v f a x N = (L_X5_setNumber v f a x N N) := by unfold S_X5_setNumber; rfl
    exact j_vret C hQ rfl dX5_setNumber_35 (by rw [hs]; exact ⟨rfl, rfl⟩)
  have lp1 : ∀ d1 i1 : Nat, i1 + d1 = N → JW κ 0 0 (WD ε ad v (L_X5_setNumber v f a x N i1) u g) 3 [(5, .int (nI i1)), (0, .ref (ad 1)), (1, .int a), (2, .int (nI N)), (3, .long x)] [] := by
    intro d1
    induction d1 with
    | zero =>
      intro i1 hi
      have e9 : i1 = N := by omega
      rw [e9]
      have lf1 : (nI N) ≤ (nI N) := Int32.le_refl _
      refine j_iload (i := 5) C dX5_setNumber_3 0 rfl ?_
      refine j_iload_n (i := 2) C dX5_setNumber_5 rfl 3 rfl ?_
      refine j_icmp_ge (tgt := 35) C dX5_setNumber_6 (by decide) (fun _ => ?_) (fun c9 => absurd lf1 c9)
      exact hx1
    | succ d1 ih1 =>
      intro i1 hi
      have hlt1 : i1 < N := by omega
      have lf1 : ¬ (nI N) ≤ (nI i1) := nI_ge hlt1 (by omega)
      refine j_iload (i := 5) C dX5_setNumber_3 0 rfl ?_
      refine j_iload_n (i := 2) C dX5_setNumber_5 rfl 3 rfl ?_
      refine j_icmp_ge (tgt := 35) C dX5_setNumber_6 (by decide) (fun c9 => absurd c9 lf1) (fun _ => ?_)
      refine j_aload_n (i := 0) C dX5_setNumber_9 rfl 1 rfl ?_
      refine j_iload_n (i := 1) C dX5_setNumber_10 rfl 2 rfl ?_
      refine j_iload (i := 5) C dX5_setNumber_11 0 rfl ?_
      refine j_iadd C dX5_setNumber_13 ?_
      refine j_lload_n (i := 3) C dX5_setNumber_14 rfl 4 rfl ?_
      refine j_bipush (x := 8) C dX5_setNumber_15 (by decide) ?_
      refine j_iload (i := 5) C dX5_setNumber_17 0 rfl ?_
      refine j_imul C dX5_setNumber_19 ?_
      refine j_lushr C dX5_setNumber_20 ?_
      refine j_l2i C dX5_setNumber_21 ?_
      refine j_sipush (x := 255) C dX5_setNumber_22 (by decide) ?_
      refine j_iand C dX5_setNumber_25 ?_
      refine c_V (As := [.int (a + (nI i1)), .int ((((((x).toUInt64 >>> (((8 * (nI i1)) : Int32).toInt64.toUInt64 &&& Int64.toUInt64 63)).toInt64) : Int64).toInt32) &&& 255)]) (rest := []) (st1 := []) C (c_X5_set ε ad v (L_X5_setNumber v f a x N i1) u g (a + (nI i1)) ((((((x).toUInt64 >>> (((8 * (nI i1)) : Int32).toInt64.toUInt64 &&& Int64.toUInt64 63)).toInt64) : Int64).toInt32) &&& 255) ) mv_X5_set lm_X5_25 dX5_setNumber_26 1 wl_1 rfl rfl rfl (by decide) (Nat.le_of_ble_eq_true rfl) rfl ?_
      refine j_iinc (y := (nI (i1 + 1))) (lv' := [(5, .int (nI (i1 + 1))), (0, .ref (ad 1)), (1, .int a), (2, .int (nI N)), (3, .long x)]) C dX5_setNumber_29 0 rfl (nI_1 _) (by decide) rfl ?_
      refine j_goto (tgt := 3) C dX5_setNumber_32 (by decide) ?_
      refine j_lv (lv' := [(5, .int (nI (i1 + 1))), (0, .ref (ad 1)), (1, .int a), (2, .int (nI N)), (3, .long x)]) [0, 1, 2, 3, 4] rfl ?_
      exact ih1 (i1 + 1) (by omega)
  exact lp1 N 0 (by omega)

def S_X5_setDescriptor (v : Nat → Int32) (f : Nat → Nat → Int32) (a : Int32) (b : Int32) (c : Int32) (d : Int32) (e : Int32) : (Nat → Nat → Int32) :=
  (S_X5_setNumber v (S_X5_setNumber v (S_X5_setNumber v (S_X5_setNumber v f a ((b : Int32).toInt64) 8) (a + 8) ((c : Int32).toInt64) 4) (a + 12) ((d : Int32).toInt64) 2) (a + 14) ((e : Int32).toInt64) 2)
set_option maxHeartbeats 4000000 in
theorem c_X5_setDescriptor (ε : ET) (ad : Nat → Nat) (v : Nat → Int32) (f : Nat → Nat → Int32) (u : Nat → Int32) (g : Nat → Nat → Int32) (a : Int32) (b : Int32) (c : Int32) (d : Int32) (e : Int32)  : CT ε yX5_setDescriptor cX5_setDescriptor 6 none 2 47 0 0 [.ref (ad 1), .int a, .int b, .int c, .int d, .int e] (WD ε ad v f u g) (DT none (WD ε ad v (S_X5_setDescriptor v f a b c d e) u g)) := by
  refine CT.of (own := RX5) (by decide) rfl (Nat.le_of_ble_eq_true rfl) (fun κ C hQ => ?_)
  refine j_aload_n (i := 0) C dX5_setDescriptor_0 rfl 0 rfl ?_
  refine j_iload_n (i := 1) C dX5_setDescriptor_1 rfl 1 rfl ?_
  refine j_bipush (x := 8) C dX5_setDescriptor_2 (by decide) ?_
  refine j_iload_n (i := 2) C dX5_setDescriptor_4 rfl 2 rfl ?_
  refine j_i2l C dX5_setDescriptor_5 ?_
  refine c_V (As := [.int a, .int 8, .long ((b : Int32).toInt64)]) (rest := []) (st1 := []) C (c_X5_setNumber ε ad v f u g a ((b : Int32).toInt64) 8 (by first | assumption | omega | decide)) mv_X5_setNumber lm_X5_29 dX5_setDescriptor_6 1 wl_1 rfl rfl rfl (by decide) (Nat.le_of_ble_eq_true rfl) rfl ?_
  refine j_aload_n (i := 0) C dX5_setDescriptor_9 rfl 0 rfl ?_
  refine j_iload_n (i := 1) C dX5_setDescriptor_10 rfl 1 rfl ?_
  refine j_bipush (x := 8) C dX5_setDescriptor_11 (by decide) ?_
  refine j_iadd C dX5_setDescriptor_13 ?_
  refine j_iconst (x := 4) C dX5_setDescriptor_14 (by decide) ?_
  refine j_iload_n (i := 3) C dX5_setDescriptor_15 rfl 3 rfl ?_
  refine j_i2l C dX5_setDescriptor_16 ?_
  refine c_V (As := [.int (a + 8), .int 4, .long ((c : Int32).toInt64)]) (rest := []) (st1 := []) C (c_X5_setNumber ε ad v (S_X5_setNumber v f a ((b : Int32).toInt64) 8) u g (a + 8) ((c : Int32).toInt64) 4 (by first | assumption | omega | decide)) mv_X5_setNumber lm_X5_29 dX5_setDescriptor_17 1 wl_1 rfl rfl rfl (by decide) (Nat.le_of_ble_eq_true rfl) rfl ?_
  refine j_aload_n (i := 0) C dX5_setDescriptor_20 rfl 0 rfl ?_
  refine j_iload_n (i := 1) C dX5_setDescriptor_21 rfl 1 rfl ?_
  refine j_bipush (x := 12) C dX5_setDescriptor_22 (by decide) ?_
  refine j_iadd C dX5_setDescriptor_24 ?_
  refine j_iconst (x := 2) C dX5_setDescriptor_25 (by decide) ?_
  refine j_iload (i := 4) C dX5_setDescriptor_26 4 rfl ?_
  refine j_i2l C dX5_setDescriptor_28 ?_
  refine c_V (As := [.int (a + 12), .int 2, .long ((d : Int32).toInt64)]) (rest := []) (st1 := []) C (c_X5_setNumber ε ad v (S_X5_setNumber v (S_X5_setNumber v f a ((b : Int32).toInt64) 8) (a + 8) ((c : Int32).toInt64) 4) u g (a + 12) ((d : Int32).toInt64) 2 (by first | assumption | omega | decide)) mv_X5_setNumber lm_X5_29 dX5_setDescriptor_29 1 wl_1 rfl rfl rfl (by decide) (Nat.le_of_ble_eq_true rfl) rfl ?_
  refine j_aload_n (i := 0) C dX5_setDescriptor_32 rfl 0 rfl ?_
  refine j_iload_n (i := 1) C dX5_setDescriptor_33 rfl 1 rfl ?_
  refine j_bipush (x := 14) C dX5_setDescriptor_34 (by decide) ?_
  refine j_iadd C dX5_setDescriptor_36 ?_
  refine j_iconst (x := 2) C dX5_setDescriptor_37 (by decide) ?_
  refine j_iload (i := 5) C dX5_setDescriptor_38 5 rfl ?_
  refine j_i2l C dX5_setDescriptor_40 ?_
  refine c_V (As := [.int (a + 14), .int 2, .long ((e : Int32).toInt64)]) (rest := []) (st1 := []) C (c_X5_setNumber ε ad v (S_X5_setNumber v (S_X5_setNumber v (S_X5_setNumber v f a ((b : Int32).toInt64) 8) (a + 8) ((c : Int32).toInt64) 4) (a + 12) ((d : Int32).toInt64) 2) u g (a + 14) ((e : Int32).toInt64) 2 (by first | assumption | omega | decide)) mv_X5_setNumber lm_X5_29 dX5_setDescriptor_41 1 wl_1 rfl rfl rfl (by decide) (Nat.le_of_ble_eq_true rfl) rfl ?_
  have hs : S_X5_setDescriptor v f a b c d e = (S_X5_setNumber v (S_X5_setNumber v (S_X5_setNumber v (S_X5_setNumber v f a ((b : Int32).toInt64) 8) (a + 8) ((c : Int32).toInt64) 4) (a + 12) ((d : Int32).toInt64) 2) (a + 14) ((e : Int32).toInt64) 2) := by unfold S_X5_setDescriptor; rfl
  exact j_vret C hQ rfl dX5_setDescriptor_44 (by rw [hs]; exact ⟨rfl, rfl⟩)
end
section
theorem vp_nn {i N : Nat} (h : i < N) (hN : N < 2 ^ 31) : vp_in (nI i) N := vp_in_nI h hN
def S_J6_bitCount_0f7a4 (v : Nat → Int32) (f : Nat → Nat → Int32) (a : Int32) : Int32 :=
  ((((((((a - ((((a).toUInt32 >>> ((1 : Int32).toUInt32 &&& Int32.toUInt32 31)).toInt32) &&& 1431655765)) &&& 858993459) + (((((a - ((((a).toUInt32 >>> ((1 : Int32).toUInt32 &&& Int32.toUInt32 31)).toInt32) &&& 1431655765))).toUInt32 >>> ((2 : Int32).toUInt32 &&& Int32.toUInt32 31)).toInt32) &&& 858993459)) + ((((((a - ((((a).toUInt32 >>> ((1 : Int32).toUInt32 &&& Int32.toUInt32 31)).toInt32) &&& 1431655765)) &&& 858993459) + (((((a - ((((a).toUInt32 >>> ((1 : Int32).toUInt32 &&& Int32.toUInt32 31)).toInt32) &&& 1431655765))).toUInt32 >>> ((2 : Int32).toUInt32 &&& Int32.toUInt32 31)).toInt32) &&& 858993459))).toUInt32 >>> ((4 : Int32).toUInt32 &&& Int32.toUInt32 31)).toInt32)) &&& 252645135) + ((((((((a - ((((a).toUInt32 >>> ((1 : Int32).toUInt32 &&& Int32.toUInt32 31)).toInt32) &&& 1431655765)) &&& 858993459) + (((((a - ((((a).toUInt32 >>> ((1 : Int32).toUInt32 &&& Int32.toUInt32 31)).toInt32) &&& 1431655765))).toUInt32 >>> ((2 : Int32).toUInt32 &&& Int32.toUInt32 31)).toInt32) &&& 858993459)) + ((((((a - ((((a).toUInt32 >>> ((1 : Int32).toUInt32 &&& Int32.toUInt32 31)).toInt32) &&& 1431655765)) &&& 858993459) + (((((a - ((((a).toUInt32 >>> ((1 : Int32).toUInt32 &&& Int32.toUInt32 31)).toInt32) &&& 1431655765))).toUInt32 >>> ((2 : Int32).toUInt32 &&& Int32.toUInt32 31)).toInt32) &&& 858993459))).toUInt32 >>> ((4 : Int32).toUInt32 &&& Int32.toUInt32 31)).toInt32)) &&& 252645135)).toUInt32 >>> ((8 : Int32).toUInt32 &&& Int32.toUInt32 31)).toInt32)) + (((((((((a - ((((a).toUInt32 >>> ((1 : Int32).toUInt32 &&& Int32.toUInt32 31)).toInt32) &&& 1431655765)) &&& 858993459) + (((((a - ((((a).toUInt32 >>> ((1 : Int32).toUInt32 &&& Int32.toUInt32 31)).toInt32) &&& 1431655765))).toUInt32 >>> ((2 : Int32).toUInt32 &&& Int32.toUInt32 31)).toInt32) &&& 858993459)) + ((((((a - ((((a).toUInt32 >>> ((1 : Int32).toUInt32 &&& Int32.toUInt32 31)).toInt32) &&& 1431655765)) &&& 858993459) + (((((a - ((((a).toUInt32 >>> ((1 : Int32).toUInt32 &&& Int32.toUInt32 31)).toInt32) &&& 1431655765))).toUInt32 >>> ((2 : Int32).toUInt32 &&& Int32.toUInt32 31)).toInt32) &&& 858993459))).toUInt32 >>> ((4 : Int32).toUInt32 &&& Int32.toUInt32 31)).toInt32)) &&& 252645135) + ((((((((a - ((((a).toUInt32 >>> ((1 : Int32).toUInt32 &&& Int32.toUInt32 31)).toInt32) &&& 1431655765)) &&& 858993459) + (((((a - ((((a).toUInt32 >>> ((1 : Int32).toUInt32 &&& Int32.toUInt32 31)).toInt32) &&& 1431655765))).toUInt32 >>> ((2 : Int32).toUInt32 &&& Int32.toUInt32 31)).toInt32) &&& 858993459)) + ((((((a - ((((a).toUInt32 >>> ((1 : Int32).toUInt32 &&& Int32.toUInt32 31)).toInt32) &&& 1431655765)) &&& 858993459) + (((((a - ((((a).toUInt32 >>> ((1 : Int32).toUInt32 &&& Int32.toUInt32 31)).toInt32) &&& 1431655765))).toUInt32 >>> ((2 : Int32).toUInt32 &&& Int32.toUInt32 31)).toInt32) &&& 858993459))).toUInt32 >>> ((4 : Int32).toUInt32 &&& Int32.toUInt32 31)).toInt32)) &&& 252645135)).toUInt32 >>> ((8 : Int32).toUInt32 &&& Int32.toUInt32 31)).toInt32))).toUInt32 >>> ((16 : Int32).toUInt32 &&& Int32.toUInt32 31)).toInt32)) &&& 63)
set_option maxHeartbeats 4000000 in
theorem c_J6_bitCount_0f7a4 (ε : ET) (ad : Nat → Nat) (v : Nat → Int32) (f : Nat → Nat → Int32) (u : Nat → Int32) (g : Nat → Nat → Int32) (a : Int32)  : CT ε yJ6_bitCount_0f7a4 cJ6_bitCount_0f7a4 1 (some .int) 0 0 0 0 [.int a] (WD ε ad v f u g) (DT (some (.int (S_J6_bitCount_0f7a4 v f a))) (WD ε ad v f u g)) := by
  refine CT.of (own := RJ6) (by decide) rfl (Nat.le_of_ble_eq_true rfl) (fun κ C hQ => ?_)
  refine j_iload_n (i := 0) C dJ6_bitCount_0f7a4_0 rfl 0 rfl ?_
  refine j_iload_n (i := 0) C dJ6_bitCount_0f7a4_1 rfl 0 rfl ?_
  refine j_iconst (x := 1) C dJ6_bitCount_0f7a4_2 (by decide) ?_
  refine j_iushr C dJ6_bitCount_0f7a4_3 ?_
  refine j_ldcw C dJ6_bitCount_0f7a4_4 li_J6_265 ?_
  refine j_iand C dJ6_bitCount_0f7a4_7 ?_
  refine j_isub C dJ6_bitCount_0f7a4_8 ?_
  refine j_istore_n (i := 0) (lv' := [(0, .int (a - ((((a).toUInt32 >>> ((1 : Int32).toUInt32 &&& Int32.toUInt32 31)).toInt32) &&& 1431655765)))]) C dJ6_bitCount_0f7a4_9 rfl (by decide) rfl ?_
  refine j_iload_n (i := 0) C dJ6_bitCount_0f7a4_10 rfl 0 rfl ?_
  refine j_ldcw C dJ6_bitCount_0f7a4_11 li_J6_266 ?_
  refine j_iand C dJ6_bitCount_0f7a4_14 ?_
  refine j_iload_n (i := 0) C dJ6_bitCount_0f7a4_15 rfl 0 rfl ?_
  refine j_iconst (x := 2) C dJ6_bitCount_0f7a4_16 (by decide) ?_
  refine j_iushr C dJ6_bitCount_0f7a4_17 ?_
  refine j_ldcw C dJ6_bitCount_0f7a4_18 li_J6_266 ?_
  refine j_iand C dJ6_bitCount_0f7a4_21 ?_
  refine j_iadd C dJ6_bitCount_0f7a4_22 ?_
  refine j_istore_n (i := 0) (lv' := [(0, .int (((a - ((((a).toUInt32 >>> ((1 : Int32).toUInt32 &&& Int32.toUInt32 31)).toInt32) &&& 1431655765)) &&& 858993459) + (((((a - ((((a).toUInt32 >>> ((1 : Int32).toUInt32 &&& Int32.toUInt32 31)).toInt32) &&& 1431655765))).toUInt32 >>> ((2 : Int32).toUInt32 &&& Int32.toUInt32 31)).toInt32) &&& 858993459)))]) C dJ6_bitCount_0f7a4_23 rfl (by decide) rfl ?_
  refine j_iload_n (i := 0) C dJ6_bitCount_0f7a4_24 rfl 0 rfl ?_
  refine j_iload_n (i := 0) C dJ6_bitCount_0f7a4_25 rfl 0 rfl ?_
  refine j_iconst (x := 4) C dJ6_bitCount_0f7a4_26 (by decide) ?_
  refine j_iushr C dJ6_bitCount_0f7a4_27 ?_
  refine j_iadd C dJ6_bitCount_0f7a4_28 ?_
  refine j_ldcw C dJ6_bitCount_0f7a4_29 li_J6_267 ?_
  refine j_iand C dJ6_bitCount_0f7a4_32 ?_
  refine j_istore_n (i := 0) (lv' := [(0, .int (((((a - ((((a).toUInt32 >>> ((1 : Int32).toUInt32 &&& Int32.toUInt32 31)).toInt32) &&& 1431655765)) &&& 858993459) + (((((a - ((((a).toUInt32 >>> ((1 : Int32).toUInt32 &&& Int32.toUInt32 31)).toInt32) &&& 1431655765))).toUInt32 >>> ((2 : Int32).toUInt32 &&& Int32.toUInt32 31)).toInt32) &&& 858993459)) + ((((((a - ((((a).toUInt32 >>> ((1 : Int32).toUInt32 &&& Int32.toUInt32 31)).toInt32) &&& 1431655765)) &&& 858993459) + (((((a - ((((a).toUInt32 >>> ((1 : Int32).toUInt32 &&& Int32.toUInt32 31)).toInt32) &&& 1431655765))).toUInt32 >>> ((2 : Int32).toUInt32 &&& Int32.toUInt32 31)).toInt32) &&& 858993459))).toUInt32 >>> ((4 : Int32).toUInt32 &&& Int32.toUInt32 31)).toInt32)) &&& 252645135))]) C dJ6_bitCount_0f7a4_33 rfl (by decide) rfl ?_
  refine j_iload_n (i := 0) C dJ6_bitCount_0f7a4_34 rfl 0 rfl ?_
  refine j_iload_n (i := 0) C dJ6_bitCount_0f7a4_35 rfl 0 rfl ?_
  refine j_bipush (x := 8) C dJ6_bitCount_0f7a4_36 (by decide) ?_
  refine j_iushr C dJ6_bitCount_0f7a4_38 ?_
  refine j_iadd C dJ6_bitCount_0f7a4_39 ?_
  refine j_istore_n (i := 0) (lv' := [(0, .int ((((((a - ((((a).toUInt32 >>> ((1 : Int32).toUInt32 &&& Int32.toUInt32 31)).toInt32) &&& 1431655765)) &&& 858993459) + (((((a - ((((a).toUInt32 >>> ((1 : Int32).toUInt32 &&& Int32.toUInt32 31)).toInt32) &&& 1431655765))).toUInt32 >>> ((2 : Int32).toUInt32 &&& Int32.toUInt32 31)).toInt32) &&& 858993459)) + ((((((a - ((((a).toUInt32 >>> ((1 : Int32).toUInt32 &&& Int32.toUInt32 31)).toInt32) &&& 1431655765)) &&& 858993459) + (((((a - ((((a).toUInt32 >>> ((1 : Int32).toUInt32 &&& Int32.toUInt32 31)).toInt32) &&& 1431655765))).toUInt32 >>> ((2 : Int32).toUInt32 &&& Int32.toUInt32 31)).toInt32) &&& 858993459))).toUInt32 >>> ((4 : Int32).toUInt32 &&& Int32.toUInt32 31)).toInt32)) &&& 252645135) + ((((((((a - ((((a).toUInt32 >>> ((1 : Int32).toUInt32 &&& Int32.toUInt32 31)).toInt32) &&& 1431655765)) &&& 858993459) + (((((a - ((((a).toUInt32 >>> ((1 : Int32).toUInt32 &&& Int32.toUInt32 31)).toInt32) &&& 1431655765))).toUInt32 >>> ((2 : Int32).toUInt32 &&& Int32.toUInt32 31)).toInt32) &&& 858993459)) + ((((((a - ((((a).toUInt32 >>> ((1 : Int32).toUInt32 &&& Int32.toUInt32 31)).toInt32) &&& 1431655765)) &&& 858993459) + (((((a - ((((a).toUInt32 >>> ((1 : Int32).toUInt32 &&& Int32.toUInt32 31)).toInt32) &&& 1431655765))).toUInt32 >>> ((2 : Int32).toUInt32 &&& Int32.toUInt32 31)).toInt32) &&& 858993459))).toUInt32 >>> ((4 : Int32).toUInt32 &&& Int32.toUInt32 31)).toInt32)) &&& 252645135)).toUInt32 >>> ((8 : Int32).toUInt32 &&& Int32.toUInt32 31)).toInt32)))]) C dJ6_bitCount_0f7a4_40 rfl (by decide) rfl ?_
  refine j_iload_n (i := 0) C dJ6_bitCount_0f7a4_41 rfl 0 rfl ?_
  refine j_iload_n (i := 0) C dJ6_bitCount_0f7a4_42 rfl 0 rfl ?_
  refine j_bipush (x := 16) C dJ6_bitCount_0f7a4_43 (by decide) ?_
  refine j_iushr C dJ6_bitCount_0f7a4_45 ?_
  refine j_iadd C dJ6_bitCount_0f7a4_46 ?_
  refine j_istore_n (i := 0) (lv' := [(0, .int (((((((a - ((((a).toUInt32 >>> ((1 : Int32).toUInt32 &&& Int32.toUInt32 31)).toInt32) &&& 1431655765)) &&& 858993459) + (((((a - ((((a).toUInt32 >>> ((1 : Int32).toUInt32 &&& Int32.toUInt32 31)).toInt32) &&& 1431655765))).toUInt32 >>> ((2 : Int32).toUInt32 &&& Int32.toUInt32 31)).toInt32) &&& 858993459)) + ((((((a - ((((a).toUInt32 >>> ((1 : Int32).toUInt32 &&& Int32.toUInt32 31)).toInt32) &&& 1431655765)) &&& 858993459) + (((((a - ((((a).toUInt32 >>> ((1 : Int32).toUInt32 &&& Int32.toUInt32 31)).toInt32) &&& 1431655765))).toUInt32 >>> ((2 : Int32).toUInt32 &&& Int32.toUInt32 31)).toInt32) &&& 858993459))).toUInt32 >>> ((4 : Int32).toUInt32 &&& Int32.toUInt32 31)).toInt32)) &&& 252645135) + ((((((((a - ((((a).toUInt32 >>> ((1 : Int32).toUInt32 &&& Int32.toUInt32 31)).toInt32) &&& 1431655765)) &&& 858993459) + (((((a - ((((a).toUInt32 >>> ((1 : Int32).toUInt32 &&& Int32.toUInt32 31)).toInt32) &&& 1431655765))).toUInt32 >>> ((2 : Int32).toUInt32 &&& Int32.toUInt32 31)).toInt32) &&& 858993459)) + ((((((a - ((((a).toUInt32 >>> ((1 : Int32).toUInt32 &&& Int32.toUInt32 31)).toInt32) &&& 1431655765)) &&& 858993459) + (((((a - ((((a).toUInt32 >>> ((1 : Int32).toUInt32 &&& Int32.toUInt32 31)).toInt32) &&& 1431655765))).toUInt32 >>> ((2 : Int32).toUInt32 &&& Int32.toUInt32 31)).toInt32) &&& 858993459))).toUInt32 >>> ((4 : Int32).toUInt32 &&& Int32.toUInt32 31)).toInt32)) &&& 252645135)).toUInt32 >>> ((8 : Int32).toUInt32 &&& Int32.toUInt32 31)).toInt32)) + (((((((((a - ((((a).toUInt32 >>> ((1 : Int32).toUInt32 &&& Int32.toUInt32 31)).toInt32) &&& 1431655765)) &&& 858993459) + (((((a - ((((a).toUInt32 >>> ((1 : Int32).toUInt32 &&& Int32.toUInt32 31)).toInt32) &&& 1431655765))).toUInt32 >>> ((2 : Int32).toUInt32 &&& Int32.toUInt32 31)).toInt32) &&& 858993459)) + ((((((a - ((((a).toUInt32 >>> ((1 : Int32).toUInt32 &&& Int32.toUInt32 31)).toInt32) &&& 1431655765)) &&& 858993459) + (((((a - ((((a).toUInt32 >>> ((1 : Int32).toUInt32 &&& Int32.toUInt32 31)).toInt32) &&& 1431655765))).toUInt32 >>> ((2 : Int32).toUInt32 &&& Int32.toUInt32 31)).toInt32) &&& 858993459))).toUInt32 >>> ((4 : Int32).toUInt32 &&& Int32.toUInt32 31)).toInt32)) &&& 252645135) + ((((((((a - ((((a).toUInt32 >>> ((1 : Int32).toUInt32 &&& Int32.toUInt32 31)).toInt32) &&& 1431655765)) &&& 858993459) + (((((a - ((((a).toUInt32 >>> ((1 : Int32).toUInt32 &&& Int32.toUInt32 31)).toInt32) &&& 1431655765))).toUInt32 >>> ((2 : Int32).toUInt32 &&& Int32.toUInt32 31)).toInt32) &&& 858993459)) + ((((((a - ((((a).toUInt32 >>> ((1 : Int32).toUInt32 &&& Int32.toUInt32 31)).toInt32) &&& 1431655765)) &&& 858993459) + (((((a - ((((a).toUInt32 >>> ((1 : Int32).toUInt32 &&& Int32.toUInt32 31)).toInt32) &&& 1431655765))).toUInt32 >>> ((2 : Int32).toUInt32 &&& Int32.toUInt32 31)).toInt32) &&& 858993459))).toUInt32 >>> ((4 : Int32).toUInt32 &&& Int32.toUInt32 31)).toInt32)) &&& 252645135)).toUInt32 >>> ((8 : Int32).toUInt32 &&& Int32.toUInt32 31)).toInt32))).toUInt32 >>> ((16 : Int32).toUInt32 &&& Int32.toUInt32 31)).toInt32)))]) C dJ6_bitCount_0f7a4_47 rfl (by decide) rfl ?_
  refine j_iload_n (i := 0) C dJ6_bitCount_0f7a4_48 rfl 0 rfl ?_
  refine j_bipush (x := 63) C dJ6_bitCount_0f7a4_49 (by decide) ?_
  refine j_iand C dJ6_bitCount_0f7a4_51 ?_
  have hs : S_J6_bitCount_0f7a4 v f a = ((((((((a - ((((a).toUInt32 >>> ((1 : Int32).toUInt32 &&& Int32.toUInt32 31)).toInt32) &&& 1431655765)) &&& 858993459) + (((((a - ((((a).toUInt32 >>> ((1 : Int32).toUInt32 &&& Int32.toUInt32 31)).toInt32) &&& 1431655765))).toUInt32 >>> ((2 : Int32).toUInt32 &&& Int32.toUInt32 31)).toInt32) &&& 858993459)) + ((((((a - ((((a).toUInt32 >>> ((1 : Int32).toUInt32 &&& Int32.toUInt32 31)).toInt32) &&& 1431655765)) &&& 858993459) + (((((a - ((((a).toUInt32 >>> ((1 : Int32).toUInt32 &&& Int32.toUInt32 31)).toInt32) &&& 1431655765))).toUInt32 >>> ((2 : Int32).toUInt32 &&& Int32.toUInt32 31)).toInt32) &&& 858993459))).toUInt32 >>> ((4 : Int32).toUInt32 &&& Int32.toUInt32 31)).toInt32)) &&& 252645135) + ((((((((a - ((((a).toUInt32 >>> ((1 : Int32).toUInt32 &&& Int32.toUInt32 31)).toInt32) &&& 1431655765)) &&& 858993459) + (((((a - ((((a).toUInt32 >>> ((1 : Int32).toUInt32 &&& Int32.toUInt32 31)).toInt32) &&& 1431655765))).toUInt32 >>> ((2 : Int32).toUInt32 &&& Int32.toUInt32 31)).toInt32) &&& 858993459)) + ((((((a - ((((a).toUInt32 >>> ((1 : Int32).toUInt32 &&& Int32.toUInt32 31)).toInt32) &&& 1431655765)) &&& 858993459) + (((((a - ((((a).toUInt32 >>> ((1 : Int32).toUInt32 &&& Int32.toUInt32 31)).toInt32) &&& 1431655765))).toUInt32 >>> ((2 : Int32).toUInt32 &&& Int32.toUInt32 31)).toInt32) &&& 858993459))).toUInt32 >>> ((4 : Int32).toUInt32 &&& Int32.toUInt32 31)).toInt32)) &&& 252645135)).toUInt32 >>> ((8 : Int32).toUInt32 &&& Int32.toUInt32 31)).toInt32)) + (((((((((a - ((((a).toUInt32 >>> ((1 : Int32).toUInt32 &&& Int32.toUInt32 31)).toInt32) &&& 1431655765)) &&& 858993459) + (((((a - ((((a).toUInt32 >>> ((1 : Int32).toUInt32 &&& Int32.toUInt32 31)).toInt32) &&& 1431655765))).toUInt32 >>> ((2 : Int32).toUInt32 &&& Int32.toUInt32 31)).toInt32) &&& 858993459)) + ((((((a - ((((a).toUInt32 >>> ((1 : Int32).toUInt32 &&& Int32.toUInt32 31)).toInt32) &&& 1431655765)) &&& 858993459) + (((((a - ((((a).toUInt32 >>> ((1 : Int32).toUInt32 &&& Int32.toUInt32 31)).toInt32) &&& 1431655765))).toUInt32 >>> ((2 : Int32).toUInt32 &&& Int32.toUInt32 31)).toInt32) &&& 858993459))).toUInt32 >>> ((4 : Int32).toUInt32 &&& Int32.toUInt32 31)).toInt32)) &&& 252645135) + ((((((((a - ((((a).toUInt32 >>> ((1 : Int32).toUInt32 &&& Int32.toUInt32 31)).toInt32) &&& 1431655765)) &&& 858993459) + (((((a - ((((a).toUInt32 >>> ((1 : Int32).toUInt32 &&& Int32.toUInt32 31)).toInt32) &&& 1431655765))).toUInt32 >>> ((2 : Int32).toUInt32 &&& Int32.toUInt32 31)).toInt32) &&& 858993459)) + ((((((a - ((((a).toUInt32 >>> ((1 : Int32).toUInt32 &&& Int32.toUInt32 31)).toInt32) &&& 1431655765)) &&& 858993459) + (((((a - ((((a).toUInt32 >>> ((1 : Int32).toUInt32 &&& Int32.toUInt32 31)).toInt32) &&& 1431655765))).toUInt32 >>> ((2 : Int32).toUInt32 &&& Int32.toUInt32 31)).toInt32) &&& 858993459))).toUInt32 >>> ((4 : Int32).toUInt32 &&& Int32.toUInt32 31)).toInt32)) &&& 252645135)).toUInt32 >>> ((8 : Int32).toUInt32 &&& Int32.toUInt32 31)).toInt32))).toUInt32 >>> ((16 : Int32).toUInt32 &&& Int32.toUInt32 31)).toInt32)) &&& 63) := by unfold S_J6_bitCount_0f7a4; rfl
  exact j_iret C hQ rfl dJ6_bitCount_0f7a4_52 (by rw [hs]; exact ⟨rfl, rfl⟩)

def L_J7_fillB2 (v : Nat → Int32) (f : Nat → Nat → Int32) (b : Int32) : Nat → (Nat → Nat → Int32)
  | 0 => f
  | i1 + 1 =>
    (va_up (L_J7_fillB2 v f b i1) 2 (upd ((L_J7_fillB2 v f b i1) 2) ((nI i1)).toNatClampNeg (vp_nar .byte b)))
def S_J7_fillB2 (v : Nat → Int32) (f : Nat → Nat → Int32) (b : Int32) : (Nat → Nat → Int32) :=
  (L_J7_fillB2 v f b 4096)
set_option maxHeartbeats 4000000 in
theorem c_J7_fillB2 (ε : ET) (ad : Nat → Nat) (v : Nat → Int32) (f : Nat → Nat → Int32) (u : Nat → Int32) (g : Nat → Nat → Int32) (b : Int32)  : CT ε yJ7_fill_031fb cJ7_fill_031fb 4 none 0 0 0 0 [.ref (ad 2), .int b] (WD ε ad v f u g) (DT none (WD ε ad v (S_J7_fillB2 v f b) u g)) := by
  refine CT.of (own := RJ7) (by decide) rfl (Nat.le_of_ble_eq_true rfl) (fun κ C hQ => ?_)
  refine j_iconst (x := 0) C dJ7_fill_031fb_0 (by decide) ?_
  refine j_istore_n (i := 2) (lv' := [(2, .int 0), (0, .ref (ad 2)), (1, .int b)]) C dJ7_fill_031fb_1 rfl (by decide) rfl ?_
  refine j_aload_n (i := 0) C dJ7_fill_031fb_2 rfl 1 rfl ?_
  refine an_2 C dJ7_fill_031fb_3 ?_
  refine j_istore_n (i := 3) (lv' := [(3, .int 4096), (2, .int 0), (0, .ref (ad 2)), (1, .int b)]) C dJ7_fill_031fb_4 rfl (by decide) rfl ?_
  have hx1 : JW κ 0 0 (WD ε ad v (L_J7_fillB2 v f b 4096) u g) 20 [(3, .int 4096), (2, .int (nI 4096)), (0, .ref (ad 2)), (1, .int b)] [] := by
    have hs : S_J7_fillB2 v f b = (L_J7_fillB2 v f b 4096) := by unfold S_J7_fillB2; rfl
    exact j_vret C hQ rfl dJ7_fill_031fb_20 (by rw [hs]; exact ⟨rfl, rfl⟩)
  have lp1 : ∀ d1 i1 : Nat, i1 + d1 = 4096 → JW κ 0 0 (WD ε ad v (L_J7_fillB2 v f b i1) u g) 5 [(3, .int 4096), (2, .int (nI i1)), (0, .ref (ad 2)), (1, .int b)] [] := by
    intro d1
    induction d1 with
    | zero =>
      intro i1 hi
      have e9 : i1 = 4096 := by omega
      rw [e9]
      have lf1 : 4096 ≤ (nI 4096) := Int32.le_refl _
      refine j_iload_n (i := 2) C dJ7_fill_031fb_5 rfl 1 rfl ?_
      refine j_iload_n (i := 3) C dJ7_fill_031fb_6 rfl 0 rfl ?_
      refine j_icmp_ge (tgt := 20) C dJ7_fill_031fb_7 (by decide) (fun _ => ?_) (fun c9 => absurd lf1 c9)
      exact hx1
    | succ d1 ih1 =>
      intro i1 hi
      have hlt1 : i1 < 4096 := by omega
      have lf1 : ¬ 4096 ≤ (nI i1) := nI_ge (b := 4096) hlt1 (by decide)
      refine j_iload_n (i := 2) C dJ7_fill_031fb_5 rfl 1 rfl ?_
      refine j_iload_n (i := 3) C dJ7_fill_031fb_6 rfl 0 rfl ?_
      refine j_icmp_ge (tgt := 20) C dJ7_fill_031fb_7 (by decide) (fun c9 => absurd c9 lf1) (fun _ => ?_)
      refine j_aload_n (i := 0) C dJ7_fill_031fb_10 rfl 2 rfl ?_
      refine j_iload_n (i := 2) C dJ7_fill_031fb_11 rfl 1 rfl ?_
      refine j_iload_n (i := 1) C dJ7_fill_031fb_12 rfl 3 rfl ?_
      refine as_2 (F2 := ((L_J7_fillB2 v f b i1) 2)) (F := (upd ((L_J7_fillB2 v f b i1) 2) ((nI i1)).toNatClampNeg (vp_nar .byte b))) C dJ7_fill_031fb_13 (vp_in_nI hlt1 (by decide)) rfl rfl ?_
      refine j_iinc (y := (nI (i1 + 1))) (lv' := [(2, .int (nI (i1 + 1))), (3, .int 4096), (0, .ref (ad 2)), (1, .int b)]) C dJ7_fill_031fb_14 1 rfl (nI_1 _) (by decide) rfl ?_
      refine j_goto (tgt := 5) C dJ7_fill_031fb_17 (by decide) ?_
      refine j_lv (lv' := [(3, .int 4096), (2, .int (nI (i1 + 1))), (0, .ref (ad 2)), (1, .int b)]) [1, 0, 2, 3] rfl ?_
      exact ih1 (i1 + 1) (by omega)
  exact lp1 4096 0 (by omega)

def L_J7_fillI17 (v : Nat → Int32) (f : Nat → Nat → Int32) (b : Int32) : Nat → (Nat → Nat → Int32)
  | 0 => f
  | i1 + 1 =>
    (va_up (L_J7_fillI17 v f b i1) 17 (upd ((L_J7_fillI17 v f b i1) 17) ((nI i1)).toNatClampNeg b))
def S_J7_fillI17 (v : Nat → Int32) (f : Nat → Nat → Int32) (b : Int32) : (Nat → Nat → Int32) :=
  (L_J7_fillI17 v f b 8)
set_option maxHeartbeats 4000000 in
theorem c_J7_fillI17 (ε : ET) (ad : Nat → Nat) (v : Nat → Int32) (f : Nat → Nat → Int32) (u : Nat → Int32) (g : Nat → Nat → Int32) (b : Int32)  : CT ε yJ7_fill_53178 cJ7_fill_53178 4 none 0 0 0 0 [.ref (ad 17), .int b] (WD ε ad v f u g) (DT none (WD ε ad v (S_J7_fillI17 v f b) u g)) := by
  refine CT.of (own := RJ7) (by decide) rfl (Nat.le_of_ble_eq_true rfl) (fun κ C hQ => ?_)
  refine j_iconst (x := 0) C dJ7_fill_53178_0 (by decide) ?_
  refine j_istore_n (i := 2) (lv' := [(2, .int 0), (0, .ref (ad 17)), (1, .int b)]) C dJ7_fill_53178_1 rfl (by decide) rfl ?_
  refine j_aload_n (i := 0) C dJ7_fill_53178_2 rfl 1 rfl ?_
  refine an_17 C dJ7_fill_53178_3 ?_
  refine j_istore_n (i := 3) (lv' := [(3, .int 8), (2, .int 0), (0, .ref (ad 17)), (1, .int b)]) C dJ7_fill_53178_4 rfl (by decide) rfl ?_
  have hx1 : JW κ 0 0 (WD ε ad v (L_J7_fillI17 v f b 8) u g) 20 [(3, .int 8), (2, .int (nI 8)), (0, .ref (ad 17)), (1, .int b)] [] := by
    have hs : S_J7_fillI17 v f b = (L_J7_fillI17 v f b 8) := by unfold S_J7_fillI17; rfl
    exact j_vret C hQ rfl dJ7_fill_53178_20 (by rw [hs]; exact ⟨rfl, rfl⟩)
  have lp1 : ∀ d1 i1 : Nat, i1 + d1 = 8 → JW κ 0 0 (WD ε ad v (L_J7_fillI17 v f b i1) u g) 5 [(3, .int 8), (2, .int (nI i1)), (0, .ref (ad 17)), (1, .int b)] [] := by
    intro d1
    induction d1 with
    | zero =>
      intro i1 hi
      have e9 : i1 = 8 := by omega
      rw [e9]
      have lf1 : 8 ≤ (nI 8) := Int32.le_refl _
      refine j_iload_n (i := 2) C dJ7_fill_53178_5 rfl 1 rfl ?_
      refine j_iload_n (i := 3) C dJ7_fill_53178_6 rfl 0 rfl ?_
      refine j_icmp_ge (tgt := 20) C dJ7_fill_53178_7 (by decide) (fun _ => ?_) (fun c9 => absurd lf1 c9)
      exact hx1
    | succ d1 ih1 =>
      intro i1 hi
      have hlt1 : i1 < 8 := by omega
      have lf1 : ¬ 8 ≤ (nI i1) := nI_ge (b := 8) hlt1 (by decide)
      refine j_iload_n (i := 2) C dJ7_fill_53178_5 rfl 1 rfl ?_
      refine j_iload_n (i := 3) C dJ7_fill_53178_6 rfl 0 rfl ?_
      refine j_icmp_ge (tgt := 20) C dJ7_fill_53178_7 (by decide) (fun c9 => absurd c9 lf1) (fun _ => ?_)
      refine j_aload_n (i := 0) C dJ7_fill_53178_10 rfl 2 rfl ?_
      refine j_iload_n (i := 2) C dJ7_fill_53178_11 rfl 1 rfl ?_
      refine j_iload_n (i := 1) C dJ7_fill_53178_12 rfl 3 rfl ?_
      refine as_17 (F2 := ((L_J7_fillI17 v f b i1) 17)) (F := (upd ((L_J7_fillI17 v f b i1) 17) ((nI i1)).toNatClampNeg b)) C dJ7_fill_53178_13 (vp_in_nI hlt1 (by decide)) rfl rfl ?_
      refine j_iinc (y := (nI (i1 + 1))) (lv' := [(2, .int (nI (i1 + 1))), (3, .int 8), (0, .ref (ad 17)), (1, .int b)]) C dJ7_fill_53178_14 1 rfl (nI_1 _) (by decide) rfl ?_
      refine j_goto (tgt := 5) C dJ7_fill_53178_17 (by decide) ?_
      refine j_lv (lv' := [(3, .int 8), (2, .int (nI (i1 + 1))), (0, .ref (ad 17)), (1, .int b)]) [1, 0, 2, 3] rfl ?_
      exact ih1 (i1 + 1) (by omega)
  exact lp1 8 0 (by omega)

def L_J7_fillI19 (v : Nat → Int32) (f : Nat → Nat → Int32) (b : Int32) : Nat → (Nat → Nat → Int32)
  | 0 => f
  | i1 + 1 =>
    (va_up (L_J7_fillI19 v f b i1) 19 (upd ((L_J7_fillI19 v f b i1) 19) ((nI i1)).toNatClampNeg b))
def S_J7_fillI19 (v : Nat → Int32) (f : Nat → Nat → Int32) (b : Int32) : (Nat → Nat → Int32) :=
  (L_J7_fillI19 v f b 8)
set_option maxHeartbeats 4000000 in
theorem c_J7_fillI19 (ε : ET) (ad : Nat → Nat) (v : Nat → Int32) (f : Nat → Nat → Int32) (u : Nat → Int32) (g : Nat → Nat → Int32) (b : Int32)  : CT ε yJ7_fill_53178 cJ7_fill_53178 4 none 0 0 0 0 [.ref (ad 19), .int b] (WD ε ad v f u g) (DT none (WD ε ad v (S_J7_fillI19 v f b) u g)) := by
  refine CT.of (own := RJ7) (by decide) rfl (Nat.le_of_ble_eq_true rfl) (fun κ C hQ => ?_)
  refine j_iconst (x := 0) C dJ7_fill_53178_0 (by decide) ?_
  refine j_istore_n (i := 2) (lv' := [(2, .int 0), (0, .ref (ad 19)), (1, .int b)]) C dJ7_fill_53178_1 rfl (by decide) rfl ?_
  refine j_aload_n (i := 0) C dJ7_fill_53178_2 rfl 1 rfl ?_
  refine an_19 C dJ7_fill_53178_3 ?_
  refine j_istore_n (i := 3) (lv' := [(3, .int 8), (2, .int 0), (0, .ref (ad 19)), (1, .int b)]) C dJ7_fill_53178_4 rfl (by decide) rfl ?_
  have hx1 : JW κ 0 0 (WD ε ad v (L_J7_fillI19 v f b 8) u g) 20 [(3, .int 8), (2, .int (nI 8)), (0, .ref (ad 19)), (1, .int b)] [] := by
    have hs : S_J7_fillI19 v f b = (L_J7_fillI19 v f b 8) := by unfold S_J7_fillI19; rfl
    exact j_vret C hQ rfl dJ7_fill_53178_20 (by rw [hs]; exact ⟨rfl, rfl⟩)
  have lp1 : ∀ d1 i1 : Nat, i1 + d1 = 8 → JW κ 0 0 (WD ε ad v (L_J7_fillI19 v f b i1) u g) 5 [(3, .int 8), (2, .int (nI i1)), (0, .ref (ad 19)), (1, .int b)] [] := by
    intro d1
    induction d1 with
    | zero =>
      intro i1 hi
      have e9 : i1 = 8 := by omega
      rw [e9]
      have lf1 : 8 ≤ (nI 8) := Int32.le_refl _
      refine j_iload_n (i := 2) C dJ7_fill_53178_5 rfl 1 rfl ?_
      refine j_iload_n (i := 3) C dJ7_fill_53178_6 rfl 0 rfl ?_
      refine j_icmp_ge (tgt := 20) C dJ7_fill_53178_7 (by decide) (fun _ => ?_) (fun c9 => absurd lf1 c9)
      exact hx1
    | succ d1 ih1 =>
      intro i1 hi
      have hlt1 : i1 < 8 := by omega
      have lf1 : ¬ 8 ≤ (nI i1) := nI_ge (b := 8) hlt1 (by decide)
      refine j_iload_n (i := 2) C dJ7_fill_53178_5 rfl 1 rfl ?_
      refine j_iload_n (i := 3) C dJ7_fill_53178_6 rfl 0 rfl ?_
      refine j_icmp_ge (tgt := 20) C dJ7_fill_53178_7 (by decide) (fun c9 => absurd c9 lf1) (fun _ => ?_)
      refine j_aload_n (i := 0) C dJ7_fill_53178_10 rfl 2 rfl ?_
      refine j_iload_n (i := 2) C dJ7_fill_53178_11 rfl 1 rfl ?_
      refine j_iload_n (i := 1) C dJ7_fill_53178_12 rfl 3 rfl ?_
      refine as_19 (F2 := ((L_J7_fillI19 v f b i1) 19)) (F := (upd ((L_J7_fillI19 v f b i1) 19) ((nI i1)).toNatClampNeg b)) C dJ7_fill_53178_13 (vp_in_nI hlt1 (by decide)) rfl rfl ?_
      refine j_iinc (y := (nI (i1 + 1))) (lv' := [(2, .int (nI (i1 + 1))), (3, .int 8), (0, .ref (ad 19)), (1, .int b)]) C dJ7_fill_53178_14 1 rfl (nI_1 _) (by decide) rfl ?_
      refine j_goto (tgt := 5) C dJ7_fill_53178_17 (by decide) ?_
      refine j_lv (lv' := [(3, .int 8), (2, .int (nI (i1 + 1))), (0, .ref (ad 19)), (1, .int b)]) [1, 0, 2, 3] rfl ?_
      exact ih1 (i1 + 1) (by omega)
  exact lp1 8 0 (by omega)

def L_J7_fillI21 (v : Nat → Int32) (f : Nat → Nat → Int32) (b : Int32) : Nat → (Nat → Nat → Int32)
  | 0 => f
  | i1 + 1 =>
    (va_up (L_J7_fillI21 v f b i1) 21 (upd ((L_J7_fillI21 v f b i1) 21) ((nI i1)).toNatClampNeg b))
def S_J7_fillI21 (v : Nat → Int32) (f : Nat → Nat → Int32) (b : Int32) : (Nat → Nat → Int32) :=
  (L_J7_fillI21 v f b 8)
set_option maxHeartbeats 4000000 in
theorem c_J7_fillI21 (ε : ET) (ad : Nat → Nat) (v : Nat → Int32) (f : Nat → Nat → Int32) (u : Nat → Int32) (g : Nat → Nat → Int32) (b : Int32)  : CT ε yJ7_fill_53178 cJ7_fill_53178 4 none 0 0 0 0 [.ref (ad 21), .int b] (WD ε ad v f u g) (DT none (WD ε ad v (S_J7_fillI21 v f b) u g)) := by
  refine CT.of (own := RJ7) (by decide) rfl (Nat.le_of_ble_eq_true rfl) (fun κ C hQ => ?_)
  refine j_iconst (x := 0) C dJ7_fill_53178_0 (by decide) ?_
  refine j_istore_n (i := 2) (lv' := [(2, .int 0), (0, .ref (ad 21)), (1, .int b)]) C dJ7_fill_53178_1 rfl (by decide) rfl ?_
  refine j_aload_n (i := 0) C dJ7_fill_53178_2 rfl 1 rfl ?_
  refine an_21 C dJ7_fill_53178_3 ?_
  refine j_istore_n (i := 3) (lv' := [(3, .int 8), (2, .int 0), (0, .ref (ad 21)), (1, .int b)]) C dJ7_fill_53178_4 rfl (by decide) rfl ?_
  have hx1 : JW κ 0 0 (WD ε ad v (L_J7_fillI21 v f b 8) u g) 20 [(3, .int 8), (2, .int (nI 8)), (0, .ref (ad 21)), (1, .int b)] [] := by
    have hs : S_J7_fillI21 v f b = (L_J7_fillI21 v f b 8) := by unfold S_J7_fillI21; rfl
    exact j_vret C hQ rfl dJ7_fill_53178_20 (by rw [hs]; exact ⟨rfl, rfl⟩)
  have lp1 : ∀ d1 i1 : Nat, i1 + d1 = 8 → JW κ 0 0 (WD ε ad v (L_J7_fillI21 v f b i1) u g) 5 [(3, .int 8), (2, .int (nI i1)), (0, .ref (ad 21)), (1, .int b)] [] := by
    intro d1
    induction d1 with
    | zero =>
      intro i1 hi
      have e9 : i1 = 8 := by omega
      rw [e9]
      have lf1 : 8 ≤ (nI 8) := Int32.le_refl _
      refine j_iload_n (i := 2) C dJ7_fill_53178_5 rfl 1 rfl ?_
      refine j_iload_n (i := 3) C dJ7_fill_53178_6 rfl 0 rfl ?_
      refine j_icmp_ge (tgt := 20) C dJ7_fill_53178_7 (by decide) (fun _ => ?_) (fun c9 => absurd lf1 c9)
      exact hx1
    | succ d1 ih1 =>
      intro i1 hi
      have hlt1 : i1 < 8 := by omega
      have lf1 : ¬ 8 ≤ (nI i1) := nI_ge (b := 8) hlt1 (by decide)
      refine j_iload_n (i := 2) C dJ7_fill_53178_5 rfl 1 rfl ?_
      refine j_iload_n (i := 3) C dJ7_fill_53178_6 rfl 0 rfl ?_
      refine j_icmp_ge (tgt := 20) C dJ7_fill_53178_7 (by decide) (fun c9 => absurd c9 lf1) (fun _ => ?_)
      refine j_aload_n (i := 0) C dJ7_fill_53178_10 rfl 2 rfl ?_
      refine j_iload_n (i := 2) C dJ7_fill_53178_11 rfl 1 rfl ?_
      refine j_iload_n (i := 1) C dJ7_fill_53178_12 rfl 3 rfl ?_
      refine as_21 (F2 := ((L_J7_fillI21 v f b i1) 21)) (F := (upd ((L_J7_fillI21 v f b i1) 21) ((nI i1)).toNatClampNeg b)) C dJ7_fill_53178_13 (vp_in_nI hlt1 (by decide)) rfl rfl ?_
      refine j_iinc (y := (nI (i1 + 1))) (lv' := [(2, .int (nI (i1 + 1))), (3, .int 8), (0, .ref (ad 21)), (1, .int b)]) C dJ7_fill_53178_14 1 rfl (nI_1 _) (by decide) rfl ?_
      refine j_goto (tgt := 5) C dJ7_fill_53178_17 (by decide) ?_
      refine j_lv (lv' := [(3, .int 8), (2, .int (nI (i1 + 1))), (0, .ref (ad 21)), (1, .int b)]) [1, 0, 2, 3] rfl ?_
      exact ih1 (i1 + 1) (by omega)
  exact lp1 8 0 (by omega)

def S_X5_clear (v : Nat → Int32) (f : Nat → Nat → Int32)  : (Nat → Nat → Int32) :=
  (S_J7_fillB2 v f 0)
set_option maxHeartbeats 4000000 in
theorem c_X5_clear (ε : ET) (ad : Nat → Nat) (v : Nat → Int32) (f : Nat → Nat → Int32) (u : Nat → Int32) (g : Nat → Nat → Int32)   : CT ε yX5_clear cX5_clear 1 none 1 23 0 0 [.ref (ad 1)] (WD ε ad v f u g) (DT none (WD ε ad v (S_X5_clear v f) u g)) := by
  refine CT.of (own := RX5) (by decide) rfl (Nat.le_of_ble_eq_true rfl) (fun κ C hQ => ?_)
  refine j_aload_n (i := 0) C dX5_clear_0 rfl 0 rfl ?_
  refine g_1_bytes C dX5_clear_1 lf_X5_9 ?_
  refine j_iconst (x := 0) C dX5_clear_4 (by decide) ?_
  refine c_S (As := [.ref (ad 2), .int 0]) (rest := []) (st1 := []) C (c_J7_fillB2 ε ad v f u g 0 ) mt_J7_fill_031fb lm_X5_15 dX5_clear_5 rfl rfl (by decide) (Nat.le_of_ble_eq_true rfl) rfl ?_
  have hs : S_X5_clear v f = (S_J7_fillB2 v f 0) := by unfold S_X5_clear; rfl
  exact j_vret C hQ rfl dX5_clear_8 (by rw [hs]; exact ⟨rfl, rfl⟩)

def S_X8_isQueue (v : Nat → Int32) (f : Nat → Nat → Int32) (a : Int32) : Int32 :=
  if a < 0 then 0
  else if 3 ≤ a then 0
    else 1
set_option maxHeartbeats 4000000 in
theorem c_X8_isQueue (ε : ET) (ad : Nat → Nat) (v : Nat → Int32) (f : Nat → Nat → Int32) (u : Nat → Int32) (g : Nat → Nat → Int32) (a : Int32)  : CT ε yX8_isQueue cX8_isQueue 1 (some .boolean) 0 0 0 0 [.int a] (WD ε ad v f u g) (DT (some (.int (S_X8_isQueue v f a))) (WD ε ad v f u g)) := by
  refine CT.of (own := RX8) (by decide) rfl (Nat.le_of_ble_eq_true rfl) (fun κ C hQ => ?_)
  refine j_iload_n (i := 0) C dX8_isQueue_0 rfl 0 rfl ?_
  refine j_if_lt (tgt := 13) C dX8_isQueue_1 (by decide) (fun c_1 => ?_) (fun c_1 => ?_)
  · refine j_iconst (x := 0) C dX8_isQueue_13 (by decide) ?_
    have hs : S_X8_isQueue v f a = 0 := by unfold S_X8_isQueue; rw [if_pos c_1]
    exact j_zret C hQ rfl rfl dX8_isQueue_14 (by rw [hs]; exact ⟨rfl, rfl⟩)
  · refine j_iload_n (i := 0) C dX8_isQueue_4 rfl 0 rfl ?_
    refine j_iconst (x := 3) C dX8_isQueue_5 (by decide) ?_
    refine j_icmp_ge (tgt := 13) C dX8_isQueue_6 (by decide) (fun c_2 => ?_) (fun c_2 => ?_)
    · refine j_iconst (x := 0) C dX8_isQueue_13 (by decide) ?_
      have hs : S_X8_isQueue v f a = 0 := by unfold S_X8_isQueue; rw [if_neg c_1, if_pos c_2]
      exact j_zret C hQ rfl rfl dX8_isQueue_14 (by rw [hs]; exact ⟨rfl, rfl⟩)
    · refine j_iconst (x := 1) C dX8_isQueue_9 (by decide) ?_
      refine j_goto (tgt := 14) C dX8_isQueue_10 (by decide) ?_
      have hs : S_X8_isQueue v f a = 1 := by unfold S_X8_isQueue; rw [if_neg c_1, if_neg c_2]
      exact j_zret C hQ rfl rfl dX8_isQueue_14 (by rw [hs]; exact ⟨rfl, rfl⟩)

def S_X8_isSize (v : Nat → Int32) (f : Nat → Nat → Int32) (a : Int32) : Int32 :=
  if a = 1 then 1
  else if a = 2 then 1
    else if a = 4 then 1
      else if a = 8 then 1
        else if a = 16 then 1
          else 0
set_option maxHeartbeats 4000000 in
theorem c_X8_isSize (ε : ET) (ad : Nat → Nat) (v : Nat → Int32) (f : Nat → Nat → Int32) (u : Nat → Int32) (g : Nat → Nat → Int32) (a : Int32)  : CT ε yX8_isSize cX8_isSize 1 (some .boolean) 0 0 0 0 [.int a] (WD ε ad v f u g) (DT (some (.int (S_X8_isSize v f a))) (WD ε ad v f u g)) := by
  refine CT.of (own := RX8) (by decide) rfl (Nat.le_of_ble_eq_true rfl) (fun κ C hQ => ?_)
  refine j_iload_n (i := 0) C dX8_isSize_0 rfl 0 rfl ?_
  refine j_iconst (x := 1) C dX8_isSize_1 (by decide) ?_
  refine j_icmp_eq (tgt := 27) C dX8_isSize_2 (by decide) (fun c_1 => ?_) (fun c_1 => ?_)
  · refine j_iconst (x := 1) C dX8_isSize_27 (by decide) ?_
    refine j_goto (tgt := 32) C dX8_isSize_28 (by decide) ?_
    have hs : S_X8_isSize v f a = 1 := by unfold S_X8_isSize; rw [if_pos c_1]
    exact j_zret C hQ rfl rfl dX8_isSize_32 (by rw [hs]; exact ⟨rfl, rfl⟩)
  · refine j_iload_n (i := 0) C dX8_isSize_5 rfl 0 rfl ?_
    refine j_iconst (x := 2) C dX8_isSize_6 (by decide) ?_
    refine j_icmp_eq (tgt := 27) C dX8_isSize_7 (by decide) (fun c_2 => ?_) (fun c_2 => ?_)
    · refine j_iconst (x := 1) C dX8_isSize_27 (by decide) ?_
      refine j_goto (tgt := 32) C dX8_isSize_28 (by decide) ?_
      have hs : S_X8_isSize v f a = 1 := by unfold S_X8_isSize; rw [if_neg c_1, if_pos c_2]
      exact j_zret C hQ rfl rfl dX8_isSize_32 (by rw [hs]; exact ⟨rfl, rfl⟩)
    · refine j_iload_n (i := 0) C dX8_isSize_10 rfl 0 rfl ?_
      refine j_iconst (x := 4) C dX8_isSize_11 (by decide) ?_
      refine j_icmp_eq (tgt := 27) C dX8_isSize_12 (by decide) (fun c_3 => ?_) (fun c_3 => ?_)
      · refine j_iconst (x := 1) C dX8_isSize_27 (by decide) ?_
        refine j_goto (tgt := 32) C dX8_isSize_28 (by decide) ?_
        have hs : S_X8_isSize v f a = 1 := by unfold S_X8_isSize; rw [if_neg c_1, if_neg c_2, if_pos c_3]
        exact j_zret C hQ rfl rfl dX8_isSize_32 (by rw [hs]; exact ⟨rfl, rfl⟩)
      · refine j_iload_n (i := 0) C dX8_isSize_15 rfl 0 rfl ?_
        refine j_bipush (x := 8) C dX8_isSize_16 (by decide) ?_
        refine j_icmp_eq (tgt := 27) C dX8_isSize_18 (by decide) (fun c_4 => ?_) (fun c_4 => ?_)
        · refine j_iconst (x := 1) C dX8_isSize_27 (by decide) ?_
          refine j_goto (tgt := 32) C dX8_isSize_28 (by decide) ?_
          have hs : S_X8_isSize v f a = 1 := by unfold S_X8_isSize; rw [if_neg c_1, if_neg c_2, if_neg c_3, if_pos c_4]
          exact j_zret C hQ rfl rfl dX8_isSize_32 (by rw [hs]; exact ⟨rfl, rfl⟩)
        · refine j_iload_n (i := 0) C dX8_isSize_21 rfl 0 rfl ?_
          refine j_bipush (x := 16) C dX8_isSize_22 (by decide) ?_
          refine j_icmp_ne (tgt := 31) C dX8_isSize_24 (by decide) (fun c_5 => ?_) (fun c_5 => ?_)
          · refine j_iconst (x := 0) C dX8_isSize_31 (by decide) ?_
            have hs : S_X8_isSize v f a = 0 := by unfold S_X8_isSize; rw [if_neg c_1, if_neg c_2, if_neg c_3, if_neg c_4, if_neg c_5]
            exact j_zret C hQ rfl rfl dX8_isSize_32 (by rw [hs]; exact ⟨rfl, rfl⟩)
          · refine j_iconst (x := 1) C dX8_isSize_27 (by decide) ?_
            refine j_goto (tgt := 32) C dX8_isSize_28 (by decide) ?_
            have hs : S_X8_isSize v f a = 1 := by unfold S_X8_isSize; rw [if_neg c_1, if_neg c_2, if_neg c_3, if_neg c_4, if_pos c_5]
            exact j_zret C hQ rfl rfl dX8_isSize_32 (by rw [hs]; exact ⟨rfl, rfl⟩)

def S_X8_isAddress (v : Nat → Int32) (f : Nat → Nat → Int32) (a : Int32) : Int32 :=
  if a < 0 then 0
  else if 4096 ≤ a then 0
    else 1
set_option maxHeartbeats 4000000 in
theorem c_X8_isAddress (ε : ET) (ad : Nat → Nat) (v : Nat → Int32) (f : Nat → Nat → Int32) (u : Nat → Int32) (g : Nat → Nat → Int32) (a : Int32)  : CT ε yX8_isAddress cX8_isAddress 1 (some .boolean) 0 0 0 0 [.int a] (WD ε ad v f u g) (DT (some (.int (S_X8_isAddress v f a))) (WD ε ad v f u g)) := by
  refine CT.of (own := RX8) (by decide) rfl (Nat.le_of_ble_eq_true rfl) (fun κ C hQ => ?_)
  refine j_iload_n (i := 0) C dX8_isAddress_0 rfl 0 rfl ?_
  refine j_if_lt (tgt := 15) C dX8_isAddress_1 (by decide) (fun c_1 => ?_) (fun c_1 => ?_)
  · refine j_iconst (x := 0) C dX8_isAddress_15 (by decide) ?_
    have hs : S_X8_isAddress v f a = 0 := by unfold S_X8_isAddress; rw [if_pos c_1]
    exact j_zret C hQ rfl rfl dX8_isAddress_16 (by rw [hs]; exact ⟨rfl, rfl⟩)
  · refine j_iload_n (i := 0) C dX8_isAddress_4 rfl 0 rfl ?_
    refine j_sipush (x := 4096) C dX8_isAddress_5 (by decide) ?_
    refine j_icmp_ge (tgt := 15) C dX8_isAddress_8 (by decide) (fun c_2 => ?_) (fun c_2 => ?_)
    · refine j_iconst (x := 0) C dX8_isAddress_15 (by decide) ?_
      have hs : S_X8_isAddress v f a = 0 := by unfold S_X8_isAddress; rw [if_neg c_1, if_pos c_2]
      exact j_zret C hQ rfl rfl dX8_isAddress_16 (by rw [hs]; exact ⟨rfl, rfl⟩)
    · refine j_iconst (x := 1) C dX8_isAddress_11 (by decide) ?_
      refine j_goto (tgt := 16) C dX8_isAddress_12 (by decide) ?_
      have hs : S_X8_isAddress v f a = 1 := by unfold S_X8_isAddress; rw [if_neg c_1, if_neg c_2]
      exact j_zret C hQ rfl rfl dX8_isAddress_16 (by rw [hs]; exact ⟨rfl, rfl⟩)

def S_X8_isSector (v : Nat → Int32) (f : Nat → Nat → Int32) (a : Int32) : Int32 :=
  if a < 0 then 0
  else if 32 ≤ a then 0
    else 1
set_option maxHeartbeats 4000000 in
theorem c_X8_isSector (ε : ET) (ad : Nat → Nat) (v : Nat → Int32) (f : Nat → Nat → Int32) (u : Nat → Int32) (g : Nat → Nat → Int32) (a : Int32)  : CT ε yX8_isSector cX8_isSector 1 (some .boolean) 0 0 0 0 [.int a] (WD ε ad v f u g) (DT (some (.int (S_X8_isSector v f a))) (WD ε ad v f u g)) := by
  refine CT.of (own := RX8) (by decide) rfl (Nat.le_of_ble_eq_true rfl) (fun κ C hQ => ?_)
  refine j_iload_n (i := 0) C dX8_isSector_0 rfl 0 rfl ?_
  refine j_if_lt (tgt := 14) C dX8_isSector_1 (by decide) (fun c_1 => ?_) (fun c_1 => ?_)
  · refine j_iconst (x := 0) C dX8_isSector_14 (by decide) ?_
    have hs : S_X8_isSector v f a = 0 := by unfold S_X8_isSector; rw [if_pos c_1]
    exact j_zret C hQ rfl rfl dX8_isSector_15 (by rw [hs]; exact ⟨rfl, rfl⟩)
  · refine j_iload_n (i := 0) C dX8_isSector_4 rfl 0 rfl ?_
    refine j_bipush (x := 32) C dX8_isSector_5 (by decide) ?_
    refine j_icmp_ge (tgt := 14) C dX8_isSector_7 (by decide) (fun c_2 => ?_) (fun c_2 => ?_)
    · refine j_iconst (x := 0) C dX8_isSector_14 (by decide) ?_
      have hs : S_X8_isSector v f a = 0 := by unfold S_X8_isSector; rw [if_neg c_1, if_pos c_2]
      exact j_zret C hQ rfl rfl dX8_isSector_15 (by rw [hs]; exact ⟨rfl, rfl⟩)
    · refine j_iconst (x := 1) C dX8_isSector_10 (by decide) ?_
      refine j_goto (tgt := 15) C dX8_isSector_11 (by decide) ?_
      have hs : S_X8_isSector v f a = 1 := by unfold S_X8_isSector; rw [if_neg c_1, if_neg c_2]
      exact j_zret C hQ rfl rfl dX8_isSector_15 (by rw [hs]; exact ⟨rfl, rfl⟩)

def S_X8_isFrame (v : Nat → Int32) (f : Nat → Nat → Int32) (a : Int32) : Int32 :=
  if a < 1 then 0
  else if 80 < a then 0
    else 1
set_option maxHeartbeats 4000000 in
theorem c_X8_isFrame (ε : ET) (ad : Nat → Nat) (v : Nat → Int32) (f : Nat → Nat → Int32) (u : Nat → Int32) (g : Nat → Nat → Int32) (a : Int32)  : CT ε yX8_isFrame cX8_isFrame 1 (some .boolean) 0 0 0 0 [.int a] (WD ε ad v f u g) (DT (some (.int (S_X8_isFrame v f a))) (WD ε ad v f u g)) := by
  refine CT.of (own := RX8) (by decide) rfl (Nat.le_of_ble_eq_true rfl) (fun κ C hQ => ?_)
  refine j_iload_n (i := 0) C dX8_isFrame_0 rfl 0 rfl ?_
  refine j_iconst (x := 1) C dX8_isFrame_1 (by decide) ?_
  refine j_icmp_lt (tgt := 15) C dX8_isFrame_2 (by decide) (fun c_1 => ?_) (fun c_1 => ?_)
  · refine j_iconst (x := 0) C dX8_isFrame_15 (by decide) ?_
    have hs : S_X8_isFrame v f a = 0 := by unfold S_X8_isFrame; rw [if_pos c_1]
    exact j_zret C hQ rfl rfl dX8_isFrame_16 (by rw [hs]; exact ⟨rfl, rfl⟩)
  · refine j_iload_n (i := 0) C dX8_isFrame_5 rfl 0 rfl ?_
    refine j_bipush (x := 80) C dX8_isFrame_6 (by decide) ?_
    refine j_icmp_gt (tgt := 15) C dX8_isFrame_8 (by decide) (fun c_2 => ?_) (fun c_2 => ?_)
    · refine j_iconst (x := 0) C dX8_isFrame_15 (by decide) ?_
      have hs : S_X8_isFrame v f a = 0 := by unfold S_X8_isFrame; rw [if_neg c_1, if_pos c_2]
      exact j_zret C hQ rfl rfl dX8_isFrame_16 (by rw [hs]; exact ⟨rfl, rfl⟩)
    · refine j_iconst (x := 1) C dX8_isFrame_11 (by decide) ?_
      refine j_goto (tgt := 16) C dX8_isFrame_12 (by decide) ?_
      have hs : S_X8_isFrame v f a = 1 := by unfold S_X8_isFrame; rw [if_neg c_1, if_neg c_2]
      exact j_zret C hQ rfl rfl dX8_isFrame_16 (by rw [hs]; exact ⟨rfl, rfl⟩)

def S_X8_liesInMemory (v : Nat → Int32) (f : Nat → Nat → Int32) (a : Int64) (b : Int64) : Int32 :=
  if (lg_cmp a 0) < 0 then 0
  else if 0 < (lg_cmp a (4096 - b)) then 0
    else 1
set_option maxHeartbeats 4000000 in
theorem c_X8_liesInMemory (ε : ET) (ad : Nat → Nat) (v : Nat → Int32) (f : Nat → Nat → Int32) (u : Nat → Int32) (g : Nat → Nat → Int32) (a : Int64) (b : Int64)  : CT ε yX8_liesInMemory cX8_liesInMemory 4 (some .boolean) 0 0 0 0 [.long a, .long b] (WD ε ad v f u g) (DT (some (.int (S_X8_liesInMemory v f a b))) (WD ε ad v f u g)) := by
  refine CT.of (own := RX8) (by decide) rfl (Nat.le_of_ble_eq_true rfl) (fun κ C hQ => ?_)
  refine j_lload_n (i := 0) C dX8_liesInMemory_0 rfl 0 rfl ?_
  refine j_lconst (x := 0) C dX8_liesInMemory_1 (by decide) ?_
  refine j_lcmp C dX8_liesInMemory_2 ?_
  refine j_if_lt (tgt := 20) C dX8_liesInMemory_3 (by decide) (fun c_1 => ?_) (fun c_1 => ?_)
  · refine j_iconst (x := 0) C dX8_liesInMemory_20 (by decide) ?_
    have hs : S_X8_liesInMemory v f a b = 0 := by unfold S_X8_liesInMemory; rw [if_pos c_1]
    exact j_zret C hQ rfl rfl dX8_liesInMemory_21 (by rw [hs]; exact ⟨rfl, rfl⟩)
  · refine j_lload_n (i := 0) C dX8_liesInMemory_6 rfl 0 rfl ?_
    refine j_ldc2 C dX8_liesInMemory_7 ll_X8_181 ?_
    refine j_lload_n (i := 2) C dX8_liesInMemory_10 rfl 1 rfl ?_
    refine j_lsub C dX8_liesInMemory_11 ?_
    refine j_lcmp C dX8_liesInMemory_12 ?_
    refine j_if_gt (tgt := 20) C dX8_liesInMemory_13 (by decide) (fun c_2 => ?_) (fun c_2 => ?_)
    · refine j_iconst (x := 0) C dX8_liesInMemory_20 (by decide) ?_
      have hs : S_X8_liesInMemory v f a b = 0 := by unfold S_X8_liesInMemory; rw [if_neg c_1, if_pos c_2]
      exact j_zret C hQ rfl rfl dX8_liesInMemory_21 (by rw [hs]; exact ⟨rfl, rfl⟩)
    · refine j_iconst (x := 1) C dX8_liesInMemory_16 (by decide) ?_
      refine j_goto (tgt := 21) C dX8_liesInMemory_17 (by decide) ?_
      have hs : S_X8_liesInMemory v f a b = 1 := by unfold S_X8_liesInMemory; rw [if_neg c_1, if_neg c_2]
      exact j_zret C hQ rfl rfl dX8_liesInMemory_21 (by rw [hs]; exact ⟨rfl, rfl⟩)

def S_X8_isPlace (v : Nat → Int32) (f : Nat → Nat → Int32) (a : Int32) (b : Int32) (c : Int32) : Int32 :=
  if (S_X8_liesInMemory v f ((a : Int32).toInt64) ((c : Int32).toInt64)) = 0 then 0
  else if b ≤ 0 then 0
    else if (a - a / b * b) = 0 then 1
      else 0
set_option maxHeartbeats 4000000 in
theorem c_X8_isPlace (ε : ET) (ad : Nat → Nat) (v : Nat → Int32) (f : Nat → Nat → Int32) (u : Nat → Int32) (g : Nat → Nat → Int32) (a : Int32) (b : Int32) (c : Int32)  : CT ε yX8_isPlace cX8_isPlace 3 (some .boolean) 1 23 0 0 [.int a, .int b, .int c] (WD ε ad v f u g) (DT (some (.int (S_X8_isPlace v f a b c))) (WD ε ad v f u g)) := by
  refine CT.of (own := RX8) (by decide) rfl (Nat.le_of_ble_eq_true rfl) (fun κ C hQ => ?_)
  refine j_iload_n (i := 0) C dX8_isPlace_0 rfl 0 rfl ?_
  refine j_i2l C dX8_isPlace_1 ?_
  refine j_iload_n (i := 2) C dX8_isPlace_2 rfl 2 rfl ?_
  refine j_i2l C dX8_isPlace_3 ?_
  refine c_S (As := [.long ((a : Int32).toInt64), .long ((c : Int32).toInt64)]) (rest := []) (st1 := [.int (S_X8_liesInMemory v f ((a : Int32).toInt64) ((c : Int32).toInt64))]) C (c_X8_liesInMemory ε ad v f u g ((a : Int32).toInt64) ((c : Int32).toInt64) ) mt_X8_liesInMemory lm_X8_177 dX8_isPlace_4 rfl rfl (by decide) (Nat.le_of_ble_eq_true rfl) rfl ?_
  refine j_if_eq (tgt := 24) C dX8_isPlace_7 (by decide) (fun c_1 => ?_) (fun c_1 => ?_)
  · refine j_iconst (x := 0) C dX8_isPlace_24 (by decide) ?_
    have hs : S_X8_isPlace v f a b c = 0 := by unfold S_X8_isPlace; rw [if_pos c_1]
    exact j_zret C hQ rfl rfl dX8_isPlace_25 (by rw [hs]; exact ⟨rfl, rfl⟩)
  · refine j_iload_n (i := 1) C dX8_isPlace_10 rfl 1 rfl ?_
    refine j_if_le (tgt := 24) C dX8_isPlace_11 (by decide) (fun c_2 => ?_) (fun c_2 => ?_)
    · refine j_iconst (x := 0) C dX8_isPlace_24 (by decide) ?_
      have hs : S_X8_isPlace v f a b c = 0 := by unfold S_X8_isPlace; rw [if_neg c_1, if_pos c_2]
      exact j_zret C hQ rfl rfl dX8_isPlace_25 (by rw [hs]; exact ⟨rfl, rfl⟩)
    · refine j_iload_n (i := 0) C dX8_isPlace_14 rfl 0 rfl ?_
      refine j_iload_n (i := 1) C dX8_isPlace_15 rfl 1 rfl ?_
      refine j_irem C dX8_isPlace_16 (fun q9 => c_2 (by rw [q9]; decide)) ?_
      refine j_if_ne (tgt := 24) C dX8_isPlace_17 (by decide) (fun c_3 => ?_) (fun c_3 => ?_)
      · refine j_iconst (x := 0) C dX8_isPlace_24 (by decide) ?_
        have hs : S_X8_isPlace v f a b c = 0 := by unfold S_X8_isPlace; rw [if_neg c_1, if_neg c_2, if_neg c_3]
        exact j_zret C hQ rfl rfl dX8_isPlace_25 (by rw [hs]; exact ⟨rfl, rfl⟩)
      · refine j_iconst (x := 1) C dX8_isPlace_20 (by decide) ?_
        refine j_goto (tgt := 25) C dX8_isPlace_21 (by decide) ?_
        have hs : S_X8_isPlace v f a b c = 1 := by unfold S_X8_isPlace; rw [if_neg c_1, if_neg c_2, if_pos c_3]
        exact j_zret C hQ rfl rfl dX8_isPlace_25 (by rw [hs]; exact ⟨rfl, rfl⟩)

def S_X8_descriptorsOf (v : Nat → Int32) (f : Nat → Nat → Int32) (a : Int32) : Int32 :=
  (256 * a)
set_option maxHeartbeats 4000000 in
theorem c_X8_descriptorsOf (ε : ET) (ad : Nat → Nat) (v : Nat → Int32) (f : Nat → Nat → Int32) (u : Nat → Int32) (g : Nat → Nat → Int32) (a : Int32)  : CT ε yX8_descriptorsOf cX8_descriptorsOf 1 (some .int) 0 0 0 0 [.int a] (WD ε ad v f u g) (DT (some (.int (S_X8_descriptorsOf v f a))) (WD ε ad v f u g)) := by
  refine CT.of (own := RX8) (by decide) rfl (Nat.le_of_ble_eq_true rfl) (fun κ C hQ => ?_)
  refine j_sipush (x := 256) C dX8_descriptorsOf_0 (by decide) ?_
  refine j_iload_n (i := 0) C dX8_descriptorsOf_3 rfl 0 rfl ?_
  refine j_imul C dX8_descriptorsOf_4 ?_
  have hs : S_X8_descriptorsOf v f a = (256 * a) := by unfold S_X8_descriptorsOf; rfl
  exact j_iret C hQ rfl dX8_descriptorsOf_5 (by rw [hs]; exact ⟨rfl, rfl⟩)

def S_X8_availableOf (v : Nat → Int32) (f : Nat → Nat → Int32) (a : Int32) : Int32 :=
  ((256 * a) + 128)
set_option maxHeartbeats 4000000 in
theorem c_X8_availableOf (ε : ET) (ad : Nat → Nat) (v : Nat → Int32) (f : Nat → Nat → Int32) (u : Nat → Int32) (g : Nat → Nat → Int32) (a : Int32)  : CT ε yX8_availableOf cX8_availableOf 1 (some .int) 0 0 0 0 [.int a] (WD ε ad v f u g) (DT (some (.int (S_X8_availableOf v f a))) (WD ε ad v f u g)) := by
  refine CT.of (own := RX8) (by decide) rfl (Nat.le_of_ble_eq_true rfl) (fun κ C hQ => ?_)
  refine j_sipush (x := 256) C dX8_availableOf_0 (by decide) ?_
  refine j_iload_n (i := 0) C dX8_availableOf_3 rfl 0 rfl ?_
  refine j_imul C dX8_availableOf_4 ?_
  refine j_sipush (x := 128) C dX8_availableOf_5 (by decide) ?_
  refine j_iadd C dX8_availableOf_8 ?_
  have hs : S_X8_availableOf v f a = ((256 * a) + 128) := by unfold S_X8_availableOf; rfl
  exact j_iret C hQ rfl dX8_availableOf_9 (by rw [hs]; exact ⟨rfl, rfl⟩)

def S_X8_usedOf (v : Nat → Int32) (f : Nat → Nat → Int32) (a : Int32) : Int32 :=
  ((256 * a) + 152)
set_option maxHeartbeats 4000000 in
theorem c_X8_usedOf (ε : ET) (ad : Nat → Nat) (v : Nat → Int32) (f : Nat → Nat → Int32) (u : Nat → Int32) (g : Nat → Nat → Int32) (a : Int32)  : CT ε yX8_usedOf cX8_usedOf 1 (some .int) 0 0 0 0 [.int a] (WD ε ad v f u g) (DT (some (.int (S_X8_usedOf v f a))) (WD ε ad v f u g)) := by
  refine CT.of (own := RX8) (by decide) rfl (Nat.le_of_ble_eq_true rfl) (fun κ C hQ => ?_)
  refine j_sipush (x := 256) C dX8_usedOf_0 (by decide) ?_
  refine j_iload_n (i := 0) C dX8_usedOf_3 rfl 0 rfl ?_
  refine j_imul C dX8_usedOf_4 ?_
  refine j_sipush (x := 152) C dX8_usedOf_5 (by decide) ?_
  refine j_iadd C dX8_usedOf_8 ?_
  have hs : S_X8_usedOf v f a = ((256 * a) + 152) := by unfold S_X8_usedOf; rfl
  exact j_iret C hQ rfl dX8_usedOf_9 (by rw [hs]; exact ⟨rfl, rfl⟩)

def S_X8_patternByte (v : Nat → Int32) (f : Nat → Nat → Int32) (a : Int64) (b : Int32) : Int32 :=
  (((((((a).toUInt64 >>> (((8 * (b &&& 7)) : Int32).toInt64.toUInt64 &&& Int64.toUInt64 63)).toInt64) : Int64).toInt32) + b) &&& 255)
set_option maxHeartbeats 4000000 in
theorem c_X8_patternByte (ε : ET) (ad : Nat → Nat) (v : Nat → Int32) (f : Nat → Nat → Int32) (u : Nat → Int32) (g : Nat → Nat → Int32) (a : Int64) (b : Int32)  : CT ε yX8_patternByte cX8_patternByte 3 (some .int) 0 0 0 0 [.long a, .int b] (WD ε ad v f u g) (DT (some (.int (S_X8_patternByte v f a b))) (WD ε ad v f u g)) := by
  refine CT.of (own := RX8) (by decide) rfl (Nat.le_of_ble_eq_true rfl) (fun κ C hQ => ?_)
  refine j_lload_n (i := 0) C dX8_patternByte_0 rfl 0 rfl ?_
  refine j_bipush (x := 8) C dX8_patternByte_1 (by decide) ?_
  refine j_iload_n (i := 2) C dX8_patternByte_3 rfl 1 rfl ?_
  refine j_bipush (x := 7) C dX8_patternByte_4 (by decide) ?_
  refine j_iand C dX8_patternByte_6 ?_
  refine j_imul C dX8_patternByte_7 ?_
  refine j_lushr C dX8_patternByte_8 ?_
  refine j_l2i C dX8_patternByte_9 ?_
  refine j_iload_n (i := 2) C dX8_patternByte_10 rfl 1 rfl ?_
  refine j_iadd C dX8_patternByte_11 ?_
  refine j_sipush (x := 255) C dX8_patternByte_12 (by decide) ?_
  refine j_iand C dX8_patternByte_15 ?_
  have hs : S_X8_patternByte v f a b = (((((((a).toUInt64 >>> (((8 * (b &&& 7)) : Int32).toInt64.toUInt64 &&& Int64.toUInt64 63)).toInt64) : Int64).toInt32) + b) &&& 255) := by unfold S_X8_patternByte; rfl
  exact j_iret C hQ rfl dX8_patternByte_16 (by rw [hs]; exact ⟨rfl, rfl⟩)

def S_X8_oneMore (v : Nat → Int32) (f : Nat → Nat → Int32) (a : Int32) : Int32 :=
  ((a + 1) &&& 65535)
set_option maxHeartbeats 4000000 in
theorem c_X8_oneMore (ε : ET) (ad : Nat → Nat) (v : Nat → Int32) (f : Nat → Nat → Int32) (u : Nat → Int32) (g : Nat → Nat → Int32) (a : Int32)  : CT ε yX8_oneMore cX8_oneMore 1 (some .int) 0 0 0 0 [.int a] (WD ε ad v f u g) (DT (some (.int (S_X8_oneMore v f a))) (WD ε ad v f u g)) := by
  refine CT.of (own := RX8) (by decide) rfl (Nat.le_of_ble_eq_true rfl) (fun κ C hQ => ?_)
  refine j_iload_n (i := 0) C dX8_oneMore_0 rfl 0 rfl ?_
  refine j_iconst (x := 1) C dX8_oneMore_1 (by decide) ?_
  refine j_iadd C dX8_oneMore_2 ?_
  refine j_ldc C dX8_oneMore_3 li_X8_183 ?_
  refine j_iand C dX8_oneMore_5 ?_
  have hs : S_X8_oneMore v f a = ((a + 1) &&& 65535) := by unfold S_X8_oneMore; rfl
  exact j_iret C hQ rfl dX8_oneMore_6 (by rw [hs]; exact ⟨rfl, rfl⟩)
end
