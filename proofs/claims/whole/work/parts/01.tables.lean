-- ===== PART A: goes FIRST, ahead of the names: the tables' words, and 'selects' of the private methods out of them =====
/-- a private method of a class that the tables say can be made, by its rows of tables_1 -/
def lw_okq (q : MethodName × Nat) : Prop := (q.1.cls ≠ "java/lang/invoke/MethodHandle" ∧ q.1.cls ≠ "java/lang/invoke/VarHandle") ∧ Cond.instantiable q.1.cls q.2 ∈ tables_1 ∧ Cond.privateMethod q.1 ∈ tables_1 ∧ Cond.instanceMethod q.1 ∈ tables_1
theorem lw_p0 : lw_okq (⟨"RingDevices$Device", "takeFrom", "(LRingDevices$Ring;)I"⟩, 10) := ⟨⟨by decide +kernel, by decide +kernel⟩, List.mem_of_getElem? (i := 38) (by decide +kernel), List.mem_of_getElem? (i := 375) (by decide +kernel), List.mem_of_getElem? (i := 376) (by decide +kernel)⟩
theorem lw_p1 : lw_okq (⟨"RingDevices$Chain", "forget", "()V"⟩, 12) := ⟨⟨by decide +kernel, by decide +kernel⟩, List.mem_of_getElem? (i := 87) (by decide +kernel), List.mem_of_getElem? (i := 393) (by decide +kernel), List.mem_of_getElem? (i := 394) (by decide +kernel)⟩
theorem lw_p2 : lw_okq (⟨"RingDevices$Ring", "placeOf", "(I)I"⟩, 9) := ⟨⟨by decide +kernel, by decide +kernel⟩, List.mem_of_getElem? (i := 44) (by decide +kernel), List.mem_of_getElem? (i := 401) (by decide +kernel), List.mem_of_getElem? (i := 402) (by decide +kernel)⟩
theorem lw_p3 : lw_okq (⟨"RingDevices$Chain", "isTable", "(II)Z"⟩, 12) := ⟨⟨by decide +kernel, by decide +kernel⟩, List.mem_of_getElem? (i := 87) (by decide +kernel), List.mem_of_getElem? (i := 406) (by decide +kernel), List.mem_of_getElem? (i := 407) (by decide +kernel)⟩
theorem lw_p4 : lw_okq (⟨"RingDevices$Chain", "addPart", "(IZ)Z"⟩, 12) := ⟨⟨by decide +kernel, by decide +kernel⟩, List.mem_of_getElem? (i := 87) (by decide +kernel), List.mem_of_getElem? (i := 417) (by decide +kernel), List.mem_of_getElem? (i := 418) (by decide +kernel)⟩
theorem lw_p5 : lw_okq (⟨"RingDevices$Chain", "nextPlace", "()I"⟩, 12) := ⟨⟨by decide +kernel, by decide +kernel⟩, List.mem_of_getElem? (i := 87) (by decide +kernel), List.mem_of_getElem? (i := 441) (by decide +kernel), List.mem_of_getElem? (i := 442) (by decide +kernel)⟩
theorem lw_p6 : lw_okq (⟨"RingDevices$Disk", "resultOf", "(IJLRingDevices$Chain;)I"⟩, 1) := ⟨⟨by decide +kernel, by decide +kernel⟩, List.mem_of_getElem? (i := 137) (by decide +kernel), List.mem_of_getElem? (i := 450) (by decide +kernel), List.mem_of_getElem? (i := 451) (by decide +kernel)⟩
theorem lw_p7 : lw_okq (⟨"RingDevices$Disk", "areThere", "(JI)Z"⟩, 1) := ⟨⟨by decide +kernel, by decide +kernel⟩, List.mem_of_getElem? (i := 137) (by decide +kernel), List.mem_of_getElem? (i := 454) (by decide +kernel), List.mem_of_getElem? (i := 455) (by decide +kernel)⟩
theorem lw_p8 : lw_okq (⟨"RingDevices$Disk", "carryOut", "(IILRingDevices$Chain;)I"⟩, 1) := ⟨⟨by decide +kernel, by decide +kernel⟩, List.mem_of_getElem? (i := 137) (by decide +kernel), List.mem_of_getElem? (i := 458) (by decide +kernel), List.mem_of_getElem? (i := 459) (by decide +kernel)⟩
theorem lw_p9 : lw_okq (⟨"RingDevices$Disk", "copyOut", "(ILRingDevices$Chain;)I"⟩, 1) := ⟨⟨by decide +kernel, by decide +kernel⟩, List.mem_of_getElem? (i := 137) (by decide +kernel), List.mem_of_getElem? (i := 462) (by decide +kernel), List.mem_of_getElem? (i := 463) (by decide +kernel)⟩
theorem lw_p10 : lw_okq (⟨"RingDevices$Disk", "copyIn", "(ILRingDevices$Chain;)I"⟩, 1) := ⟨⟨by decide +kernel, by decide +kernel⟩, List.mem_of_getElem? (i := 137) (by decide +kernel), List.mem_of_getElem? (i := 479) (by decide +kernel), List.mem_of_getElem? (i := 480) (by decide +kernel)⟩
theorem lw_p11 : lw_okq (⟨"RingDevices$Disk", "set", "(II)V"⟩, 1) := ⟨⟨by decide +kernel, by decide +kernel⟩, List.mem_of_getElem? (i := 137) (by decide +kernel), List.mem_of_getElem? (i := 484) (by decide +kernel), List.mem_of_getElem? (i := 485) (by decide +kernel)⟩
theorem lw_p12 : lw_okq (⟨"RingDevices$Disk", "tellName", "(LRingDevices$Chain;)I"⟩, 1) := ⟨⟨by decide +kernel, by decide +kernel⟩, List.mem_of_getElem? (i := 137) (by decide +kernel), List.mem_of_getElem? (i := 488) (by decide +kernel), List.mem_of_getElem? (i := 489) (by decide +kernel)⟩
theorem lw_p13 : lw_okq (⟨"RingDevices$Device", "deliver", "(IJ)Z"⟩, 10) := ⟨⟨by decide +kernel, by decide +kernel⟩, List.mem_of_getElem? (i := 38) (by decide +kernel), List.mem_of_getElem? (i := 577) (by decide +kernel), List.mem_of_getElem? (i := 578) (by decide +kernel)⟩
theorem lw_p14 : lw_okq (⟨"RingDevices$Driver", "refusal", "(LRingDevices$Loans;I)I"⟩, 6) := ⟨⟨by decide +kernel, by decide +kernel⟩, List.mem_of_getElem? (i := 204) (by decide +kernel), List.mem_of_getElem? (i := 597) (by decide +kernel), List.mem_of_getElem? (i := 598) (by decide +kernel)⟩
theorem lw_p15 : lw_okq (⟨"RingDevices$Loans", "leastFree", "()I"⟩, 5) := ⟨⟨by decide +kernel, by decide +kernel⟩, List.mem_of_getElem? (i := 210) (by decide +kernel), List.mem_of_getElem? (i := 615) (by decide +kernel), List.mem_of_getElem? (i := 616) (by decide +kernel)⟩
def lw_privs_1 : List (MethodName × Nat) := [(⟨"RingDevices$Device", "takeFrom", "(LRingDevices$Ring;)I"⟩, 10), (⟨"RingDevices$Chain", "forget", "()V"⟩, 12), (⟨"RingDevices$Ring", "placeOf", "(I)I"⟩, 9), (⟨"RingDevices$Chain", "isTable", "(II)Z"⟩, 12), (⟨"RingDevices$Chain", "addPart", "(IZ)Z"⟩, 12), (⟨"RingDevices$Chain", "nextPlace", "()I"⟩, 12), (⟨"RingDevices$Disk", "resultOf", "(IJLRingDevices$Chain;)I"⟩, 1), (⟨"RingDevices$Disk", "areThere", "(JI)Z"⟩, 1), (⟨"RingDevices$Disk", "carryOut", "(IILRingDevices$Chain;)I"⟩, 1), (⟨"RingDevices$Disk", "copyOut", "(ILRingDevices$Chain;)I"⟩, 1), (⟨"RingDevices$Disk", "copyIn", "(ILRingDevices$Chain;)I"⟩, 1), (⟨"RingDevices$Disk", "set", "(II)V"⟩, 1), (⟨"RingDevices$Disk", "tellName", "(LRingDevices$Chain;)I"⟩, 1), (⟨"RingDevices$Device", "deliver", "(IJ)Z"⟩, 10), (⟨"RingDevices$Driver", "refusal", "(LRingDevices$Loans;I)I"⟩, 6), (⟨"RingDevices$Loans", "leastFree", "()I"⟩, 5)]
theorem lw_r1 : ∀ q ∈ lw_privs_1, lw_okq q := List.forall_mem_cons.mpr ⟨lw_p0, List.forall_mem_cons.mpr ⟨lw_p1, List.forall_mem_cons.mpr ⟨lw_p2, List.forall_mem_cons.mpr ⟨lw_p3, List.forall_mem_cons.mpr ⟨lw_p4, List.forall_mem_cons.mpr ⟨lw_p5, List.forall_mem_cons.mpr ⟨lw_p6, List.forall_mem_cons.mpr ⟨lw_p7, List.forall_mem_cons.mpr ⟨lw_p8, List.forall_mem_cons.mpr ⟨lw_p9, List.forall_mem_cons.mpr ⟨lw_p10, List.forall_mem_cons.mpr ⟨lw_p11, List.forall_mem_cons.mpr ⟨lw_p12, List.forall_mem_cons.mpr ⟨lw_p13, List.forall_mem_cons.mpr ⟨lw_p14, List.forall_mem_cons.mpr ⟨lw_p15, fun _ h => absurd h List.not_mem_nil⟩⟩⟩⟩⟩⟩⟩⟩⟩⟩⟩⟩⟩⟩⟩⟩
theorem lw_p16 : lw_okq (⟨"RingDevices$Loans", "lend", "(II)V"⟩, 5) := ⟨⟨by decide +kernel, by decide +kernel⟩, List.mem_of_getElem? (i := 210) (by decide +kernel), List.mem_of_getElem? (i := 619) (by decide +kernel), List.mem_of_getElem? (i := 620) (by decide +kernel)⟩
theorem lw_p17 : lw_okq (⟨"RingDevices$Driver", "descriptorAt", "(II)I"⟩, 6) := ⟨⟨by decide +kernel, by decide +kernel⟩, List.mem_of_getElem? (i := 204) (by decide +kernel), List.mem_of_getElem? (i := 623) (by decide +kernel), List.mem_of_getElem? (i := 624) (by decide +kernel)⟩
theorem lw_p18 : lw_okq (⟨"RingDevices$Driver", "layRequest", "(IIIIII)V"⟩, 6) := ⟨⟨by decide +kernel, by decide +kernel⟩, List.mem_of_getElem? (i := 204) (by decide +kernel), List.mem_of_getElem? (i := 633) (by decide +kernel), List.mem_of_getElem? (i := 634) (by decide +kernel)⟩
theorem lw_p19 : lw_okq (⟨"RingDevices$Driver", "fillRequest", "(IIIJ)V"⟩, 6) := ⟨⟨by decide +kernel, by decide +kernel⟩, List.mem_of_getElem? (i := 204) (by decide +kernel), List.mem_of_getElem? (i := 641) (by decide +kernel), List.mem_of_getElem? (i := 642) (by decide +kernel)⟩
theorem lw_p20 : lw_okq (⟨"RingDevices$Driver", "fillPattern", "(IIJ)V"⟩, 6) := ⟨⟨by decide +kernel, by decide +kernel⟩, List.mem_of_getElem? (i := 204) (by decide +kernel), List.mem_of_getElem? (i := 646) (by decide +kernel), List.mem_of_getElem? (i := 647) (by decide +kernel)⟩
theorem lw_p21 : lw_okq (⟨"RingDevices$Driver", "offer", "(II)V"⟩, 6) := ⟨⟨by decide +kernel, by decide +kernel⟩, List.mem_of_getElem? (i := 204) (by decide +kernel), List.mem_of_getElem? (i := 652) (by decide +kernel), List.mem_of_getElem? (i := 653) (by decide +kernel)⟩
theorem lw_p22 : lw_okq (⟨"RingDevicesModel", "clear", "()V"⟩, 32) := ⟨⟨by decide +kernel, by decide +kernel⟩, List.mem_of_getElem? (i := 736) (by decide +kernel), List.mem_of_getElem? (i := 742) (by decide +kernel), List.mem_of_getElem? (i := 743) (by decide +kernel)⟩
theorem lw_p23 : lw_okq (⟨"RingDevicesModel", "hasSomething", "(I)Z"⟩, 32) := ⟨⟨by decide +kernel, by decide +kernel⟩, List.mem_of_getElem? (i := 736) (by decide +kernel), List.mem_of_getElem? (i := 864) (by decide +kernel), List.mem_of_getElem? (i := 865) (by decide +kernel)⟩
theorem lw_p24 : lw_okq (⟨"RingDevicesModel", "number", "(II)J"⟩, 32) := ⟨⟨by decide +kernel, by decide +kernel⟩, List.mem_of_getElem? (i := 736) (by decide +kernel), List.mem_of_getElem? (i := 868) (by decide +kernel), List.mem_of_getElem? (i := 869) (by decide +kernel)⟩
theorem lw_p25 : lw_okq (⟨"RingDevicesModel", "take", "(I)Z"⟩, 32) := ⟨⟨by decide +kernel, by decide +kernel⟩, List.mem_of_getElem? (i := 736) (by decide +kernel), List.mem_of_getElem? (i := 873) (by decide +kernel), List.mem_of_getElem? (i := 874) (by decide +kernel)⟩
theorem lw_p26 : lw_okq (⟨"RingDevicesModel", "keep", "(IIZ)V"⟩, 32) := ⟨⟨by decide +kernel, by decide +kernel⟩, List.mem_of_getElem? (i := 736) (by decide +kernel), List.mem_of_getElem? (i := 880) (by decide +kernel), List.mem_of_getElem? (i := 881) (by decide +kernel)⟩
theorem lw_p27 : lw_okq (⟨"RingDevicesModel", "doDisk", "()I"⟩, 32) := ⟨⟨by decide +kernel, by decide +kernel⟩, List.mem_of_getElem? (i := 736) (by decide +kernel), List.mem_of_getElem? (i := 884) (by decide +kernel), List.mem_of_getElem? (i := 885) (by decide +kernel)⟩
theorem lw_p28 : lw_okq (⟨"RingDevicesModel", "readNumber", "(II)J"⟩, 32) := ⟨⟨by decide +kernel, by decide +kernel⟩, List.mem_of_getElem? (i := 736) (by decide +kernel), List.mem_of_getElem? (i := 888) (by decide +kernel), List.mem_of_getElem? (i := 889) (by decide +kernel)⟩
theorem lw_p29 : lw_okq (⟨"RingDevicesModel", "readByte", "(I)I"⟩, 32) := ⟨⟨by decide +kernel, by decide +kernel⟩, List.mem_of_getElem? (i := 736) (by decide +kernel), List.mem_of_getElem? (i := 892) (by decide +kernel), List.mem_of_getElem? (i := 893) (by decide +kernel)⟩
theorem lw_p30 : lw_okq (⟨"RingDevicesModel", "writeByte", "(II)V"⟩, 32) := ⟨⟨by decide +kernel, by decide +kernel⟩, List.mem_of_getElem? (i := 736) (by decide +kernel), List.mem_of_getElem? (i := 896) (by decide +kernel), List.mem_of_getElem? (i := 897) (by decide +kernel)⟩
theorem lw_p31 : lw_okq (⟨"RingDevicesModel", "give", "(II)V"⟩, 32) := ⟨⟨by decide +kernel, by decide +kernel⟩, List.mem_of_getElem? (i := 736) (by decide +kernel), List.mem_of_getElem? (i := 903) (by decide +kernel), List.mem_of_getElem? (i := 904) (by decide +kernel)⟩
def lw_privs_2 : List (MethodName × Nat) := [(⟨"RingDevices$Loans", "lend", "(II)V"⟩, 5), (⟨"RingDevices$Driver", "descriptorAt", "(II)I"⟩, 6), (⟨"RingDevices$Driver", "layRequest", "(IIIIII)V"⟩, 6), (⟨"RingDevices$Driver", "fillRequest", "(IIIJ)V"⟩, 6), (⟨"RingDevices$Driver", "fillPattern", "(IIJ)V"⟩, 6), (⟨"RingDevices$Driver", "offer", "(II)V"⟩, 6), (⟨"RingDevicesModel", "clear", "()V"⟩, 32), (⟨"RingDevicesModel", "hasSomething", "(I)Z"⟩, 32), (⟨"RingDevicesModel", "number", "(II)J"⟩, 32), (⟨"RingDevicesModel", "take", "(I)Z"⟩, 32), (⟨"RingDevicesModel", "keep", "(IIZ)V"⟩, 32), (⟨"RingDevicesModel", "doDisk", "()I"⟩, 32), (⟨"RingDevicesModel", "readNumber", "(II)J"⟩, 32), (⟨"RingDevicesModel", "readByte", "(I)I"⟩, 32), (⟨"RingDevicesModel", "writeByte", "(II)V"⟩, 32), (⟨"RingDevicesModel", "give", "(II)V"⟩, 32)]
theorem lw_r2 : ∀ q ∈ lw_privs_2, lw_okq q := List.forall_mem_cons.mpr ⟨lw_p16, List.forall_mem_cons.mpr ⟨lw_p17, List.forall_mem_cons.mpr ⟨lw_p18, List.forall_mem_cons.mpr ⟨lw_p19, List.forall_mem_cons.mpr ⟨lw_p20, List.forall_mem_cons.mpr ⟨lw_p21, List.forall_mem_cons.mpr ⟨lw_p22, List.forall_mem_cons.mpr ⟨lw_p23, List.forall_mem_cons.mpr ⟨lw_p24, List.forall_mem_cons.mpr ⟨lw_p25, List.forall_mem_cons.mpr ⟨lw_p26, List.forall_mem_cons.mpr ⟨lw_p27, List.forall_mem_cons.mpr ⟨lw_p28, List.forall_mem_cons.mpr ⟨lw_p29, List.forall_mem_cons.mpr ⟨lw_p30, List.forall_mem_cons.mpr ⟨lw_p31, fun _ h => absurd h List.not_mem_nil⟩⟩⟩⟩⟩⟩⟩⟩⟩⟩⟩⟩⟩⟩⟩⟩
theorem lw_p32 : lw_okq (⟨"RingDevicesModel", "put", "(IIJ)V"⟩, 32) := ⟨⟨by decide +kernel, by decide +kernel⟩, List.mem_of_getElem? (i := 736) (by decide +kernel), List.mem_of_getElem? (i := 907) (by decide +kernel), List.mem_of_getElem? (i := 908) (by decide +kernel)⟩
theorem lw_p33 : lw_okq (⟨"RingDevicesModel", "doWire", "()V"⟩, 32) := ⟨⟨by decide +kernel, by decide +kernel⟩, List.mem_of_getElem? (i := 736) (by decide +kernel), List.mem_of_getElem? (i := 911) (by decide +kernel), List.mem_of_getElem? (i := 912) (by decide +kernel)⟩
theorem lw_p34 : lw_okq (⟨"RingDevicesModel", "ask", "(IIJ)I"⟩, 32) := ⟨⟨by decide +kernel, by decide +kernel⟩, List.mem_of_getElem? (i := 736) (by decide +kernel), List.mem_of_getElem? (i := 927) (by decide +kernel), List.mem_of_getElem? (i := 928) (by decide +kernel)⟩
theorem lw_p35 : lw_okq (⟨"RingDevicesModel", "freeOnes", "(I)I"⟩, 32) := ⟨⟨by decide +kernel, by decide +kernel⟩, List.mem_of_getElem? (i := 736) (by decide +kernel), List.mem_of_getElem? (i := 931) (by decide +kernel), List.mem_of_getElem? (i := 932) (by decide +kernel)⟩
theorem lw_p36 : lw_okq (⟨"RingDevicesModel", "lend", "(II)I"⟩, 32) := ⟨⟨by decide +kernel, by decide +kernel⟩, List.mem_of_getElem? (i := 736) (by decide +kernel), List.mem_of_getElem? (i := 935) (by decide +kernel), List.mem_of_getElem? (i := 936) (by decide +kernel)⟩
theorem lw_p37 : lw_okq (⟨"RingDevicesModel", "describe", "(IIIII)V"⟩, 32) := ⟨⟨by decide +kernel, by decide +kernel⟩, List.mem_of_getElem? (i := 736) (by decide +kernel), List.mem_of_getElem? (i := 939) (by decide +kernel), List.mem_of_getElem? (i := 940) (by decide +kernel)⟩
theorem lw_p38 : lw_okq (⟨"RingDevicesModel", "offer", "(II)V"⟩, 32) := ⟨⟨by decide +kernel, by decide +kernel⟩, List.mem_of_getElem? (i := 736) (by decide +kernel), List.mem_of_getElem? (i := 943) (by decide +kernel), List.mem_of_getElem? (i := 944) (by decide +kernel)⟩
def lw_privs_3 : List (MethodName × Nat) := [(⟨"RingDevicesModel", "put", "(IIJ)V"⟩, 32), (⟨"RingDevicesModel", "doWire", "()V"⟩, 32), (⟨"RingDevicesModel", "ask", "(IIJ)I"⟩, 32), (⟨"RingDevicesModel", "freeOnes", "(I)I"⟩, 32), (⟨"RingDevicesModel", "lend", "(II)I"⟩, 32), (⟨"RingDevicesModel", "describe", "(IIIII)V"⟩, 32), (⟨"RingDevicesModel", "offer", "(II)V"⟩, 32)]
theorem lw_r3 : ∀ q ∈ lw_privs_3, lw_okq q := List.forall_mem_cons.mpr ⟨lw_p32, List.forall_mem_cons.mpr ⟨lw_p33, List.forall_mem_cons.mpr ⟨lw_p34, List.forall_mem_cons.mpr ⟨lw_p35, List.forall_mem_cons.mpr ⟨lw_p36, List.forall_mem_cons.mpr ⟨lw_p37, List.forall_mem_cons.mpr ⟨lw_p38, fun _ h => absurd h List.not_mem_nil⟩⟩⟩⟩⟩⟩⟩
def lw_privs : List (MethodName × Nat) := lw_privs_1 ++ (lw_privs_2 ++ (lw_privs_3))
def lw_tbl : List Cond := k2_sels lw_privs ++ tables_1
theorem lw_privs_ok : ∀ q ∈ lw_privs, lw_okq q := by
  show ∀ q ∈ lw_privs_1 ++ (lw_privs_2 ++ (lw_privs_3)), lw_okq q
  exact List.forall_mem_append.mpr ⟨lw_r1, List.forall_mem_append.mpr ⟨lw_r2, lw_r3⟩⟩

/-! ===== BEGIN printed: names, fields, word lists, decode rows ===== -/
def RX0 : String := "RingDevices$Chain"
def TX0 : u_T := fun k => match k with
  | 0 => ("RingDevices$Chain", "memory", "LRingDevices$Memory;", true)
  | 1 => ("RingDevices$Chain", "addresses", "[I", true)
  | 2 => ("RingDevices$Chain", "lengths", "[I", true)
  | 3 => ("RingDevices$Chain", "parts", "I", false)
  | 4 => ("RingDevices$Chain", "readParts", "I", false)
  | 5 => ("RingDevices$Chain", "part", "I", false)
  | 6 => ("RingDevices$Chain", "end", "I", false)
  | 7 => ("RingDevices$Chain", "offset", "I", false)
  | 8 => ("RingDevices$Chain", "lastPlace", "I", false)
  | 9 => ("RingDevices$Chain", "head", "I", false)
  | 10 => ("RingDevices$Chain", "readable", "I", false)
  | _ => ("RingDevices$Chain", "writable", "I", false)
def tyX0 : Nat → FieldType := fun k => match k with
  | 0 => .object "RingDevices$Memory"
  | 1 => .array .int
  | 2 => .array .int
  | 3 => .int
  | 4 => .int
  | 5 => .int
  | 6 => .int
  | 7 => .int
  | 8 => .int
  | 9 => .int
  | 10 => .int
  | _ => .int
abbrev wsX00 : List Cond := u_ws RX0 TX0 12
theorem nmX0 : ∀ a, a < 12 → ∀ b, b < 12 → a ≠ b → (TX0 a).2.1 ≠ (TX0 b).2.1 := by decide +kernel
theorem tyX0_ok : ∀ k, k < 12 → parseFieldDescriptor (TX0 k).2.2.1 = some (tyX0 k) := by decide +kernel
abbrev cX0_init : ByteArray := prog_2_method_1_code
def yX0_init : MethodName := ⟨RX0, "<init>", "(LRingDevices$Memory;)V"⟩
abbrev cX0_forget : ByteArray := prog_2_method_2_code
def yX0_forget : MethodName := ⟨RX0, "forget", "()V"⟩
abbrev cX0_gather : ByteArray := prog_2_method_3_code
def yX0_gather : MethodName := ⟨RX0, "gather", "(LRingDevices$Ring;Z)Z"⟩
abbrev cX0_isTable : ByteArray := prog_2_method_4_code
def yX0_isTable : MethodName := ⟨RX0, "isTable", "(II)Z"⟩
abbrev cX0_addPart : ByteArray := prog_2_method_5_code
def yX0_addPart : MethodName := ⟨RX0, "addPart", "(IZ)Z"⟩
abbrev cX0_toReads : ByteArray := prog_2_method_6_code
def yX0_toReads : MethodName := ⟨RX0, "toReads", "()V"⟩
abbrev cX0_toWrites : ByteArray := prog_2_method_7_code
def yX0_toWrites : MethodName := ⟨RX0, "toWrites", "()V"⟩
abbrev cX0_nextByte : ByteArray := prog_2_method_8_code
def yX0_nextByte : MethodName := ⟨RX0, "nextByte", "()I"⟩
abbrev cX0_nextNumber : ByteArray := prog_2_method_9_code
def yX0_nextNumber : MethodName := ⟨RX0, "nextNumber", "(I)J"⟩
abbrev cX0_skip : ByteArray := prog_2_method_10_code
def yX0_skip : MethodName := ⟨RX0, "skip", "(I)V"⟩
abbrev cX0_putByte : ByteArray := prog_2_method_11_code
def yX0_putByte : MethodName := ⟨RX0, "putByte", "(I)V"⟩
abbrev cX0_putLast : ByteArray := prog_2_method_12_code
def yX0_putLast : MethodName := ⟨RX0, "putLast", "(I)V"⟩
abbrev cX0_nextPlace : ByteArray := prog_2_method_13_code
def yX0_nextPlace : MethodName := ⟨RX0, "nextPlace", "()I"⟩
def RX1 : String := "RingDevices$Device"
def TX1 : u_T := fun k => match k with
  | 0 => ("RingDevices$Device", "disks", "LRingDevices$Ring;", true)
  | 1 => ("RingDevices$Device", "comes", "LRingDevices$Ring;", true)
  | 2 => ("RingDevices$Device", "goes", "LRingDevices$Ring;", true)
  | 3 => ("RingDevices$Device", "chain", "LRingDevices$Chain;", true)
  | 4 => ("RingDevices$Device", "sectors", "LRingDevices$Disk;", true)
  | 5 => ("RingDevices$Device", "line", "LRingDevices$Wire;", true)
  | 6 => ("RingDevices$Device", "state", "I", false)
  | 7 => ("RingDevices$Device", "tables", "Z", false)
  | 8 => ("RingDevices$Device", "came", "I", false)
  | _ => ("RingDevices$Device", "dropped", "I", false)
def tyX1 : Nat → FieldType := fun k => match k with
  | 0 => .object "RingDevices$Ring"
  | 1 => .object "RingDevices$Ring"
  | 2 => .object "RingDevices$Ring"
  | 3 => .object "RingDevices$Chain"
  | 4 => .object "RingDevices$Disk"
  | 5 => .object "RingDevices$Wire"
  | 6 => .int
  | 7 => .boolean
  | 8 => .int
  | _ => .int
abbrev wsX10 : List Cond := u_ws RX1 TX1 10
theorem nmX1 : ∀ a, a < 10 → ∀ b, b < 10 → a ≠ b → (TX1 a).2.1 ≠ (TX1 b).2.1 := by decide +kernel
theorem tyX1_ok : ∀ k, k < 10 → parseFieldDescriptor (TX1 k).2.2.1 = some (tyX1 k) := by decide +kernel
abbrev cX1_init : ByteArray := prog_3_method_1_code
def yX1_init : MethodName := ⟨RX1, "<init>", "(LRingDevices$Memory;)V"⟩
abbrev cX1_ringOf : ByteArray := prog_3_method_2_code
def yX1_ringOf : MethodName := ⟨RX1, "ringOf", "(I)LRingDevices$Ring;"⟩
abbrev cX1_switchOff : ByteArray := prog_3_method_3_code
def yX1_switchOff : MethodName := ⟨RX1, "switchOff", "(Z)V"⟩
abbrev cX1_doChain : ByteArray := prog_3_method_4_code
def yX1_doChain : MethodName := ⟨RX1, "doChain", "(I)I"⟩
abbrev cX1_frameComes : ByteArray := prog_3_method_5_code
def yX1_frameComes : MethodName := ⟨RX1, "frameComes", "(IJ)I"⟩
abbrev cX1_deliver : ByteArray := prog_3_method_6_code
def yX1_deliver : MethodName := ⟨RX1, "deliver", "(IJ)Z"⟩
abbrev cX1_takeFrom : ByteArray := prog_3_method_7_code
def yX1_takeFrom : MethodName := ⟨RX1, "takeFrom", "(LRingDevices$Ring;)I"⟩
def RX2 : String := "RingDevices$Disk"
def TX2 : u_T := fun k => match k with
  | _ => ("RingDevices$Disk", "bytes", "[B", true)
def tyX2 : Nat → FieldType := fun k => match k with
  | _ => .array .byte
abbrev wsX20 : List Cond := u_ws RX2 TX2 1
theorem nmX2 : ∀ a, a < 1 → ∀ b, b < 1 → a ≠ b → (TX2 a).2.1 ≠ (TX2 b).2.1 := by decide +kernel
theorem tyX2_ok : ∀ k, k < 1 → parseFieldDescriptor (TX2 k).2.2.1 = some (tyX2 k) := by decide +kernel
abbrev cX2_init : ByteArray := prog_4_method_1_code
def yX2_init : MethodName := ⟨RX2, "<init>", "()V"⟩
abbrev cX2_at : ByteArray := prog_4_method_2_code
def yX2_at : MethodName := ⟨RX2, "at", "(I)I"⟩
abbrev cX2_set : ByteArray := prog_4_method_3_code
def yX2_set : MethodName := ⟨RX2, "set", "(II)V"⟩
abbrev cX2_answer : ByteArray := prog_4_method_4_code
def yX2_answer : MethodName := ⟨RX2, "answer", "(LRingDevices$Chain;)I"⟩
abbrev cX2_resultOf : ByteArray := prog_4_method_5_code
def yX2_resultOf : MethodName := ⟨RX2, "resultOf", "(IJLRingDevices$Chain;)I"⟩
abbrev cX2_areThere : ByteArray := prog_4_method_6_code
def yX2_areThere : MethodName := ⟨RX2, "areThere", "(JI)Z"⟩
abbrev cX2_carryOut : ByteArray := prog_4_method_7_code
def yX2_carryOut : MethodName := ⟨RX2, "carryOut", "(IILRingDevices$Chain;)I"⟩
abbrev cX2_copyOut : ByteArray := prog_4_method_8_code
def yX2_copyOut : MethodName := ⟨RX2, "copyOut", "(ILRingDevices$Chain;)I"⟩
abbrev cX2_copyIn : ByteArray := prog_4_method_9_code
def yX2_copyIn : MethodName := ⟨RX2, "copyIn", "(ILRingDevices$Chain;)I"⟩
abbrev cX2_tellName : ByteArray := prog_4_method_10_code
def yX2_tellName : MethodName := ⟨RX2, "tellName", "(LRingDevices$Chain;)I"⟩
def RX3 : String := "RingDevices$Driver"
def TX3 : u_T := fun k => match k with
  | 0 => ("RingDevices$Driver", "memory", "LRingDevices$Memory;", true)
  | 1 => ("RingDevices$Driver", "disks", "LRingDevices$Loans;", true)
  | 2 => ("RingDevices$Driver", "comes", "LRingDevices$Loans;", true)
  | 3 => ("RingDevices$Driver", "goes", "LRingDevices$Loans;", true)
  | 4 => ("RingDevices$Driver", "tables", "Z", false)
  | _ => ("RingDevices$Driver", "started", "Z", false)
def tyX3 : Nat → FieldType := fun k => match k with
  | 0 => .object "RingDevices$Memory"
  | 1 => .object "RingDevices$Loans"
  | 2 => .object "RingDevices$Loans"
  | 3 => .object "RingDevices$Loans"
  | 4 => .boolean
  | _ => .boolean
abbrev wsX30 : List Cond := u_ws RX3 TX3 6
theorem nmX3 : ∀ a, a < 6 → ∀ b, b < 6 → a ≠ b → (TX3 a).2.1 ≠ (TX3 b).2.1 := by decide +kernel
theorem tyX3_ok : ∀ k, k < 6 → parseFieldDescriptor (TX3 k).2.2.1 = some (tyX3 k) := by decide +kernel
abbrev cX3_init : ByteArray := prog_5_method_1_code
def yX3_init : MethodName := ⟨RX3, "<init>", "(LRingDevices$Memory;)V"⟩
abbrev cX3_begin : ByteArray := prog_5_method_2_code
def yX3_begin : MethodName := ⟨RX3, "begin", "(Z)V"⟩
abbrev cX3_stop : ByteArray := prog_5_method_3_code
def yX3_stop : MethodName := ⟨RX3, "stop", "()V"⟩
abbrev cX3_loansOf : ByteArray := prog_5_method_4_code
def yX3_loansOf : MethodName := ⟨RX3, "loansOf", "(I)LRingDevices$Loans;"⟩
abbrev cX3_refusal : ByteArray := prog_5_method_5_code
def yX3_refusal : MethodName := ⟨RX3, "refusal", "(LRingDevices$Loans;I)I"⟩
abbrev cX3_ask : ByteArray := prog_5_method_6_code
def yX3_ask : MethodName := ⟨RX3, "ask", "(IIJ)I"⟩
abbrev cX3_layRequest : ByteArray := prog_5_method_7_code
def yX3_layRequest : MethodName := ⟨RX3, "layRequest", "(IIIIII)V"⟩
abbrev cX3_fillRequest : ByteArray := prog_5_method_8_code
def yX3_fillRequest : MethodName := ⟨RX3, "fillRequest", "(IIIJ)V"⟩
abbrev cX3_fillPattern : ByteArray := prog_5_method_9_code
def yX3_fillPattern : MethodName := ⟨RX3, "fillPattern", "(IIJ)V"⟩
abbrev cX3_letGo : ByteArray := prog_5_method_10_code
def yX3_letGo : MethodName := ⟨RX3, "letGo", "(IJ)I"⟩
abbrev cX3_lendBuffer : ByteArray := prog_5_method_11_code
def yX3_lendBuffer : MethodName := ⟨RX3, "lendBuffer", "()I"⟩
abbrev cX3_descriptorAt : ByteArray := prog_5_method_12_code
def yX3_descriptorAt : MethodName := ⟨RX3, "descriptorAt", "(II)I"⟩
abbrev cX3_offer : ByteArray := prog_5_method_13_code
def yX3_offer : MethodName := ⟨RX3, "offer", "(II)V"⟩
abbrev cX3_collectOne : ByteArray := prog_5_method_14_code
def yX3_collectOne : MethodName := ⟨RX3, "collectOne", "(I)I"⟩
def RX4 : String := "RingDevices$Loans"
def TX4 : u_T := fun k => match k with
  | 0 => ("RingDevices$Loans", "chains", "[I", true)
  | 1 => ("RingDevices$Loans", "free", "I", false)
  | 2 => ("RingDevices$Loans", "asked", "I", false)
  | 3 => ("RingDevices$Loans", "saw", "I", false)
  | _ => ("RingDevices$Loans", "latestWritten", "I", false)
def tyX4 : Nat → FieldType := fun k => match k with
  | 0 => .array .int
  | 1 => .int
  | 2 => .int
  | 3 => .int
  | _ => .int
abbrev wsX40 : List Cond := u_ws RX4 TX4 5
theorem nmX4 : ∀ a, a < 5 → ∀ b, b < 5 → a ≠ b → (TX4 a).2.1 ≠ (TX4 b).2.1 := by decide +kernel
theorem tyX4_ok : ∀ k, k < 5 → parseFieldDescriptor (TX4 k).2.2.1 = some (tyX4 k) := by decide +kernel
abbrev cX4_init : ByteArray := prog_6_method_1_code
def yX4_init : MethodName := ⟨RX4, "<init>", "()V"⟩
abbrev cX4_begin : ByteArray := prog_6_method_2_code
def yX4_begin : MethodName := ⟨RX4, "begin", "()V"⟩
abbrev cX4_forget : ByteArray := prog_6_method_3_code
def yX4_forget : MethodName := ⟨RX4, "forget", "()V"⟩
abbrev cX4_freeOnes : ByteArray := prog_6_method_4_code
def yX4_freeOnes : MethodName := ⟨RX4, "freeOnes", "()I"⟩
abbrev cX4_lendFirst : ByteArray := prog_6_method_5_code
def yX4_lendFirst : MethodName := ⟨RX4, "lendFirst", "()I"⟩
abbrev cX4_lendNext : ByteArray := prog_6_method_6_code
def yX4_lendNext : MethodName := ⟨RX4, "lendNext", "(I)I"⟩
abbrev cX4_leastFree : ByteArray := prog_6_method_7_code
def yX4_leastFree : MethodName := ⟨RX4, "leastFree", "()I"⟩
abbrev cX4_lend : ByteArray := prog_6_method_8_code
def yX4_lend : MethodName := ⟨RX4, "lend", "(II)V"⟩
abbrev cX4_takeBack : ByteArray := prog_6_method_9_code
def yX4_takeBack : MethodName := ⟨RX4, "takeBack", "(J)Z"⟩
def RX5 : String := "RingDevices$Memory"
def TX5 : u_T := fun k => match k with
  | _ => ("RingDevices$Memory", "bytes", "[B", true)
def tyX5 : Nat → FieldType := fun k => match k with
  | _ => .array .byte
abbrev wsX50 : List Cond := u_ws RX5 TX5 1
theorem nmX5 : ∀ a, a < 1 → ∀ b, b < 1 → a ≠ b → (TX5 a).2.1 ≠ (TX5 b).2.1 := by decide +kernel
theorem tyX5_ok : ∀ k, k < 1 → parseFieldDescriptor (TX5 k).2.2.1 = some (tyX5 k) := by decide +kernel
abbrev cX5_init : ByteArray := prog_7_method_1_code
def yX5_init : MethodName := ⟨RX5, "<init>", "()V"⟩
abbrev cX5_clear : ByteArray := prog_7_method_2_code
def yX5_clear : MethodName := ⟨RX5, "clear", "()V"⟩
abbrev cX5_at : ByteArray := prog_7_method_3_code
def yX5_at : MethodName := ⟨RX5, "at", "(I)I"⟩
abbrev cX5_set : ByteArray := prog_7_method_4_code
def yX5_set : MethodName := ⟨RX5, "set", "(II)V"⟩
abbrev cX5_number : ByteArray := prog_7_method_5_code
def yX5_number : MethodName := ⟨RX5, "number", "(II)J"⟩
abbrev cX5_setNumber : ByteArray := prog_7_method_6_code
def yX5_setNumber : MethodName := ⟨RX5, "setNumber", "(IIJ)V"⟩
abbrev cX5_two : ByteArray := prog_7_method_7_code
def yX5_two : MethodName := ⟨RX5, "two", "(I)I"⟩
abbrev cX5_setDescriptor : ByteArray := prog_7_method_8_code
def yX5_setDescriptor : MethodName := ⟨RX5, "setDescriptor", "(IIIII)V"⟩
def RX6 : String := "RingDevices$Ring"
def TX6 : u_T := fun k => match k with
  | 0 => ("RingDevices$Ring", "memory", "LRingDevices$Memory;", true)
  | 1 => ("RingDevices$Ring", "laid", "Z", false)
  | 2 => ("RingDevices$Ring", "size", "I", false)
  | 3 => ("RingDevices$Ring", "descriptors", "I", false)
  | 4 => ("RingDevices$Ring", "available", "I", false)
  | 5 => ("RingDevices$Ring", "used", "I", false)
  | 6 => ("RingDevices$Ring", "taken", "I", false)
  | 7 => ("RingDevices$Ring", "given", "I", false)
  | _ => ("RingDevices$Ring", "signals", "I", false)
def tyX6 : Nat → FieldType := fun k => match k with
  | 0 => .object "RingDevices$Memory"
  | 1 => .boolean
  | 2 => .int
  | 3 => .int
  | 4 => .int
  | 5 => .int
  | 6 => .int
  | 7 => .int
  | _ => .int
abbrev wsX60 : List Cond := u_ws RX6 TX6 9
theorem nmX6 : ∀ a, a < 9 → ∀ b, b < 9 → a ≠ b → (TX6 a).2.1 ≠ (TX6 b).2.1 := by decide +kernel
theorem tyX6_ok : ∀ k, k < 9 → parseFieldDescriptor (TX6 k).2.2.1 = some (tyX6 k) := by decide +kernel
abbrev cX6_init : ByteArray := prog_8_method_1_code
def yX6_init : MethodName := ⟨RX6, "<init>", "(LRingDevices$Memory;)V"⟩
abbrev cX6_forget : ByteArray := prog_8_method_2_code
def yX6_forget : MethodName := ⟨RX6, "forget", "()V"⟩
abbrev cX6_lay : ByteArray := prog_8_method_3_code
def yX6_lay : MethodName := ⟨RX6, "lay", "(IIII)V"⟩
abbrev cX6_waiting : ByteArray := prog_8_method_4_code
def yX6_waiting : MethodName := ⟨RX6, "waiting", "()I"⟩
abbrev cX6_nextHead : ByteArray := prog_8_method_5_code
def yX6_nextHead : MethodName := ⟨RX6, "nextHead", "()I"⟩
abbrev cX6_giveBack : ByteArray := prog_8_method_6_code
def yX6_giveBack : MethodName := ⟨RX6, "giveBack", "(II)V"⟩
abbrev cX6_placeOf : ByteArray := prog_8_method_7_code
def yX6_placeOf : MethodName := ⟨RX6, "placeOf", "(I)I"⟩
def RX7 : String := "RingDevices$Wire"
def TX7 : u_T := fun k => match k with
  | 0 => ("RingDevices$Wire", "bytes", "[B", true)
  | 1 => ("RingDevices$Wire", "lengths", "[I", true)
  | 2 => ("RingDevices$Wire", "latest", "I", false)
  | _ => ("RingDevices$Wire", "went", "I", false)
def tyX7 : Nat → FieldType := fun k => match k with
  | 0 => .array .byte
  | 1 => .array .int
  | 2 => .int
  | _ => .int
abbrev wsX70 : List Cond := u_ws RX7 TX7 4
theorem nmX7 : ∀ a, a < 4 → ∀ b, b < 4 → a ≠ b → (TX7 a).2.1 ≠ (TX7 b).2.1 := by decide +kernel
theorem tyX7_ok : ∀ k, k < 4 → parseFieldDescriptor (TX7 k).2.2.1 = some (tyX7 k) := by decide +kernel
abbrev cX7_init : ByteArray := prog_9_method_1_code
def yX7_init : MethodName := ⟨RX7, "<init>", "()V"⟩
abbrev cX7_carry : ByteArray := prog_9_method_2_code
def yX7_carry : MethodName := ⟨RX7, "carry", "(LRingDevices$Chain;)V"⟩
abbrev cX7_byteOf : ByteArray := prog_9_method_3_code
def yX7_byteOf : MethodName := ⟨RX7, "byteOf", "(II)I"⟩
def RX8 : String := "RingDevices"
def TX8 : u_T := fun k => match k with
  | 0 => ("RingDevices", "memory", "LRingDevices$Memory;", true)
  | 1 => ("RingDevices", "device", "LRingDevices$Device;", true)
  | _ => ("RingDevices", "driver", "LRingDevices$Driver;", true)
def tyX8 : Nat → FieldType := fun k => match k with
  | 0 => .object "RingDevices$Memory"
  | 1 => .object "RingDevices$Device"
  | _ => .object "RingDevices$Driver"
abbrev wsX80 : List Cond := u_ws RX8 TX8 3
theorem nmX8 : ∀ a, a < 3 → ∀ b, b < 3 → a ≠ b → (TX8 a).2.1 ≠ (TX8 b).2.1 := by decide +kernel
theorem tyX8_ok : ∀ k, k < 3 → parseFieldDescriptor (TX8 k).2.2.1 = some (tyX8 k) := by decide +kernel
abbrev cX8_init : ByteArray := prog_1_method_1_code
def yX8_init : MethodName := ⟨RX8, "<init>", "()V"⟩
abbrev cX8_start : ByteArray := prog_1_method_2_code
def yX8_start : MethodName := ⟨RX8, "start", "(Z)I"⟩
abbrev cX8_reset : ByteArray := prog_1_method_3_code
def yX8_reset : MethodName := ⟨RX8, "reset", "(Z)I"⟩
abbrev cX8_queue : ByteArray := prog_1_method_4_code
def yX8_queue : MethodName := ⟨RX8, "queue", "(IIIII)I"⟩
abbrev cX8_run : ByteArray := prog_1_method_5_code
def yX8_run : MethodName := ⟨RX8, "run", "()I"⟩
abbrev cX8_poke : ByteArray := prog_1_method_6_code
def yX8_poke : MethodName := ⟨RX8, "poke", "(II)I"⟩
abbrev cX8_peek : ByteArray := prog_1_method_7_code
def yX8_peek : MethodName := ⟨RX8, "peek", "(I)I"⟩
abbrev cX8_step : ByteArray := prog_1_method_8_code
def yX8_step : MethodName := ⟨RX8, "step", "(I)I"⟩
abbrev cX8_arrive : ByteArray := prog_1_method_9_code
def yX8_arrive : MethodName := ⟨RX8, "arrive", "(IJ)I"⟩
abbrev cX8_read : ByteArray := prog_1_method_10_code
def yX8_read : MethodName := ⟨RX8, "read", "(I)I"⟩
abbrev cX8_write : ByteArray := prog_1_method_11_code
def yX8_write : MethodName := ⟨RX8, "write", "(IJ)I"⟩
abbrev cX8_send : ByteArray := prog_1_method_12_code
def yX8_send : MethodName := ⟨RX8, "send", "(IJ)I"⟩
abbrev cX8_post : ByteArray := prog_1_method_13_code
def yX8_post : MethodName := ⟨RX8, "post", "()I"⟩
abbrev cX8_collect : ByteArray := prog_1_method_14_code
def yX8_collect : MethodName := ⟨RX8, "collect", "(I)I"⟩
abbrev cX8_written : ByteArray := prog_1_method_15_code
def yX8_written : MethodName := ⟨RX8, "written", "(I)I"⟩
abbrev cX8_wire : ByteArray := prog_1_method_16_code
def yX8_wire : MethodName := ⟨RX8, "wire", "(II)I"⟩
abbrev cX8_disk : ByteArray := prog_1_method_17_code
def yX8_disk : MethodName := ⟨RX8, "disk", "(II)I"⟩
abbrev cX8_told : ByteArray := prog_1_method_18_code
def yX8_told : MethodName := ⟨RX8, "told", "(II)I"⟩
abbrev cX8_count : ByteArray := prog_1_method_19_code
def yX8_count : MethodName := ⟨RX8, "count", "(I)I"⟩
abbrev cX8_isQueue : ByteArray := prog_1_method_20_code
def yX8_isQueue : MethodName := ⟨RX8, "isQueue", "(I)Z"⟩
abbrev cX8_isSize : ByteArray := prog_1_method_21_code
def yX8_isSize : MethodName := ⟨RX8, "isSize", "(I)Z"⟩
abbrev cX8_isAddress : ByteArray := prog_1_method_22_code
def yX8_isAddress : MethodName := ⟨RX8, "isAddress", "(I)Z"⟩
abbrev cX8_isSector : ByteArray := prog_1_method_23_code
def yX8_isSector : MethodName := ⟨RX8, "isSector", "(I)Z"⟩
abbrev cX8_isFrame : ByteArray := prog_1_method_24_code
def yX8_isFrame : MethodName := ⟨RX8, "isFrame", "(I)Z"⟩
abbrev cX8_isPlace : ByteArray := prog_1_method_25_code
def yX8_isPlace : MethodName := ⟨RX8, "isPlace", "(III)Z"⟩
abbrev cX8_liesInMemory : ByteArray := prog_1_method_26_code
def yX8_liesInMemory : MethodName := ⟨RX8, "liesInMemory", "(JJ)Z"⟩
abbrev cX8_descriptorsOf : ByteArray := prog_1_method_27_code
def yX8_descriptorsOf : MethodName := ⟨RX8, "descriptorsOf", "(I)I"⟩
abbrev cX8_availableOf : ByteArray := prog_1_method_28_code
def yX8_availableOf : MethodName := ⟨RX8, "availableOf", "(I)I"⟩
abbrev cX8_usedOf : ByteArray := prog_1_method_29_code
def yX8_usedOf : MethodName := ⟨RX8, "usedOf", "(I)I"⟩
abbrev cX8_patternByte : ByteArray := prog_1_method_30_code
def yX8_patternByte : MethodName := ⟨RX8, "patternByte", "(JI)I"⟩
abbrev cX8_oneMore : ByteArray := prog_1_method_31_code
def yX8_oneMore : MethodName := ⟨RX8, "oneMore", "(I)I"⟩
def RX9 : String := "RingDevicesModel"
def TX9 : u_T := fun k => match k with
  | 0 => ("RingDevicesModel", "memory", "[B", true)
  | 1 => ("RingDevicesModel", "disk", "[B", true)
  | 2 => ("RingDevicesModel", "state", "I", false)
  | 3 => ("RingDevicesModel", "tables", "Z", false)
  | 4 => ("RingDevicesModel", "started", "Z", false)
  | 5 => ("RingDevicesModel", "sizes", "[I", true)
  | 6 => ("RingDevicesModel", "descriptors", "[I", true)
  | 7 => ("RingDevicesModel", "availables", "[I", true)
  | 8 => ("RingDevicesModel", "useds", "[I", true)
  | 9 => ("RingDevicesModel", "takens", "[I", true)
  | 10 => ("RingDevicesModel", "givens", "[I", true)
  | 11 => ("RingDevicesModel", "signals", "[I", true)
  | 12 => ("RingDevicesModel", "head", "I", false)
  | 13 => ("RingDevicesModel", "reads", "[I", true)
  | 14 => ("RingDevicesModel", "readSizes", "[I", true)
  | 15 => ("RingDevicesModel", "readMany", "I", false)
  | 16 => ("RingDevicesModel", "readAll", "I", false)
  | 17 => ("RingDevicesModel", "writes", "[I", true)
  | 18 => ("RingDevicesModel", "writeSizes", "[I", true)
  | 19 => ("RingDevicesModel", "writeMany", "I", false)
  | 20 => ("RingDevicesModel", "writeAll", "I", false)
  | 21 => ("RingDevicesModel", "bad", "Z", false)
  | 22 => ("RingDevicesModel", "wires", "[B", true)
  | 23 => ("RingDevicesModel", "wireSizes", "[I", true)
  | 24 => ("RingDevicesModel", "went", "I", false)
  | 25 => ("RingDevicesModel", "came", "I", false)
  | 26 => ("RingDevicesModel", "dropped", "I", false)
  | 27 => ("RingDevicesModel", "lent", "[Z", true)
  | 28 => ("RingDevicesModel", "heads", "[I", true)
  | 29 => ("RingDevicesModel", "counts", "[I", true)
  | 30 => ("RingDevicesModel", "saws", "[I", true)
  | _ => ("RingDevicesModel", "written", "[I", true)
def tyX9 : Nat → FieldType := fun k => match k with
  | 0 => .array .byte
  | 1 => .array .byte
  | 2 => .int
  | 3 => .boolean
  | 4 => .boolean
  | 5 => .array .int
  | 6 => .array .int
  | 7 => .array .int
  | 8 => .array .int
  | 9 => .array .int
  | 10 => .array .int
  | 11 => .array .int
  | 12 => .int
  | 13 => .array .int
  | 14 => .array .int
  | 15 => .int
  | 16 => .int
  | 17 => .array .int
  | 18 => .array .int
  | 19 => .int
  | 20 => .int
  | 21 => .boolean
  | 22 => .array .byte
  | 23 => .array .int
  | 24 => .int
  | 25 => .int
  | 26 => .int
  | 27 => .array .boolean
  | 28 => .array .int
  | 29 => .array .int
  | 30 => .array .int
  | _ => .array .int
abbrev wsX90 : List Cond := u_ws RX9 TX9 32
theorem nmX9 : ∀ a, a < 32 → ∀ b, b < 32 → a ≠ b → (TX9 a).2.1 ≠ (TX9 b).2.1 := by decide +kernel
theorem tyX9_ok : ∀ k, k < 32 → parseFieldDescriptor (TX9 k).2.2.1 = some (tyX9 k) := by decide +kernel
abbrev cX9_isIn : ByteArray := prog_11_method_1_code
def yX9_isIn : MethodName := ⟨RX9, "isIn", "(III)Z"⟩
abbrev cX9_number : ByteArray := prog_11_method_2_code
def yX9_number : MethodName := ⟨RX9, "number", "(II)J"⟩
abbrev cX9_put : ByteArray := prog_11_method_3_code
def yX9_put : MethodName := ⟨RX9, "put", "(IIJ)V"⟩
abbrev cX9_poke : ByteArray := prog_11_method_4_code
def yX9_poke : MethodName := ⟨RX9, "poke", "(II)I"⟩
abbrev cX9_peek : ByteArray := prog_11_method_5_code
def yX9_peek : MethodName := ⟨RX9, "peek", "(I)I"⟩
abbrev cX9_clear : ByteArray := prog_11_method_6_code
def yX9_clear : MethodName := ⟨RX9, "clear", "()V"⟩
abbrev cX9_init : ByteArray := prog_11_method_7_code
def yX9_init : MethodName := ⟨RX9, "<init>", "()V"⟩
abbrev cX9_start : ByteArray := prog_11_method_8_code
def yX9_start : MethodName := ⟨RX9, "start", "(Z)I"⟩
abbrev cX9_reset : ByteArray := prog_11_method_9_code
def yX9_reset : MethodName := ⟨RX9, "reset", "(Z)I"⟩
abbrev cX9_queue : ByteArray := prog_11_method_10_code
def yX9_queue : MethodName := ⟨RX9, "queue", "(IIIII)I"⟩
abbrev cX9_run : ByteArray := prog_11_method_11_code
def yX9_run : MethodName := ⟨RX9, "run", "()I"⟩
abbrev cX9_hasSomething : ByteArray := prog_11_method_12_code
def yX9_hasSomething : MethodName := ⟨RX9, "hasSomething", "(I)Z"⟩
abbrev cX9_take : ByteArray := prog_11_method_13_code
def yX9_take : MethodName := ⟨RX9, "take", "(I)Z"⟩
abbrev cX9_keep : ByteArray := prog_11_method_14_code
def yX9_keep : MethodName := ⟨RX9, "keep", "(IIZ)V"⟩
abbrev cX9_readByte : ByteArray := prog_11_method_15_code
def yX9_readByte : MethodName := ⟨RX9, "readByte", "(I)I"⟩
abbrev cX9_readNumber : ByteArray := prog_11_method_16_code
def yX9_readNumber : MethodName := ⟨RX9, "readNumber", "(II)J"⟩
abbrev cX9_writeByte : ByteArray := prog_11_method_17_code
def yX9_writeByte : MethodName := ⟨RX9, "writeByte", "(II)V"⟩
abbrev cX9_give : ByteArray := prog_11_method_18_code
def yX9_give : MethodName := ⟨RX9, "give", "(II)V"⟩
abbrev cX9_step : ByteArray := prog_11_method_19_code
def yX9_step : MethodName := ⟨RX9, "step", "(I)I"⟩
abbrev cX9_doDisk : ByteArray := prog_11_method_20_code
def yX9_doDisk : MethodName := ⟨RX9, "doDisk", "()I"⟩
abbrev cX9_doWire : ByteArray := prog_11_method_21_code
def yX9_doWire : MethodName := ⟨RX9, "doWire", "()V"⟩
abbrev cX9_frameByte : ByteArray := prog_11_method_22_code
def yX9_frameByte : MethodName := ⟨RX9, "frameByte", "(JI)I"⟩
abbrev cX9_arrive : ByteArray := prog_11_method_23_code
def yX9_arrive : MethodName := ⟨RX9, "arrive", "(IJ)I"⟩
abbrev cX9_freeOnes : ByteArray := prog_11_method_24_code
def yX9_freeOnes : MethodName := ⟨RX9, "freeOnes", "(I)I"⟩
abbrev cX9_lend : ByteArray := prog_11_method_25_code
def yX9_lend : MethodName := ⟨RX9, "lend", "(II)I"⟩
abbrev cX9_describe : ByteArray := prog_11_method_26_code
def yX9_describe : MethodName := ⟨RX9, "describe", "(IIIII)V"⟩
abbrev cX9_offer : ByteArray := prog_11_method_27_code
def yX9_offer : MethodName := ⟨RX9, "offer", "(II)V"⟩
abbrev cX9_ask : ByteArray := prog_11_method_28_code
def yX9_ask : MethodName := ⟨RX9, "ask", "(IIJ)I"⟩
abbrev cX9_read : ByteArray := prog_11_method_29_code
def yX9_read : MethodName := ⟨RX9, "read", "(I)I"⟩
abbrev cX9_write : ByteArray := prog_11_method_30_code
def yX9_write : MethodName := ⟨RX9, "write", "(IJ)I"⟩
abbrev cX9_send : ByteArray := prog_11_method_31_code
def yX9_send : MethodName := ⟨RX9, "send", "(IJ)I"⟩
abbrev cX9_post : ByteArray := prog_11_method_32_code
def yX9_post : MethodName := ⟨RX9, "post", "()I"⟩
abbrev cX9_collect : ByteArray := prog_11_method_33_code
def yX9_collect : MethodName := ⟨RX9, "collect", "(I)I"⟩
abbrev cX9_written : ByteArray := prog_11_method_34_code
def yX9_written : MethodName := ⟨RX9, "written", "(I)I"⟩
abbrev cX9_wire : ByteArray := prog_11_method_35_code
def yX9_wire : MethodName := ⟨RX9, "wire", "(II)I"⟩
abbrev cX9_disk : ByteArray := prog_11_method_36_code
def yX9_disk : MethodName := ⟨RX9, "disk", "(II)I"⟩
abbrev cX9_told : ByteArray := prog_11_method_37_code
def yX9_told : MethodName := ⟨RX9, "told", "(II)I"⟩
abbrev cX9_count : ByteArray := prog_11_method_38_code
def yX9_count : MethodName := ⟨RX9, "count", "(I)I"⟩
def RJ6 : String := "java/lang/Integer"
def TJ6 : u_T := fun k => match k with
  | _ => ("", "", "", false)
def tyJ6 : Nat → FieldType := fun k => match k with
  | _ => .int
abbrev wsJ60 : List Cond := u_ws RJ6 TJ6 0
theorem nmJ6 : ∀ a, a < 0 → ∀ b, b < 0 → a ≠ b → (TJ6 a).2.1 ≠ (TJ6 b).2.1 := by decide +kernel
theorem tyJ6_ok : ∀ k, k < 0 → parseFieldDescriptor (TJ6 k).2.2.1 = some (tyJ6 k) := by decide +kernel
abbrev cJ6_bitCount_0f7a4 : ByteArray := prog_12_method_49_code
def yJ6_bitCount_0f7a4 : MethodName := ⟨RJ6, "bitCount", "(I)I"⟩
def RJ9 : String := "java/lang/Math"
def TJ9 : u_T := fun k => match k with
  | _ => ("", "", "", false)
def tyJ9 : Nat → FieldType := fun k => match k with
  | _ => .int
abbrev wsJ90 : List Cond := u_ws RJ9 TJ9 0
theorem nmJ9 : ∀ a, a < 0 → ∀ b, b < 0 → a ≠ b → (TJ9 a).2.1 ≠ (TJ9 b).2.1 := by decide +kernel
theorem tyJ9_ok : ∀ k, k < 0 → parseFieldDescriptor (TJ9 k).2.2.1 = some (tyJ9 k) := by decide +kernel
abbrev cJ9_min_7cf53 : ByteArray := prog_13_method_69_code
def yJ9_min_7cf53 : MethodName := ⟨RJ9, "min", "(II)I"⟩
def RJ0 : String := "java/lang/String"
def TJ0 : u_T := fun k => match k with
  | _ => ("", "", "", false)
def tyJ0 : Nat → FieldType := fun k => match k with
  | _ => .int
abbrev wsJ00 : List Cond := u_ws RJ0 TJ0 0
theorem nmJ0 : ∀ a, a < 0 → ∀ b, b < 0 → a ≠ b → (TJ0 a).2.1 ≠ (TJ0 b).2.1 := by decide +kernel
theorem tyJ0_ok : ∀ k, k < 0 → parseFieldDescriptor (TJ0 k).2.2.1 = some (tyJ0 k) := by decide +kernel
abbrev cJ0_length_8abf5 : ByteArray := prog_14_method_54_code
def yJ0_length_8abf5 : MethodName := ⟨RJ0, "length", "()I"⟩
abbrev cJ0_charAt_5068e : ByteArray := prog_14_method_56_code
def yJ0_charAt_5068e : MethodName := ⟨RJ0, "charAt", "(I)C"⟩
abbrev cJ0_coder_7d493 : ByteArray := prog_14_method_152_code
def yJ0_coder_7d493 : MethodName := ⟨RJ0, "coder", "()B"⟩
abbrev cJ0_isLatin1_aae02 : ByteArray := prog_14_method_154_code
def yJ0_isLatin1_aae02 : MethodName := ⟨RJ0, "isLatin1", "()Z"⟩
abbrev cJ0_checkIndex_df160 : ByteArray := prog_14_method_155_code
def yJ0_checkIndex_df160 : MethodName := ⟨RJ0, "checkIndex", "(II)V"⟩
def RJ1 : String := "java/lang/StringLatin1"
def TJ1 : u_T := fun k => match k with
  | _ => ("", "", "", false)
def tyJ1 : Nat → FieldType := fun k => match k with
  | _ => .int
abbrev wsJ10 : List Cond := u_ws RJ1 TJ1 0
theorem nmJ1 : ∀ a, a < 0 → ∀ b, b < 0 → a ≠ b → (TJ1 a).2.1 ≠ (TJ1 b).2.1 := by decide +kernel
theorem tyJ1_ok : ∀ k, k < 0 → parseFieldDescriptor (TJ1 k).2.2.1 = some (tyJ1 k) := by decide +kernel
abbrev cJ1_charAt_3b067 : ByteArray := prog_15_method_2_code
def yJ1_charAt_3b067 : MethodName := ⟨RJ1, "charAt", "([BI)C"⟩
def RJ2 : String := "java/lang/StringUTF16"
def TJ2 : u_T := fun k => match k with
  | _ => ("", "", "", false)
def tyJ2 : Nat → FieldType := fun k => match k with
  | _ => .int
abbrev wsJ20 : List Cond := u_ws RJ2 TJ2 0
theorem nmJ2 : ∀ a, a < 0 → ∀ b, b < 0 → a ≠ b → (TJ2 a).2.1 ≠ (TJ2 b).2.1 := by decide +kernel
theorem tyJ2_ok : ∀ k, k < 0 → parseFieldDescriptor (TJ2 k).2.2.1 = some (tyJ2 k) := by decide +kernel
abbrev cJ2_getChar_3b067 : ByteArray := prog_16_method_5_code
def yJ2_getChar_3b067 : MethodName := ⟨RJ2, "getChar", "([BI)C"⟩
abbrev cJ2_length_9d52b : ByteArray := prog_16_method_6_code
def yJ2_length_9d52b : MethodName := ⟨RJ2, "length", "([B)I"⟩
abbrev cJ2_charAt_3b067 : ByteArray := prog_16_method_83_code
def yJ2_charAt_3b067 : MethodName := ⟨RJ2, "charAt", "([BI)C"⟩
abbrev cJ2_checkIndex_2214a : ByteArray := prog_16_method_91_code
def yJ2_checkIndex_2214a : MethodName := ⟨RJ2, "checkIndex", "(I[B)V"⟩
def RJ7 : String := "java/util/Arrays"
def TJ7 : u_T := fun k => match k with
  | _ => ("", "", "", false)
def tyJ7 : Nat → FieldType := fun k => match k with
  | _ => .int
abbrev wsJ70 : List Cond := u_ws RJ7 TJ7 0
theorem nmJ7 : ∀ a, a < 0 → ∀ b, b < 0 → a ≠ b → (TJ7 a).2.1 ≠ (TJ7 b).2.1 := by decide +kernel
theorem tyJ7_ok : ∀ k, k < 0 → parseFieldDescriptor (TJ7 k).2.2.1 = some (tyJ7 k) := by decide +kernel
abbrev cJ7_fill_53178 : ByteArray := prog_17_method_103_code
def yJ7_fill_53178 : MethodName := ⟨RJ7, "fill", "([II)V"⟩
abbrev cJ7_fill_031fb : ByteArray := prog_17_method_109_code
def yJ7_fill_031fb : MethodName := ⟨RJ7, "fill", "([BB)V"⟩
def RJ3 : String := "jdk/internal/util/Preconditions"
def TJ3 : u_T := fun k => match k with
  | _ => ("", "", "", false)
def tyJ3 : Nat → FieldType := fun k => match k with
  | _ => .int
abbrev wsJ30 : List Cond := u_ws RJ3 TJ3 0
theorem nmJ3 : ∀ a, a < 0 → ∀ b, b < 0 → a ≠ b → (TJ3 a).2.1 ≠ (TJ3 b).2.1 := by decide +kernel
theorem tyJ3_ok : ∀ k, k < 0 → parseFieldDescriptor (TJ3 k).2.2.1 = some (tyJ3 k) := by decide +kernel
abbrev cJ3_checkIndex_8e157 : ByteArray := prog_18_method_11_code
def yJ3_checkIndex_8e157 : MethodName := ⟨RJ3, "checkIndex", "(IILjava/util/function/BiFunction;)I"⟩
def RL : String := "RingDevicesLaw"
abbrev cL_law : ByteArray := code
def yL_law : MethodName := ⟨RL, "law", "([I)Z"⟩
abbrev vwCl : List vw_C := [(RX0, TX0, 12), (RX1, TX1, 10), (RX2, TX2, 1), (RX3, TX3, 6), (RX4, TX4, 5), (RX5, TX5, 1), (RX6, TX6, 9), (RX7, TX7, 4), (RX8, TX8, 3), (RX9, TX9, 32)]
