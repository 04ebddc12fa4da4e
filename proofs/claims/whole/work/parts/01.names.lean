-- ===== PART A: goes FIRST, ahead of the names: the tables' words, and 'selects' of the private methods out of them =====
/-- a private method of a class that the tables say can be made, by its rows of tables_1 -/
def lw_okq (q : MethodName × Nat) : Prop := (q.1.cls ≠ "java/lang/invoke/MethodHandle" ∧ q.1.cls ≠ "java/lang/invoke/VarHandle") ∧ Cond.instantiable q.1.cls q.2 ∈ tables_1 ∧ Cond.privateMethod q.1 ∈ tables_1 ∧ Cond.instanceMethod q.1 ∈ tables_1
theorem lw_p0 : lw_okq (⟨"WireFamily$House", "takeStart", "(I)Z"⟩, 9) := ⟨⟨by decide +kernel, by decide +kernel⟩, List.mem_of_getElem? (i := 39) (by decide +kernel), List.mem_of_getElem? (i := 268) (by decide +kernel), List.mem_of_getElem? (i := 269) (by decide +kernel)⟩
theorem lw_p1 : lw_okq (⟨"WireFamily$House", "takeThing", "(I)Z"⟩, 9) := ⟨⟨by decide +kernel, by decide +kernel⟩, List.mem_of_getElem? (i := 39) (by decide +kernel), List.mem_of_getElem? (i := 272) (by decide +kernel), List.mem_of_getElem? (i := 273) (by decide +kernel)⟩
theorem lw_p2 : lw_okq (⟨"WireFamily$House", "takeKind", "(I)Z"⟩, 9) := ⟨⟨by decide +kernel, by decide +kernel⟩, List.mem_of_getElem? (i := 39) (by decide +kernel), List.mem_of_getElem? (i := 276) (by decide +kernel), List.mem_of_getElem? (i := 277) (by decide +kernel)⟩
theorem lw_p3 : lw_okq (⟨"WireFamily$House", "takeCell", "(I)Z"⟩, 9) := ⟨⟨by decide +kernel, by decide +kernel⟩, List.mem_of_getElem? (i := 39) (by decide +kernel), List.mem_of_getElem? (i := 280) (by decide +kernel), List.mem_of_getElem? (i := 281) (by decide +kernel)⟩
theorem lw_p4 : lw_okq (⟨"WireFamily$House", "takePart", "(I)Z"⟩, 9) := ⟨⟨by decide +kernel, by decide +kernel⟩, List.mem_of_getElem? (i := 39) (by decide +kernel), List.mem_of_getElem? (i := 284) (by decide +kernel), List.mem_of_getElem? (i := 285) (by decide +kernel)⟩
theorem lw_p5 : lw_okq (⟨"WireFamily$House", "takeNeed", "(I)Z"⟩, 9) := ⟨⟨by decide +kernel, by decide +kernel⟩, List.mem_of_getElem? (i := 39) (by decide +kernel), List.mem_of_getElem? (i := 288) (by decide +kernel), List.mem_of_getElem? (i := 289) (by decide +kernel)⟩
theorem lw_p6 : lw_okq (⟨"WireFamily", "talliedNow", "()LWireFamily$Tally;"⟩, 13) := ⟨⟨by decide +kernel, by decide +kernel⟩, List.mem_of_getElem? (i := 16) (by decide +kernel), List.mem_of_getElem? (i := 329) (by decide +kernel), List.mem_of_getElem? (i := 330) (by decide +kernel)⟩
theorem lw_p7 : lw_okq (⟨"WireFamily$Tally", "countCells", "([I[I)V"⟩, 3) := ⟨⟨by decide +kernel, by decide +kernel⟩, List.mem_of_getElem? (i := 130) (by decide +kernel), List.mem_of_getElem? (i := 337) (by decide +kernel), List.mem_of_getElem? (i := 338) (by decide +kernel)⟩
theorem lw_p8 : lw_okq (⟨"WireFamily", "wireCount", "()I"⟩, 13) := ⟨⟨by decide +kernel, by decide +kernel⟩, List.mem_of_getElem? (i := 16) (by decide +kernel), List.mem_of_getElem? (i := 367) (by decide +kernel), List.mem_of_getElem? (i := 368) (by decide +kernel)⟩
theorem lw_p9 : lw_okq (⟨"WireFamily$Wires", "putLeastBehind", "(I)V"⟩, 3) := ⟨⟨by decide +kernel, by decide +kernel⟩, List.mem_of_getElem? (i := 163) (by decide +kernel), List.mem_of_getElem? (i := 383) (by decide +kernel), List.mem_of_getElem? (i := 384) (by decide +kernel)⟩
theorem lw_p10 : lw_okq (⟨"WireFamily", "isRow", "(I)Z"⟩, 13) := ⟨⟨by decide +kernel, by decide +kernel⟩, List.mem_of_getElem? (i := 16) (by decide +kernel), List.mem_of_getElem? (i := 394) (by decide +kernel), List.mem_of_getElem? (i := 395) (by decide +kernel)⟩
theorem lw_p11 : lw_okq (⟨"WireFamily", "isKin", "(I)Z"⟩, 13) := ⟨⟨by decide +kernel, by decide +kernel⟩, List.mem_of_getElem? (i := 16) (by decide +kernel), List.mem_of_getElem? (i := 406) (by decide +kernel), List.mem_of_getElem? (i := 407) (by decide +kernel)⟩
theorem lw_p12 : lw_okq (⟨"WireFamily$Table", "isNear", "(II)Z"⟩, 4) := ⟨⟨by decide +kernel, by decide +kernel⟩, List.mem_of_getElem? (i := 85) (by decide +kernel), List.mem_of_getElem? (i := 447) (by decide +kernel), List.mem_of_getElem? (i := 448) (by decide +kernel)⟩
theorem lw_p13 : lw_okq (⟨"WireFamily$Acts", "forgetFirst", "()V"⟩, 4) := ⟨⟨by decide +kernel, by decide +kernel⟩, List.mem_of_getElem? (i := 109) (by decide +kernel), List.mem_of_getElem? (i := 458) (by decide +kernel), List.mem_of_getElem? (i := 459) (by decide +kernel)⟩
theorem lw_p14 : lw_okq (⟨"WireFamily", "isDeed", "(I)Z"⟩, 13) := ⟨⟨by decide +kernel, by decide +kernel⟩, List.mem_of_getElem? (i := 16) (by decide +kernel), List.mem_of_getElem? (i := 530) (by decide +kernel), List.mem_of_getElem? (i := 531) (by decide +kernel)⟩
theorem lw_p15 : lw_okq (⟨"WireFamily", "ordersWith", "(I)I"⟩, 13) := ⟨⟨by decide +kernel, by decide +kernel⟩, List.mem_of_getElem? (i := 16) (by decide +kernel), List.mem_of_getElem? (i := 566) (by decide +kernel), List.mem_of_getElem? (i := 567) (by decide +kernel)⟩
def lw_privs_1 : List (MethodName × Nat) := [(⟨"WireFamily$House", "takeStart", "(I)Z"⟩, 9), (⟨"WireFamily$House", "takeThing", "(I)Z"⟩, 9), (⟨"WireFamily$House", "takeKind", "(I)Z"⟩, 9), (⟨"WireFamily$House", "takeCell", "(I)Z"⟩, 9), (⟨"WireFamily$House", "takePart", "(I)Z"⟩, 9), (⟨"WireFamily$House", "takeNeed", "(I)Z"⟩, 9), (⟨"WireFamily", "talliedNow", "()LWireFamily$Tally;"⟩, 13), (⟨"WireFamily$Tally", "countCells", "([I[I)V"⟩, 3), (⟨"WireFamily", "wireCount", "()I"⟩, 13), (⟨"WireFamily$Wires", "putLeastBehind", "(I)V"⟩, 3), (⟨"WireFamily", "isRow", "(I)Z"⟩, 13), (⟨"WireFamily", "isKin", "(I)Z"⟩, 13), (⟨"WireFamily$Table", "isNear", "(II)Z"⟩, 4), (⟨"WireFamily$Acts", "forgetFirst", "()V"⟩, 4), (⟨"WireFamily", "isDeed", "(I)Z"⟩, 13), (⟨"WireFamily", "ordersWith", "(I)I"⟩, 13)]
theorem lw_r1 : ∀ q ∈ lw_privs_1, lw_okq q := List.forall_mem_cons.mpr ⟨lw_p0, List.forall_mem_cons.mpr ⟨lw_p1, List.forall_mem_cons.mpr ⟨lw_p2, List.forall_mem_cons.mpr ⟨lw_p3, List.forall_mem_cons.mpr ⟨lw_p4, List.forall_mem_cons.mpr ⟨lw_p5, List.forall_mem_cons.mpr ⟨lw_p6, List.forall_mem_cons.mpr ⟨lw_p7, List.forall_mem_cons.mpr ⟨lw_p8, List.forall_mem_cons.mpr ⟨lw_p9, List.forall_mem_cons.mpr ⟨lw_p10, List.forall_mem_cons.mpr ⟨lw_p11, List.forall_mem_cons.mpr ⟨lw_p12, List.forall_mem_cons.mpr ⟨lw_p13, List.forall_mem_cons.mpr ⟨lw_p14, List.forall_mem_cons.mpr ⟨lw_p15, fun _ h => absurd h List.not_mem_nil⟩⟩⟩⟩⟩⟩⟩⟩⟩⟩⟩⟩⟩⟩⟩⟩
theorem lw_p16 : lw_okq (⟨"WireFamily", "isAtRest", "(II)Z"⟩, 13) := ⟨⟨by decide +kernel, by decide +kernel⟩, List.mem_of_getElem? (i := 16) (by decide +kernel), List.mem_of_getElem? (i := 606) (by decide +kernel), List.mem_of_getElem? (i := 607) (by decide +kernel)⟩
theorem lw_p17 : lw_okq (⟨"WireFamily", "holding", "(III)I"⟩, 13) := ⟨⟨by decide +kernel, by decide +kernel⟩, List.mem_of_getElem? (i := 16) (by decide +kernel), List.mem_of_getElem? (i := 610) (by decide +kernel), List.mem_of_getElem? (i := 611) (by decide +kernel)⟩
theorem lw_p18 : lw_okq (⟨"WireFamilyModel", "readFamily", "()I"⟩, 35) := ⟨⟨by decide +kernel, by decide +kernel⟩, List.mem_of_getElem? (i := 639) (by decide +kernel), List.mem_of_getElem? (i := 767) (by decide +kernel), List.mem_of_getElem? (i := 768) (by decide +kernel)⟩
theorem lw_p19 : lw_okq (⟨"WireFamilyModel", "readThing", "()Z"⟩, 35) := ⟨⟨by decide +kernel, by decide +kernel⟩, List.mem_of_getElem? (i := 639) (by decide +kernel), List.mem_of_getElem? (i := 771) (by decide +kernel), List.mem_of_getElem? (i := 772) (by decide +kernel)⟩
theorem lw_p20 : lw_okq (⟨"WireFamilyModel", "readOneKin", "()Z"⟩, 35) := ⟨⟨by decide +kernel, by decide +kernel⟩, List.mem_of_getElem? (i := 639) (by decide +kernel), List.mem_of_getElem? (i := 775) (by decide +kernel), List.mem_of_getElem? (i := 776) (by decide +kernel)⟩
theorem lw_p21 : lw_okq (⟨"WireFamilyModel", "from", "(III)I"⟩, 35) := ⟨⟨by decide +kernel, by decide +kernel⟩, List.mem_of_getElem? (i := 639) (by decide +kernel), List.mem_of_getElem? (i := 779) (by decide +kernel), List.mem_of_getElem? (i := 780) (by decide +kernel)⟩
theorem lw_p22 : lw_okq (⟨"WireFamilyModel", "readOneRow", "()Z"⟩, 35) := ⟨⟨by decide +kernel, by decide +kernel⟩, List.mem_of_getElem? (i := 639) (by decide +kernel), List.mem_of_getElem? (i := 783) (by decide +kernel), List.mem_of_getElem? (i := 784) (by decide +kernel)⟩
theorem lw_p23 : lw_okq (⟨"WireFamilyModel", "readOneDeed", "()Z"⟩, 35) := ⟨⟨by decide +kernel, by decide +kernel⟩, List.mem_of_getElem? (i := 639) (by decide +kernel), List.mem_of_getElem? (i := 787) (by decide +kernel), List.mem_of_getElem? (i := 788) (by decide +kernel)⟩
theorem lw_p24 : lw_okq (⟨"WireFamilyModel", "layHalves", "([I)V"⟩, 35) := ⟨⟨by decide +kernel, by decide +kernel⟩, List.mem_of_getElem? (i := 639) (by decide +kernel), List.mem_of_getElem? (i := 802) (by decide +kernel), List.mem_of_getElem? (i := 803) (by decide +kernel)⟩
theorem lw_p25 : lw_okq (⟨"WireFamilyModel", "figuresOf", "([I)I"⟩, 35) := ⟨⟨by decide +kernel, by decide +kernel⟩, List.mem_of_getElem? (i := 639) (by decide +kernel), List.mem_of_getElem? (i := 806) (by decide +kernel), List.mem_of_getElem? (i := 807) (by decide +kernel)⟩
theorem lw_p26 : lw_okq (⟨"WireFamilyModel", "slipsOf", "([I)I"⟩, 35) := ⟨⟨by decide +kernel, by decide +kernel⟩, List.mem_of_getElem? (i := 639) (by decide +kernel), List.mem_of_getElem? (i := 810) (by decide +kernel), List.mem_of_getElem? (i := 811) (by decide +kernel)⟩
theorem lw_p27 : lw_okq (⟨"WireFamilyModel", "partedLaid", "()I"⟩, 35) := ⟨⟨by decide +kernel, by decide +kernel⟩, List.mem_of_getElem? (i := 639) (by decide +kernel), List.mem_of_getElem? (i := 814) (by decide +kernel), List.mem_of_getElem? (i := 815) (by decide +kernel)⟩
theorem lw_p28 : lw_okq (⟨"WireFamilyModel", "wires", "()I"⟩, 35) := ⟨⟨by decide +kernel, by decide +kernel⟩, List.mem_of_getElem? (i := 639) (by decide +kernel), List.mem_of_getElem? (i := 818) (by decide +kernel), List.mem_of_getElem? (i := 819) (by decide +kernel)⟩
theorem lw_p29 : lw_okq (⟨"WireFamilyModel", "layWire", "(I)Z"⟩, 35) := ⟨⟨by decide +kernel, by decide +kernel⟩, List.mem_of_getElem? (i := 639) (by decide +kernel), List.mem_of_getElem? (i := 825) (by decide +kernel), List.mem_of_getElem? (i := 826) (by decide +kernel)⟩
theorem lw_p30 : lw_okq (⟨"WireFamilyModel", "countsFor", "([III)I"⟩, 35) := ⟨⟨by decide +kernel, by decide +kernel⟩, List.mem_of_getElem? (i := 639) (by decide +kernel), List.mem_of_getElem? (i := 835) (by decide +kernel), List.mem_of_getElem? (i := 836) (by decide +kernel)⟩
theorem lw_p31 : lw_okq (⟨"WireFamilyModel", "countsOf", "(II)I"⟩, 35) := ⟨⟨by decide +kernel, by decide +kernel⟩, List.mem_of_getElem? (i := 639) (by decide +kernel), List.mem_of_getElem? (i := 843) (by decide +kernel), List.mem_of_getElem? (i := 844) (by decide +kernel)⟩
def lw_privs_2 : List (MethodName × Nat) := [(⟨"WireFamily", "isAtRest", "(II)Z"⟩, 13), (⟨"WireFamily", "holding", "(III)I"⟩, 13), (⟨"WireFamilyModel", "readFamily", "()I"⟩, 35), (⟨"WireFamilyModel", "readThing", "()Z"⟩, 35), (⟨"WireFamilyModel", "readOneKin", "()Z"⟩, 35), (⟨"WireFamilyModel", "from", "(III)I"⟩, 35), (⟨"WireFamilyModel", "readOneRow", "()Z"⟩, 35), (⟨"WireFamilyModel", "readOneDeed", "()Z"⟩, 35), (⟨"WireFamilyModel", "layHalves", "([I)V"⟩, 35), (⟨"WireFamilyModel", "figuresOf", "([I)I"⟩, 35), (⟨"WireFamilyModel", "slipsOf", "([I)I"⟩, 35), (⟨"WireFamilyModel", "partedLaid", "()I"⟩, 35), (⟨"WireFamilyModel", "wires", "()I"⟩, 35), (⟨"WireFamilyModel", "layWire", "(I)Z"⟩, 35), (⟨"WireFamilyModel", "countsFor", "([III)I"⟩, 35), (⟨"WireFamilyModel", "countsOf", "(II)I"⟩, 35)]
theorem lw_r2 : ∀ q ∈ lw_privs_2, lw_okq q := List.forall_mem_cons.mpr ⟨lw_p16, List.forall_mem_cons.mpr ⟨lw_p17, List.forall_mem_cons.mpr ⟨lw_p18, List.forall_mem_cons.mpr ⟨lw_p19, List.forall_mem_cons.mpr ⟨lw_p20, List.forall_mem_cons.mpr ⟨lw_p21, List.forall_mem_cons.mpr ⟨lw_p22, List.forall_mem_cons.mpr ⟨lw_p23, List.forall_mem_cons.mpr ⟨lw_p24, List.forall_mem_cons.mpr ⟨lw_p25, List.forall_mem_cons.mpr ⟨lw_p26, List.forall_mem_cons.mpr ⟨lw_p27, List.forall_mem_cons.mpr ⟨lw_p28, List.forall_mem_cons.mpr ⟨lw_p29, List.forall_mem_cons.mpr ⟨lw_p30, List.forall_mem_cons.mpr ⟨lw_p31, fun _ h => absurd h List.not_mem_nil⟩⟩⟩⟩⟩⟩⟩⟩⟩⟩⟩⟩⟩⟩⟩⟩
theorem lw_p32 : lw_okq (⟨"WireFamilyModel", "countOf", "([IIII)I"⟩, 35) := ⟨⟨by decide +kernel, by decide +kernel⟩, List.mem_of_getElem? (i := 639) (by decide +kernel), List.mem_of_getElem? (i := 847) (by decide +kernel), List.mem_of_getElem? (i := 848) (by decide +kernel)⟩
theorem lw_p33 : lw_okq (⟨"WireFamilyModel", "canOf", "([III)I"⟩, 35) := ⟨⟨by decide +kernel, by decide +kernel⟩, List.mem_of_getElem? (i := 639) (by decide +kernel), List.mem_of_getElem? (i := 863) (by decide +kernel), List.mem_of_getElem? (i := 864) (by decide +kernel)⟩
theorem lw_p34 : lw_okq (⟨"WireFamilyModel", "canDraw", "([III)Z"⟩, 35) := ⟨⟨by decide +kernel, by decide +kernel⟩, List.mem_of_getElem? (i := 639) (by decide +kernel), List.mem_of_getElem? (i := 871) (by decide +kernel), List.mem_of_getElem? (i := 872) (by decide +kernel)⟩
theorem lw_p35 : lw_okq (⟨"WireFamilyModel", "note", "()V"⟩, 35) := ⟨⟨by decide +kernel, by decide +kernel⟩, List.mem_of_getElem? (i := 639) (by decide +kernel), List.mem_of_getElem? (i := 876) (by decide +kernel), List.mem_of_getElem? (i := 877) (by decide +kernel)⟩
theorem lw_p36 : lw_okq (⟨"WireFamilyModel", "rejoin", "([I)V"⟩, 35) := ⟨⟨by decide +kernel, by decide +kernel⟩, List.mem_of_getElem? (i := 639) (by decide +kernel), List.mem_of_getElem? (i := 891) (by decide +kernel), List.mem_of_getElem? (i := 892) (by decide +kernel)⟩
theorem lw_p37 : lw_okq (⟨"WireFamilyModel", "worthOf", "(II)I"⟩, 35) := ⟨⟨by decide +kernel, by decide +kernel⟩, List.mem_of_getElem? (i := 639) (by decide +kernel), List.mem_of_getElem? (i := 915) (by decide +kernel), List.mem_of_getElem? (i := 916) (by decide +kernel)⟩
theorem lw_p38 : lw_okq (⟨"WireFamilyModel", "does", "(I)Z"⟩, 35) := ⟨⟨by decide +kernel, by decide +kernel⟩, List.mem_of_getElem? (i := 639) (by decide +kernel), List.mem_of_getElem? (i := 923) (by decide +kernel), List.mem_of_getElem? (i := 924) (by decide +kernel)⟩
theorem lw_p39 : lw_okq (⟨"WireFamilyModel", "isSeen", "()Z"⟩, 35) := ⟨⟨by decide +kernel, by decide +kernel⟩, List.mem_of_getElem? (i := 639) (by decide +kernel), List.mem_of_getElem? (i := 953) (by decide +kernel), List.mem_of_getElem? (i := 954) (by decide +kernel)⟩
theorem lw_p40 : lw_okq (⟨"WireFamilyModel", "pulled", "(III)I"⟩, 35) := ⟨⟨by decide +kernel, by decide +kernel⟩, List.mem_of_getElem? (i := 639) (by decide +kernel), List.mem_of_getElem? (i := 961) (by decide +kernel), List.mem_of_getElem? (i := 962) (by decide +kernel)⟩
def lw_privs_3 : List (MethodName × Nat) := [(⟨"WireFamilyModel", "countOf", "([IIII)I"⟩, 35), (⟨"WireFamilyModel", "canOf", "([III)I"⟩, 35), (⟨"WireFamilyModel", "canDraw", "([III)Z"⟩, 35), (⟨"WireFamilyModel", "note", "()V"⟩, 35), (⟨"WireFamilyModel", "rejoin", "([I)V"⟩, 35), (⟨"WireFamilyModel", "worthOf", "(II)I"⟩, 35), (⟨"WireFamilyModel", "does", "(I)Z"⟩, 35), (⟨"WireFamilyModel", "isSeen", "()Z"⟩, 35), (⟨"WireFamilyModel", "pulled", "(III)I"⟩, 35)]
theorem lw_r3 : ∀ q ∈ lw_privs_3, lw_okq q := List.forall_mem_cons.mpr ⟨lw_p32, List.forall_mem_cons.mpr ⟨lw_p33, List.forall_mem_cons.mpr ⟨lw_p34, List.forall_mem_cons.mpr ⟨lw_p35, List.forall_mem_cons.mpr ⟨lw_p36, List.forall_mem_cons.mpr ⟨lw_p37, List.forall_mem_cons.mpr ⟨lw_p38, List.forall_mem_cons.mpr ⟨lw_p39, List.forall_mem_cons.mpr ⟨lw_p40, fun _ h => absurd h List.not_mem_nil⟩⟩⟩⟩⟩⟩⟩⟩⟩
def lw_privs : List (MethodName × Nat) := lw_privs_1 ++ (lw_privs_2 ++ (lw_privs_3))
def lw_tbl : List Cond := k2_sels lw_privs ++ tables_1
theorem lw_privs_ok : ∀ q ∈ lw_privs, lw_okq q := by
  show ∀ q ∈ lw_privs_1 ++ (lw_privs_2 ++ (lw_privs_3)), lw_okq q
  exact List.forall_mem_append.mpr ⟨lw_r1, List.forall_mem_append.mpr ⟨lw_r2, lw_r3⟩⟩
def RX0 : String := "WireFamily$Acts"
def TX0 : u_T := fun k => match k with
  | 0 => ("WireFamily$Acts", "changedRows", "[I", true)
  | 1 => ("WireFamily$Acts", "wiresBefore", "[I", true)
  | 2 => ("WireFamily$Acts", "goldBefore", "[I", true)
  | _ => ("WireFamily$Acts", "count", "I", false)
def tyX0 : Nat → FieldType := fun k => match k with
  | 0 => .array .int
  | 1 => .array .int
  | 2 => .array .int
  | _ => .int
abbrev wsX00 : List Cond := u_ws RX0 TX0 4
theorem nmX0 : ∀ a, a < 4 → ∀ b, b < 4 → a ≠ b → (TX0 a).2.1 ≠ (TX0 b).2.1 := by decide +kernel
theorem tyX0_ok : ∀ k, k < 4 → parseFieldDescriptor (TX0 k).2.2.1 = some (tyX0 k) := by decide +kernel
abbrev cX0_init : ByteArray := prog_2_method_1_code
def yX0_init : MethodName := ⟨RX0, "<init>", "()V"⟩
abbrev cX0_forget : ByteArray := prog_2_method_2_code
def yX0_forget : MethodName := ⟨RX0, "forget", "()V"⟩
abbrev cX0_note : ByteArray := prog_2_method_3_code
def yX0_note : MethodName := ⟨RX0, "note", "(III)V"⟩
abbrev cX0_forgetFirst : ByteArray := prog_2_method_4_code
def yX0_forgetFirst : MethodName := ⟨RX0, "forgetFirst", "()V"⟩
abbrev cX0_takeBack : ByteArray := prog_2_method_5_code
def yX0_takeBack : MethodName := ⟨RX0, "takeBack", "(LWireFamily$Table;)V"⟩
def RX1 : String := "WireFamily$House"
def TX1 : u_T := fun k => match k with
  | 0 => ("WireFamily$House", "kinds", "[I", true)
  | 1 => ("WireFamily$House", "cells", "[I", true)
  | 2 => ("WireFamily$House", "parts", "[I", true)
  | 3 => ("WireFamily$House", "needs", "[I", true)
  | 4 => ("WireFamily$House", "kin", "I", false)
  | 5 => ("WireFamily$House", "rows", "I", false)
  | 6 => ("WireFamily$House", "deeds", "I", false)
  | 7 => ("WireFamily$House", "awaits", "I", false)
  | _ => ("WireFamily$House", "column", "I", false)
def tyX1 : Nat → FieldType := fun k => match k with
  | 0 => .array .int
  | 1 => .array .int
  | 2 => .array .int
  | 3 => .array .int
  | 4 => .int
  | 5 => .int
  | 6 => .int
  | 7 => .int
  | _ => .int
abbrev wsX10 : List Cond := u_ws RX1 TX1 9
theorem nmX1 : ∀ a, a < 9 → ∀ b, b < 9 → a ≠ b → (TX1 a).2.1 ≠ (TX1 b).2.1 := by decide +kernel
theorem tyX1_ok : ∀ k, k < 9 → parseFieldDescriptor (TX1 k).2.2.1 = some (tyX1 k) := by decide +kernel
abbrev cX1_init : ByteArray := prog_3_method_1_code
def yX1_init : MethodName := ⟨RX1, "<init>", "()V"⟩
abbrev cX1_begin : ByteArray := prog_3_method_2_code
def yX1_begin : MethodName := ⟨RX1, "begin", "()V"⟩
abbrev cX1_isWhole : ByteArray := prog_3_method_3_code
def yX1_isWhole : MethodName := ⟨RX1, "isWhole", "()Z"⟩
abbrev cX1_take : ByteArray := prog_3_method_4_code
def yX1_take : MethodName := ⟨RX1, "take", "(I)Z"⟩
abbrev cX1_takeStart : ByteArray := prog_3_method_5_code
def yX1_takeStart : MethodName := ⟨RX1, "takeStart", "(I)Z"⟩
abbrev cX1_takeThing : ByteArray := prog_3_method_6_code
def yX1_takeThing : MethodName := ⟨RX1, "takeThing", "(I)Z"⟩
abbrev cX1_takeKind : ByteArray := prog_3_method_7_code
def yX1_takeKind : MethodName := ⟨RX1, "takeKind", "(I)Z"⟩
abbrev cX1_takeCell : ByteArray := prog_3_method_8_code
def yX1_takeCell : MethodName := ⟨RX1, "takeCell", "(I)Z"⟩
abbrev cX1_takePart : ByteArray := prog_3_method_9_code
def yX1_takePart : MethodName := ⟨RX1, "takePart", "(I)Z"⟩
abbrev cX1_takeNeed : ByteArray := prog_3_method_10_code
def yX1_takeNeed : MethodName := ⟨RX1, "takeNeed", "(I)Z"⟩
def RX2 : String := "WireFamily$Pick"
def TX2 : u_T := fun k => match k with
  | 0 => ("WireFamily$Pick", "count", "I", false)
  | 1 => ("WireFamily$Pick", "cost", "I", false)
  | _ => ("WireFamily$Pick", "which", "I", false)
def tyX2 : Nat → FieldType := fun k => match k with
  | 0 => .int
  | 1 => .int
  | _ => .int
abbrev wsX20 : List Cond := u_ws RX2 TX2 3
theorem nmX2 : ∀ a, a < 3 → ∀ b, b < 3 → a ≠ b → (TX2 a).2.1 ≠ (TX2 b).2.1 := by decide +kernel
theorem tyX2_ok : ∀ k, k < 3 → parseFieldDescriptor (TX2 k).2.2.1 = some (tyX2 k) := by decide +kernel
abbrev cX2_init : ByteArray := prog_4_method_1_code
def yX2_init : MethodName := ⟨RX2, "<init>", "()V"⟩
abbrev cX2_begin : ByteArray := prog_4_method_2_code
def yX2_begin : MethodName := ⟨RX2, "begin", "()V"⟩
abbrev cX2_offer : ByteArray := prog_4_method_3_code
def yX2_offer : MethodName := ⟨RX2, "offer", "(II)V"⟩
def RX3 : String := "WireFamily$Seen"
def TX3 : u_T := fun k => match k with
  | 0 => ("WireFamily$Seen", "who", "[I", true)
  | 1 => ("WireFamily$Seen", "sides", "[I", true)
  | _ => ("WireFamily$Seen", "count", "I", false)
def tyX3 : Nat → FieldType := fun k => match k with
  | 0 => .array .int
  | 1 => .array .int
  | _ => .int
abbrev wsX30 : List Cond := u_ws RX3 TX3 3
theorem nmX3 : ∀ a, a < 3 → ∀ b, b < 3 → a ≠ b → (TX3 a).2.1 ≠ (TX3 b).2.1 := by decide +kernel
theorem tyX3_ok : ∀ k, k < 3 → parseFieldDescriptor (TX3 k).2.2.1 = some (tyX3 k) := by decide +kernel
abbrev cX3_init : ByteArray := prog_5_method_1_code
def yX3_init : MethodName := ⟨RX3, "<init>", "()V"⟩
abbrev cX3_append : ByteArray := prog_5_method_2_code
def yX3_append : MethodName := ⟨RX3, "append", "(II)Z"⟩
abbrev cX3_agreesWith : ByteArray := prog_5_method_3_code
def yX3_agreesWith : MethodName := ⟨RX3, "agreesWith", "(LWireFamily$Tally;I)Z"⟩
abbrev cX3_isSo : ByteArray := prog_5_method_4_code
def yX3_isSo : MethodName := ⟨RX3, "isSo", "(LWireFamily$Tally;II)Z"⟩
def RX4 : String := "WireFamily$Table"
def TX4 : u_T := fun k => match k with
  | 0 => ("WireFamily$Table", "house", "LWireFamily$House;", true)
  | 1 => ("WireFamily$Table", "cells", "[I", true)
  | 2 => ("WireFamily$Table", "wire", "[I", true)
  | _ => ("WireFamily$Table", "gold", "I", false)
def tyX4 : Nat → FieldType := fun k => match k with
  | 0 => .object "WireFamily$House"
  | 1 => .array .int
  | 2 => .array .int
  | _ => .int
abbrev wsX40 : List Cond := u_ws RX4 TX4 4
theorem nmX4 : ∀ a, a < 4 → ∀ b, b < 4 → a ≠ b → (TX4 a).2.1 ≠ (TX4 b).2.1 := by decide +kernel
theorem tyX4_ok : ∀ k, k < 4 → parseFieldDescriptor (TX4 k).2.2.1 = some (tyX4 k) := by decide +kernel
abbrev cX4_init : ByteArray := prog_6_method_1_code
def yX4_init : MethodName := ⟨RX4, "<init>", "(LWireFamily$House;)V"⟩
abbrev cX4_begin : ByteArray := prog_6_method_2_code
def yX4_begin : MethodName := ⟨RX4, "begin", "()V"⟩
abbrev cX4_copyOf : ByteArray := prog_6_method_3_code
def yX4_copyOf : MethodName := ⟨RX4, "copyOf", "(LWireFamily$Table;)V"⟩
abbrev cX4_wireNumber : ByteArray := prog_6_method_4_code
def yX4_wireNumber : MethodName := ⟨RX4, "wireNumber", "()I"⟩
abbrev cX4_setWire : ByteArray := prog_6_method_5_code
def yX4_setWire : MethodName := ⟨RX4, "setWire", "(I)V"⟩
abbrev cX4_slipCount : ByteArray := prog_6_method_6_code
def yX4_slipCount : MethodName := ⟨RX4, "slipCount", "()I"⟩
abbrev cX4_act : ByteArray := prog_6_method_7_code
def yX4_act : MethodName := ⟨RX4, "act", "(II)Z"⟩
abbrev cX4_moveWire : ByteArray := prog_6_method_8_code
def yX4_moveWire : MethodName := ⟨RX4, "moveWire", "(II)Z"⟩
abbrev cX4_isNear : ByteArray := prog_6_method_9_code
def yX4_isNear : MethodName := ⟨RX4, "isNear", "(II)Z"⟩
abbrev cX4_swapAtWire : ByteArray := prog_6_method_10_code
def yX4_swapAtWire : MethodName := ⟨RX4, "swapAtWire", "(I)Z"⟩
abbrev cX4_joinFaces : ByteArray := prog_6_method_11_code
def yX4_joinFaces : MethodName := ⟨RX4, "joinFaces", "()V"⟩
def RX5 : String := "WireFamily$Tally"
def TX5 : u_T := fun k => match k with
  | 0 => ("WireFamily$Tally", "house", "LWireFamily$House;", true)
  | 1 => ("WireFamily$Tally", "inHalf", "[I", true)
  | _ => ("WireFamily$Tally", "counts", "[I", true)
def tyX5 : Nat → FieldType := fun k => match k with
  | 0 => .object "WireFamily$House"
  | 1 => .array .int
  | _ => .array .int
abbrev wsX50 : List Cond := u_ws RX5 TX5 3
theorem nmX5 : ∀ a, a < 3 → ∀ b, b < 3 → a ≠ b → (TX5 a).2.1 ≠ (TX5 b).2.1 := by decide +kernel
theorem tyX5_ok : ∀ k, k < 3 → parseFieldDescriptor (TX5 k).2.2.1 = some (tyX5 k) := by decide +kernel
abbrev cX5_init : ByteArray := prog_7_method_1_code
def yX5_init : MethodName := ⟨RX5, "<init>", "(LWireFamily$House;)V"⟩
abbrev cX5_take : ByteArray := prog_7_method_2_code
def yX5_take : MethodName := ⟨RX5, "take", "([I[I)V"⟩
abbrev cX5_countCells : ByteArray := prog_7_method_3_code
def yX5_countCells : MethodName := ⟨RX5, "countCells", "([I[I)V"⟩
abbrev cX5_halvesFor : ByteArray := prog_7_method_4_code
def yX5_halvesFor : MethodName := ⟨RX5, "halvesFor", "(II)I"⟩
abbrev cX5_cellsIn : ByteArray := prog_7_method_5_code
def yX5_cellsIn : MethodName := ⟨RX5, "cellsIn", "(II)I"⟩
abbrev cX5_isParted : ByteArray := prog_7_method_6_code
def yX5_isParted : MethodName := ⟨RX5, "isParted", "(I)Z"⟩
abbrev cX5_partedBits : ByteArray := prog_7_method_7_code
def yX5_partedBits : MethodName := ⟨RX5, "partedBits", "()I"⟩
abbrev cX5_partedCount : ByteArray := prog_7_method_8_code
def yX5_partedCount : MethodName := ⟨RX5, "partedCount", "()I"⟩
abbrev cX5_countedOf : ByteArray := prog_7_method_9_code
def yX5_countedOf : MethodName := ⟨RX5, "countedOf", "(II)I"⟩
abbrev cX5_counted : ByteArray := prog_7_method_10_code
def yX5_counted : MethodName := ⟨RX5, "counted", "(III)I"⟩
abbrev cX5_isDone : ByteArray := prog_7_method_11_code
def yX5_isDone : MethodName := ⟨RX5, "isDone", "(III)Z"⟩
abbrev cX5_deedBits : ByteArray := prog_7_method_12_code
def yX5_deedBits : MethodName := ⟨RX5, "deedBits", "(II)I"⟩
abbrev cX5_deedCount : ByteArray := prog_7_method_13_code
def yX5_deedCount : MethodName := ⟨RX5, "deedCount", "(I)I"⟩
abbrev cX5_worth : ByteArray := prog_7_method_14_code
def yX5_worth : MethodName := ⟨RX5, "worth", "(II)I"⟩
def RX6 : String := "WireFamily$Text"
def TX6 : u_T := fun k => match k with
  | 0 => ("WireFamily$Text", "bytes", "[I", true)
  | _ => ("WireFamily$Text", "length", "I", false)
def tyX6 : Nat → FieldType := fun k => match k with
  | 0 => .array .int
  | _ => .int
abbrev wsX60 : List Cond := u_ws RX6 TX6 2
theorem nmX6 : ∀ a, a < 2 → ∀ b, b < 2 → a ≠ b → (TX6 a).2.1 ≠ (TX6 b).2.1 := by decide +kernel
theorem tyX6_ok : ∀ k, k < 2 → parseFieldDescriptor (TX6 k).2.2.1 = some (tyX6 k) := by decide +kernel
abbrev cX6_init : ByteArray := prog_8_method_1_code
def yX6_init : MethodName := ⟨RX6, "<init>", "()V"⟩
abbrev cX6_append : ByteArray := prog_8_method_2_code
def yX6_append : MethodName := ⟨RX6, "append", "(I)Z"⟩
abbrev cX6_readInto : ByteArray := prog_8_method_3_code
def yX6_readInto : MethodName := ⟨RX6, "readInto", "(LWireFamily$House;)I"⟩
def RX7 : String := "WireFamily$Wires"
def TX7 : u_T := fun k => match k with
  | 0 => ("WireFamily$Wires", "wire", "[I", true)
  | 1 => ("WireFamily$Wires", "rows", "I", false)
  | _ => ("WireFamily$Wires", "standing", "Z", false)
def tyX7 : Nat → FieldType := fun k => match k with
  | 0 => .array .int
  | 1 => .int
  | _ => .boolean
abbrev wsX70 : List Cond := u_ws RX7 TX7 3
theorem nmX7 : ∀ a, a < 3 → ∀ b, b < 3 → a ≠ b → (TX7 a).2.1 ≠ (TX7 b).2.1 := by decide +kernel
theorem tyX7_ok : ∀ k, k < 3 → parseFieldDescriptor (TX7 k).2.2.1 = some (tyX7 k) := by decide +kernel
abbrev cX7_init : ByteArray := prog_9_method_1_code
def yX7_init : MethodName := ⟨RX7, "<init>", "()V"⟩
abbrev cX7_begin : ByteArray := prog_9_method_2_code
def yX7_begin : MethodName := ⟨RX7, "begin", "(I)V"⟩
abbrev cX7_figures : ByteArray := prog_9_method_3_code
def yX7_figures : MethodName := ⟨RX7, "figures", "()I"⟩
abbrev cX7_advance : ByteArray := prog_9_method_4_code
def yX7_advance : MethodName := ⟨RX7, "advance", "()V"⟩
abbrev cX7_putLeastBehind : ByteArray := prog_9_method_5_code
def yX7_putLeastBehind : MethodName := ⟨RX7, "putLeastBehind", "(I)V"⟩
def RX8 : String := "WireFamily"
def TX8 : u_T := fun k => match k with
  | 0 => ("WireFamily", "text", "LWireFamily$Text;", true)
  | 1 => ("WireFamily", "house", "LWireFamily$House;", true)
  | 2 => ("WireFamily", "draft", "LWireFamily$House;", true)
  | 3 => ("WireFamily", "table", "LWireFamily$Table;", true)
  | 4 => ("WireFamily", "trial", "LWireFamily$Table;", true)
  | 5 => ("WireFamily", "slots", "[LWireFamily$Table;", true)
  | 6 => ("WireFamily", "kept", "[Z", true)
  | 7 => ("WireFamily", "acts", "LWireFamily$Acts;", true)
  | 8 => ("WireFamily", "tally", "LWireFamily$Tally;", true)
  | 9 => ("WireFamily", "seen", "LWireFamily$Seen;", true)
  | 10 => ("WireFamily", "wires", "LWireFamily$Wires;", true)
  | 11 => ("WireFamily", "pick", "LWireFamily$Pick;", true)
  | _ => ("WireFamily", "seed", "J", false)
def tyX8 : Nat → FieldType := fun k => match k with
  | 0 => .object "WireFamily$Text"
  | 1 => .object "WireFamily$House"
  | 2 => .object "WireFamily$House"
  | 3 => .object "WireFamily$Table"
  | 4 => .object "WireFamily$Table"
  | 5 => .array (.object "WireFamily$Table")
  | 6 => .array .boolean
  | 7 => .object "WireFamily$Acts"
  | 8 => .object "WireFamily$Tally"
  | 9 => .object "WireFamily$Seen"
  | 10 => .object "WireFamily$Wires"
  | 11 => .object "WireFamily$Pick"
  | _ => .long
abbrev wsX80 : List Cond := u_ws RX8 TX8 13
theorem nmX8 : ∀ a, a < 13 → ∀ b, b < 13 → a ≠ b → (TX8 a).2.1 ≠ (TX8 b).2.1 := by decide +kernel
theorem tyX8_ok : ∀ k, k < 13 → parseFieldDescriptor (TX8 k).2.2.1 = some (tyX8 k) := by decide +kernel
abbrev cX8_init : ByteArray := prog_1_method_1_code
def yX8_init : MethodName := ⟨RX8, "<init>", "()V"⟩
abbrev cX8_write : ByteArray := prog_1_method_2_code
def yX8_write : MethodName := ⟨RX8, "write", "(I)I"⟩
abbrev cX8_wipe : ByteArray := prog_1_method_3_code
def yX8_wipe : MethodName := ⟨RX8, "wipe", "()I"⟩
abbrev cX8_fault : ByteArray := prog_1_method_4_code
def yX8_fault : MethodName := ⟨RX8, "fault", "()I"⟩
abbrev cX8_family : ByteArray := prog_1_method_5_code
def yX8_family : MethodName := ⟨RX8, "family", "()I"⟩
abbrev cX8_about : ByteArray := prog_1_method_6_code
def yX8_about : MethodName := ⟨RX8, "about", "(I)I"⟩
abbrev cX8_cell : ByteArray := prog_1_method_7_code
def yX8_cell : MethodName := ⟨RX8, "cell", "(III)I"⟩
abbrev cX8_kin : ByteArray := prog_1_method_8_code
def yX8_kin : MethodName := ⟨RX8, "kin", "(II)I"⟩
abbrev cX8_has : ByteArray := prog_1_method_9_code
def yX8_has : MethodName := ⟨RX8, "has", "(II)I"⟩
abbrev cX8_can : ByteArray := prog_1_method_10_code
def yX8_can : MethodName := ⟨RX8, "can", "(I)I"⟩
abbrev cX8_draw : ByteArray := prog_1_method_11_code
def yX8_draw : MethodName := ⟨RX8, "draw", "(II)I"⟩
abbrev cX8_change : ByteArray := prog_1_method_12_code
def yX8_change : MethodName := ⟨RX8, "change", "(I)I"⟩
abbrev cX8_join : ByteArray := prog_1_method_13_code
def yX8_join : MethodName := ⟨RX8, "join", "()I"⟩
abbrev cX8_undo : ByteArray := prog_1_method_14_code
def yX8_undo : MethodName := ⟨RX8, "undo", "()I"⟩
abbrev cX8_best : ByteArray := prog_1_method_15_code
def yX8_best : MethodName := ⟨RX8, "best", "(I)I"⟩
abbrev cX8_fewest : ByteArray := prog_1_method_16_code
def yX8_fewest : MethodName := ⟨RX8, "fewest", "(II)I"⟩
abbrev cX8_fair : ByteArray := prog_1_method_17_code
def yX8_fair : MethodName := ⟨RX8, "fair", "(III)I"⟩
abbrev cX8_judge : ByteArray := prog_1_method_18_code
def yX8_judge : MethodName := ⟨RX8, "judge", "(II)I"⟩
abbrev cX8_share : ByteArray := prog_1_method_19_code
def yX8_share : MethodName := ⟨RX8, "share", "(IIZ)I"⟩
abbrev cX8_see : ByteArray := prog_1_method_20_code
def yX8_see : MethodName := ⟨RX8, "see", "(II)I"⟩
abbrev cX8_unsee : ByteArray := prog_1_method_21_code
def yX8_unsee : MethodName := ⟨RX8, "unsee", "()I"⟩
abbrev cX8_traces : ByteArray := prog_1_method_22_code
def yX8_traces : MethodName := ⟨RX8, "traces", "(I)I"⟩
abbrev cX8_rests : ByteArray := prog_1_method_23_code
def yX8_rests : MethodName := ⟨RX8, "rests", "(I)I"⟩
abbrev cX8_slips : ByteArray := prog_1_method_24_code
def yX8_slips : MethodName := ⟨RX8, "slips", "(IIIZ)I"⟩
abbrev cX8_seed : ByteArray := prog_1_method_25_code
def yX8_seed : MethodName := ⟨RX8, "seed", "(J)J"⟩
abbrev cX8_years : ByteArray := prog_1_method_26_code
def yX8_years : MethodName := ⟨RX8, "years", "(I)I"⟩
abbrev cX8_keep : ByteArray := prog_1_method_27_code
def yX8_keep : MethodName := ⟨RX8, "keep", "(I)I"⟩
abbrev cX8_again : ByteArray := prog_1_method_28_code
def yX8_again : MethodName := ⟨RX8, "again", "(I)I"⟩
abbrev cX8_isRow : ByteArray := prog_1_method_29_code
def yX8_isRow : MethodName := ⟨RX8, "isRow", "(I)Z"⟩
abbrev cX8_isKin : ByteArray := prog_1_method_30_code
def yX8_isKin : MethodName := ⟨RX8, "isKin", "(I)Z"⟩
abbrev cX8_isDeed : ByteArray := prog_1_method_31_code
def yX8_isDeed : MethodName := ⟨RX8, "isDeed", "(I)Z"⟩
abbrev cX8_isHalf : ByteArray := prog_1_method_32_code
def yX8_isHalf : MethodName := ⟨RX8, "isHalf", "(I)Z"⟩
abbrev cX8_isWorth : ByteArray := prog_1_method_33_code
def yX8_isWorth : MethodName := ⟨RX8, "isWorth", "(I)Z"⟩
abbrev cX8_kinOf : ByteArray := prog_1_method_34_code
def yX8_kinOf : MethodName := ⟨RX8, "kinOf", "(I)I"⟩
abbrev cX8_partOf : ByteArray := prog_1_method_35_code
def yX8_partOf : MethodName := ⟨RX8, "partOf", "(I)I"⟩
abbrev cX8_halfOf : ByteArray := prog_1_method_36_code
def yX8_halfOf : MethodName := ⟨RX8, "halfOf", "(II)I"⟩
abbrev cX8_talliedNow : ByteArray := prog_1_method_37_code
def yX8_talliedNow : MethodName := ⟨RX8, "talliedNow", "()LWireFamily$Tally;"⟩
abbrev cX8_wireCount : ByteArray := prog_1_method_38_code
def yX8_wireCount : MethodName := ⟨RX8, "wireCount", "()I"⟩
abbrev cX8_ordersWith : ByteArray := prog_1_method_39_code
def yX8_ordersWith : MethodName := ⟨RX8, "ordersWith", "(I)I"⟩
abbrev cX8_isAtRest : ByteArray := prog_1_method_40_code
def yX8_isAtRest : MethodName := ⟨RX8, "isAtRest", "(II)Z"⟩
abbrev cX8_holding : ByteArray := prog_1_method_41_code
def yX8_holding : MethodName := ⟨RX8, "holding", "(III)I"⟩
abbrev cX8_fraction : ByteArray := prog_1_method_42_code
def yX8_fraction : MethodName := ⟨RX8, "fraction", "(IIZ)I"⟩
abbrev cX8_commonDivisor : ByteArray := prog_1_method_43_code
def yX8_commonDivisor : MethodName := ⟨RX8, "commonDivisor", "(II)I"⟩
abbrev cX8_figuresOf : ByteArray := prog_1_method_44_code
def yX8_figuresOf : MethodName := ⟨RX8, "figuresOf", "([II)I"⟩
def RX9 : String := "WireFamilyModel"
def TX9 : u_T := fun k => match k with
  | 0 => ("WireFamilyModel", "thrown", "I", false)
  | 1 => ("WireFamilyModel", "text", "[I", true)
  | 2 => ("WireFamilyModel", "textSize", "I", false)
  | 3 => ("WireFamilyModel", "place", "I", false)
  | 4 => ("WireFamilyModel", "rows", "I", false)
  | 5 => ("WireFamilyModel", "kin", "I", false)
  | 6 => ("WireFamilyModel", "kind", "[I", true)
  | 7 => ("WireFamilyModel", "deeds", "I", false)
  | 8 => ("WireFamilyModel", "part", "[I", true)
  | 9 => ("WireFamilyModel", "need", "[I", true)
  | 10 => ("WireFamilyModel", "readRows", "I", false)
  | 11 => ("WireFamilyModel", "readCell", "[I", true)
  | 12 => ("WireFamilyModel", "readKin", "I", false)
  | 13 => ("WireFamilyModel", "readKind", "[I", true)
  | 14 => ("WireFamilyModel", "readDeeds", "I", false)
  | 15 => ("WireFamilyModel", "readPart", "[I", true)
  | 16 => ("WireFamilyModel", "readNeed", "[I", true)
  | 17 => ("WireFamilyModel", "page", "[I", true)
  | 18 => ("WireFamilyModel", "trial", "[I", true)
  | 19 => ("WireFamilyModel", "book", "[I", true)
  | 20 => ("WireFamilyModel", "acts", "I", false)
  | 21 => ("WireFamilyModel", "kept", "[I", true)
  | 22 => ("WireFamilyModel", "isKept", "[Z", true)
  | 23 => ("WireFamilyModel", "seen", "I", false)
  | 24 => ("WireFamilyModel", "seenKin", "[I", true)
  | 25 => ("WireFamilyModel", "seenSide", "[I", true)
  | 26 => ("WireFamilyModel", "seed", "J", false)
  | 27 => ("WireFamilyModel", "left", "[I", true)
  | 28 => ("WireFamilyModel", "right", "[I", true)
  | 29 => ("WireFamilyModel", "wire", "[I", true)
  | 30 => ("WireFamilyModel", "foundMany", "I", false)
  | 31 => ("WireFamilyModel", "foundFirst", "I", false)
  | 32 => ("WireFamilyModel", "restMany", "I", false)
  | 33 => ("WireFamilyModel", "restFirst", "I", false)
  | _ => ("WireFamilyModel", "value", "[I", true)
def tyX9 : Nat → FieldType := fun k => match k with
  | 0 => .int
  | 1 => .array .int
  | 2 => .int
  | 3 => .int
  | 4 => .int
  | 5 => .int
  | 6 => .array .int
  | 7 => .int
  | 8 => .array .int
  | 9 => .array .int
  | 10 => .int
  | 11 => .array .int
  | 12 => .int
  | 13 => .array .int
  | 14 => .int
  | 15 => .array .int
  | 16 => .array .int
  | 17 => .array .int
  | 18 => .array .int
  | 19 => .array .int
  | 20 => .int
  | 21 => .array .int
  | 22 => .array .boolean
  | 23 => .int
  | 24 => .array .int
  | 25 => .array .int
  | 26 => .long
  | 27 => .array .int
  | 28 => .array .int
  | 29 => .array .int
  | 30 => .int
  | 31 => .int
  | 32 => .int
  | 33 => .int
  | _ => .array .int
abbrev wsX90 : List Cond := u_ws RX9 TX9 35
theorem nmX9 : ∀ a, a < 35 → ∀ b, b < 35 → a ≠ b → (TX9 a).2.1 ≠ (TX9 b).2.1 := by decide +kernel
theorem tyX9_ok : ∀ k, k < 35 → parseFieldDescriptor (TX9 k).2.2.1 = some (tyX9 k) := by decide +kernel
abbrev cX9_init : ByteArray := prog_11_method_1_code
def yX9_init : MethodName := ⟨RX9, "<init>", "()V"⟩
abbrev cX9_in : ByteArray := prog_11_method_3_code
def yX9_in : MethodName := ⟨RX9, "in", "(JJJ)Z"⟩
abbrev cX9_isIn : ByteArray := prog_11_method_4_code
def yX9_isIn : MethodName := ⟨RX9, "isIn", "(II)Z"⟩
abbrev cX9_many : ByteArray := prog_11_method_5_code
def yX9_many : MethodName := ⟨RX9, "many", "(I)I"⟩
abbrev cX9_write : ByteArray := prog_11_method_6_code
def yX9_write : MethodName := ⟨RX9, "write", "(I)I"⟩
abbrev cX9_wipe : ByteArray := prog_11_method_7_code
def yX9_wipe : MethodName := ⟨RX9, "wipe", "()I"⟩
abbrev cX9_from : ByteArray := prog_11_method_8_code
def yX9_from : MethodName := ⟨RX9, "from", "(III)I"⟩
abbrev cX9_readOneKin : ByteArray := prog_11_method_9_code
def yX9_readOneKin : MethodName := ⟨RX9, "readOneKin", "()Z"⟩
abbrev cX9_readOneRow : ByteArray := prog_11_method_10_code
def yX9_readOneRow : MethodName := ⟨RX9, "readOneRow", "()Z"⟩
abbrev cX9_readOneDeed : ByteArray := prog_11_method_11_code
def yX9_readOneDeed : MethodName := ⟨RX9, "readOneDeed", "()Z"⟩
abbrev cX9_readThing : ByteArray := prog_11_method_12_code
def yX9_readThing : MethodName := ⟨RX9, "readThing", "()Z"⟩
abbrev cX9_readFamily : ByteArray := prog_11_method_13_code
def yX9_readFamily : MethodName := ⟨RX9, "readFamily", "()I"⟩
abbrev cX9_fault : ByteArray := prog_11_method_14_code
def yX9_fault : MethodName := ⟨RX9, "fault", "()I"⟩
abbrev cX9_copyRow : ByteArray := prog_11_method_15_code
def yX9_copyRow : MethodName := ⟨RX9, "copyRow", "([I[II)V"⟩
abbrev cX9_family : ByteArray := prog_11_method_16_code
def yX9_family : MethodName := ⟨RX9, "family", "()I"⟩
abbrev cX9_layHalves : ByteArray := prog_11_method_17_code
def yX9_layHalves : MethodName := ⟨RX9, "layHalves", "([I)V"⟩
abbrev cX9_partedLaid : ByteArray := prog_11_method_18_code
def yX9_partedLaid : MethodName := ⟨RX9, "partedLaid", "()I"⟩
abbrev cX9_countsFor : ByteArray := prog_11_method_19_code
def yX9_countsFor : MethodName := ⟨RX9, "countsFor", "([III)I"⟩
abbrev cX9_countOf : ByteArray := prog_11_method_20_code
def yX9_countOf : MethodName := ⟨RX9, "countOf", "([IIII)I"⟩
abbrev cX9_canOf : ByteArray := prog_11_method_21_code
def yX9_canOf : MethodName := ⟨RX9, "canOf", "([III)I"⟩
abbrev cX9_slipsOf : ByteArray := prog_11_method_22_code
def yX9_slipsOf : MethodName := ⟨RX9, "slipsOf", "([I)I"⟩
abbrev cX9_figuresOf : ByteArray := prog_11_method_23_code
def yX9_figuresOf : MethodName := ⟨RX9, "figuresOf", "([I)I"⟩
abbrev cX9_power : ByteArray := prog_11_method_24_code
def yX9_power : MethodName := ⟨RX9, "power", "(II)I"⟩
abbrev cX9_layWire : ByteArray := prog_11_method_25_code
def yX9_layWire : MethodName := ⟨RX9, "layWire", "(I)Z"⟩
abbrev cX9_wires : ByteArray := prog_11_method_26_code
def yX9_wires : MethodName := ⟨RX9, "wires", "()I"⟩
abbrev cX9_about : ByteArray := prog_11_method_27_code
def yX9_about : MethodName := ⟨RX9, "about", "(I)I"⟩
abbrev cX9_cell : ByteArray := prog_11_method_28_code
def yX9_cell : MethodName := ⟨RX9, "cell", "(III)I"⟩
abbrev cX9_countsOf : ByteArray := prog_11_method_29_code
def yX9_countsOf : MethodName := ⟨RX9, "countsOf", "(II)I"⟩
abbrev cX9_kin : ByteArray := prog_11_method_30_code
def yX9_kin : MethodName := ⟨RX9, "kin", "(II)I"⟩
abbrev cX9_has : ByteArray := prog_11_method_31_code
def yX9_has : MethodName := ⟨RX9, "has", "(II)I"⟩
abbrev cX9_can : ByteArray := prog_11_method_32_code
def yX9_can : MethodName := ⟨RX9, "can", "(I)I"⟩
abbrev cX9_note : ByteArray := prog_11_method_33_code
def yX9_note : MethodName := ⟨RX9, "note", "()V"⟩
abbrev cX9_canDraw : ByteArray := prog_11_method_34_code
def yX9_canDraw : MethodName := ⟨RX9, "canDraw", "([III)Z"⟩
abbrev cX9_draw : ByteArray := prog_11_method_35_code
def yX9_draw : MethodName := ⟨RX9, "draw", "(II)I"⟩
abbrev cX9_swap : ByteArray := prog_11_method_36_code
def yX9_swap : MethodName := ⟨RX9, "swap", "([II)V"⟩
abbrev cX9_change : ByteArray := prog_11_method_37_code
def yX9_change : MethodName := ⟨RX9, "change", "(I)I"⟩
abbrev cX9_rejoin : ByteArray := prog_11_method_38_code
def yX9_rejoin : MethodName := ⟨RX9, "rejoin", "([I)V"⟩
abbrev cX9_join : ByteArray := prog_11_method_39_code
def yX9_join : MethodName := ⟨RX9, "join", "()I"⟩
abbrev cX9_undo : ByteArray := prog_11_method_40_code
def yX9_undo : MethodName := ⟨RX9, "undo", "()I"⟩
abbrev cX9_best : ByteArray := prog_11_method_41_code
def yX9_best : MethodName := ⟨RX9, "best", "(I)I"⟩
abbrev cX9_fewest : ByteArray := prog_11_method_42_code
def yX9_fewest : MethodName := ⟨RX9, "fewest", "(II)I"⟩
abbrev cX9_worthOf : ByteArray := prog_11_method_43_code
def yX9_worthOf : MethodName := ⟨RX9, "worthOf", "(II)I"⟩
abbrev cX9_fair : ByteArray := prog_11_method_44_code
def yX9_fair : MethodName := ⟨RX9, "fair", "(III)I"⟩
abbrev cX9_does : ByteArray := prog_11_method_45_code
def yX9_does : MethodName := ⟨RX9, "does", "(I)Z"⟩
abbrev cX9_judge : ByteArray := prog_11_method_46_code
def yX9_judge : MethodName := ⟨RX9, "judge", "(II)I"⟩
abbrev cX9_ways : ByteArray := prog_11_method_47_code
def yX9_ways : MethodName := ⟨RX9, "ways", "(I)I"⟩
abbrev cX9_divisor : ByteArray := prog_11_method_48_code
def yX9_divisor : MethodName := ⟨RX9, "divisor", "(II)I"⟩
abbrev cX9_fraction : ByteArray := prog_11_method_49_code
def yX9_fraction : MethodName := ⟨RX9, "fraction", "(IIZ)I"⟩
abbrev cX9_share : ByteArray := prog_11_method_50_code
def yX9_share : MethodName := ⟨RX9, "share", "(IIZ)I"⟩
abbrev cX9_see : ByteArray := prog_11_method_51_code
def yX9_see : MethodName := ⟨RX9, "see", "(II)I"⟩
abbrev cX9_unsee : ByteArray := prog_11_method_52_code
def yX9_unsee : MethodName := ⟨RX9, "unsee", "()I"⟩
abbrev cX9_isSeen : ByteArray := prog_11_method_53_code
def yX9_isSeen : MethodName := ⟨RX9, "isSeen", "()Z"⟩
abbrev cX9_traces : ByteArray := prog_11_method_54_code
def yX9_traces : MethodName := ⟨RX9, "traces", "(I)I"⟩
abbrev cX9_pulled : ByteArray := prog_11_method_55_code
def yX9_pulled : MethodName := ⟨RX9, "pulled", "(III)I"⟩
abbrev cX9_rests : ByteArray := prog_11_method_56_code
def yX9_rests : MethodName := ⟨RX9, "rests", "(I)I"⟩
abbrev cX9_slips : ByteArray := prog_11_method_57_code
def yX9_slips : MethodName := ⟨RX9, "slips", "(IIIZ)I"⟩
abbrev cX9_seed : ByteArray := prog_11_method_58_code
def yX9_seed : MethodName := ⟨RX9, "seed", "(J)J"⟩
abbrev cX9_years : ByteArray := prog_11_method_59_code
def yX9_years : MethodName := ⟨RX9, "years", "(I)I"⟩
abbrev cX9_keep : ByteArray := prog_11_method_60_code
def yX9_keep : MethodName := ⟨RX9, "keep", "(I)I"⟩
abbrev cX9_again : ByteArray := prog_11_method_61_code
def yX9_again : MethodName := ⟨RX9, "again", "(I)I"⟩
def RJ6 : String := "java/lang/Integer"
def TJ6 : u_T := fun k => match k with
  | _ => ("", "", "", false)
def tyJ6 : Nat → FieldType := fun k => match k with
  | _ => .int
abbrev wsJ60 : List Cond := u_ws RJ6 TJ6 0
theorem nmJ6 : ∀ a, a < 0 → ∀ b, b < 0 → a ≠ b → (TJ6 a).2.1 ≠ (TJ6 b).2.1 := by decide +kernel
theorem tyJ6_ok : ∀ k, k < 0 → parseFieldDescriptor (TJ6 k).2.2.1 = some (tyJ6 k) := by decide +kernel
abbrev cJ6_bitCount_0f7a4 : ByteArray := prog_12_method_49_code
def yJ6_bitCount_0f7a4 : MethodName := ⟨RJ6, "bitCount", "(I)I"⟩
def RJ9 : String := "java/lang/Math"
def TJ9 : u_T := fun k => match k with
  | _ => ("", "", "", false)
def tyJ9 : Nat → FieldType := fun k => match k with
  | _ => .int
abbrev wsJ90 : List Cond := u_ws RJ9 TJ9 0
theorem nmJ9 : ∀ a, a < 0 → ∀ b, b < 0 → a ≠ b → (TJ9 a).2.1 ≠ (TJ9 b).2.1 := by decide +kernel
theorem tyJ9_ok : ∀ k, k < 0 → parseFieldDescriptor (TJ9 k).2.2.1 = some (tyJ9 k) := by decide +kernel
abbrev cJ9_abs_0f7a4 : ByteArray := prog_13_method_59_code
def yJ9_abs_0f7a4 : MethodName := ⟨RJ9, "abs", "(I)I"⟩
abbrev cJ9_max_7cf53 : ByteArray := prog_13_method_65_code
def yJ9_max_7cf53 : MethodName := ⟨RJ9, "max", "(II)I"⟩
abbrev cJ9_min_7cf53 : ByteArray := prog_13_method_69_code
def yJ9_min_7cf53 : MethodName := ⟨RJ9, "min", "(II)I"⟩
def RJ10 : String := "java/lang/System"
def TJ10 : u_T := fun k => match k with
  | _ => ("", "", "", false)
def tyJ10 : Nat → FieldType := fun k => match k with
  | _ => .int
abbrev wsJ100 : List Cond := u_ws RJ10 TJ10 0
theorem nmJ10 : ∀ a, a < 0 → ∀ b, b < 0 → a ≠ b → (TJ10 a).2.1 ≠ (TJ10 b).2.1 := by decide +kernel
theorem tyJ10_ok : ∀ k, k < 0 → parseFieldDescriptor (TJ10 k).2.2.1 = some (tyJ10 k) := by decide +kernel
def RJ7 : String := "java/util/Arrays"
def TJ7 : u_T := fun k => match k with
  | _ => ("", "", "", false)
def tyJ7 : Nat → FieldType := fun k => match k with
  | _ => .int
abbrev wsJ70 : List Cond := u_ws RJ7 TJ7 0
theorem nmJ7 : ∀ a, a < 0 → ∀ b, b < 0 → a ≠ b → (TJ7 a).2.1 ≠ (TJ7 b).2.1 := by decide +kernel
theorem tyJ7_ok : ∀ k, k < 0 → parseFieldDescriptor (TJ7 k).2.2.1 = some (tyJ7 k) := by decide +kernel
abbrev cJ7_fill_53178 : ByteArray := prog_15_method_103_code
def yJ7_fill_53178 : MethodName := ⟨RJ7, "fill", "([II)V"⟩
def RL : String := "WireFamilyLaw"
abbrev cL_law : ByteArray := code
def yL_law : MethodName := ⟨RL, "law", "([I)Z"⟩
abbrev vwCl : List vw_C := [(RX0, TX0, 4), (RX1, TX1, 9), (RX2, TX2, 3), (RX3, TX3, 3), (RX4, TX4, 4), (RX5, TX5, 3), (RX6, TX6, 2), (RX7, TX7, 3), (RX8, TX8, 13), (RX9, TX9, 35)]
