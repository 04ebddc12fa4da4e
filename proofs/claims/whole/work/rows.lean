section
-- ===== PART A: goes FIRST, ahead of the names: the tables' words, and 'selects' of the private methods out of them =====
/-- a private method of a class that the tables say can be made, by its rows of tables_1 -/
def lw_okq (q : MethodName × Nat) : Prop := (q.1.cls ≠ "java/lang/invoke/MethodHandle" ∧ q.1.cls ≠ "java/lang/invoke/VarHandle") ∧ Cond.instantiable q.1.cls q.2 ∈ tables_1 ∧ Cond.privateMethod q.1 ∈ tables_1 ∧ Cond.instanceMethod q.1 ∈ tables_1
theorem lw_p0 : lw_okq (⟨"WireFamily$House", "takeStart", "(I)Z"⟩, 9) := ⟨⟨by decide +kernel, by decide +kernel⟩, List.mem_of_getElem? (i := 39) (by decide +kernel), List.mem_of_getElem? (i := 268) (by decide +kernel), List.mem_of_getElem? (i := 269) (by decide +kernel)⟩
theorem lw_p1 : lw_okq (⟨"WireFamily$House", "takeThing", "(I)Z"⟩, 9) := ⟨⟨by decide +kernel, by decide +kernel⟩, List.mem_of_getElem? (i := 39) (by decide +kernel), List.mem_of_getElem? (i := 272) (by decide +kernel), List.mem_of_getElem? (i := 273) (by decide +kernel)⟩
theorem lw_p2 : lw_okq (⟨"WireFamily$House", "takeKind", "(I)Z"⟩, 9) := ⟨⟨by decide +kernel, by decide +kernel⟩, List.mem_of_getElem? (i := 39) (by decide +kernel), List.mem_of_getElem? (i := 276) (by decide +kernel), List.mem_of_getElem? (i := 277) (by decide +kernel)⟩
theorem lw_p3 : lw_okq (⟨"WireFamily$House", "takeCell", "(I)Z"⟩, 9) := ⟨⟨by decide +kernel, by decide +kernel⟩, List.mem_of_getElem? (i := 39) (by decide +kernel), List.mem_of_getElem? (i := 280) (by decide +kernel), List.mem_of_getElem? (i := 281) (by decide +kernel)⟩
theorem lw_p4 : lw_okq (⟨"WireFamily$House", "takePart", "(I)Z"⟩, 9) := ⟨⟨by decide +kernel, by decide +kernel⟩, List.mem_of_getElem? (i := 39) (by decide +kernel), List.mem_of_getElem? (i := 284) (by decide +kernel), List.mem_of_getElem? (i := 285) (by decide +kernel)⟩
theorem lw_p5 : lw_okq (⟨"WireFamily$House", "takeNeed", "(I)Z"⟩, 9) := ⟨⟨by decide +kernel, by decide +kernel⟩, List.mem_of_getElem? (i := 39) (by decide +kernel), List.mem_of_getElem? (i := 288) (by decide +kernel), List.mem_of_getElem? (i := 289) (by decide +kernel)⟩
theorem lw_p6 : lw_okq (⟨"WireFamily", "talliedNow", "()LWireFamily$Tally;"⟩, 13) := ⟨⟨by decide +kernel, by decide +kernel⟩, List.mem_of_getElem? (i := 16) (by decide +kernel), List.mem_of_getElem? (i := 329) (by decide +kernel), List.mem_of_getElem? (i := 330) (by decide +kernel)⟩
theorem lw_p7 : lw_okq (⟨"WireFamily$Tally", "countCells", "([I[I)V"⟩, 3) := ⟨⟨by decide +kernel, by decide +kernel⟩, List.mem_of_getElem? (i := 130) (by decide +kernel), List.mem_of_getElem? (i := 337) (by decide +kernel), List.mem_of_getElem? (i := 338) (by decide +kernel)⟩
theorem lw_p8 : lw_okq (⟨"WireFamily", "wireCount", "()I"⟩, 13) := ⟨⟨by decide +kernel, by decide +kernel⟩, List.mem_of_getElem? (i := 16) (by decide +kernel), List.mem_of_getElem? (i := 367) (by decide +kernel), List.mem_of_getElem? (i := 368) (by decide +kernel)⟩
theorem lw_p9 : lw_okq (⟨"WireFamily$Wires", "putLeastBehind", "(I)V"⟩, 3) := ⟨⟨by decide +kernel, by decide +kernel⟩, List.mem_of_getElem? (i := 163) (by decide +kernel), List.mem_of_getElem? (i := 383) (by decide +kernel), List.mem_of_getElem? (i := 384) (by decide +kernel)⟩
theorem lw_p10 : lw_okq (⟨"WireFamily", "isRow", "(I)Z"⟩, 13) := ⟨⟨by decide +kernel, by decide +kernel⟩, List.mem_of_getElem? (i := 16) (by decide +kernel), List.mem_of_getElem? (i := 394) (by decide +kernel), List.mem_of_getElem? (i := 395) (by decide +kernel)⟩
theorem lw_p11 : lw_okq (⟨"WireFamily", "isKin", "(I)Z"⟩, 13) := ⟨⟨by decide +kernel, by decide +kernel⟩, List.mem_of_getElem? (i := 16) (by decide +kernel), List.mem_of_getElem? (i := 406) (by decide +kernel), List.mem_of_getElem? (i := 407) (by decide +kernel)⟩
theorem lw_p12 : lw_okq (⟨"WireFamily$Table", "isNear", "(II)Z"⟩, 4) := ⟨⟨by decide +kernel, by decide +kernel⟩, List.mem_of_getElem? (i := 85) (by decide +kernel), List.mem_of_getElem? (i := 447) (by decide +kernel), List.mem_of_getElem? (i := 448) (by decide +kernel)⟩
theorem lw_p13 : lw_okq (⟨"WireFamily$Acts", "forgetFirst", "()V"⟩, 4) := ⟨⟨by decide +kernel, by decide +kernel⟩, List.mem_of_getElem? (i := 109) (by decide +kernel), List.mem_of_getElem? (i := 458) (by decide +kernel), List.mem_of_getElem? (i := 459) (by decide +kernel)⟩
theorem lw_p14 : lw_okq (⟨"WireFamily", "isDeed", "(I)Z"⟩, 13) := ⟨⟨by decide +kernel, by decide +kernel⟩, List.mem_of_getElem? (i := 16) (by decide +kernel), List.mem_of_getElem? (i := 530) (by decide +kernel), List.mem_of_getElem? (i := 531) (by decide +kernel)⟩
theorem lw_p15 : lw_okq (⟨"WireFamily", "ordersWith", "(I)I"⟩, 13) := ⟨⟨by decide +kernel, by decide +kernel⟩, List.mem_of_getElem? (i := 16) (by decide +kernel), List.mem_of_getElem? (i := 566) (by decide +kernel), List.mem_of_getElem? (i := 567) (by decide +kernel)⟩
def lw_privs_1 : List (MethodName × Nat) := [(⟨"WireFamily$House", "takeStart", "(I)Z"⟩, 9), (⟨"WireFamily$House", "takeThing", "(I)Z"⟩, 9), (⟨"WireFamily$House", "takeKind", "(I)Z"⟩, 9), (⟨"WireFamily$House", "takeCell", "(I)Z"⟩, 9), (⟨"WireFamily$House", "takePart", "(I)Z"⟩, 9), (⟨"WireFamily$House", "takeNeed", "(I)Z"⟩, 9), (⟨"WireFamily", "talliedNow", "()LWireFamily$Tally;"⟩, 13), (⟨"WireFamily$Tally", "countCells", "([I[I)V"⟩, 3), (⟨"WireFamily", "wireCount", "()I"⟩, 13), (⟨"WireFamily$Wires", "putLeastBehind", "(I)V"⟩, 3), (⟨"WireFamily", "isRow", "(I)Z"⟩, 13), (⟨"WireFamily", "isKin", "(I)Z"⟩, 13), (⟨"WireFamily$Table", "isNear", "(II)Z"⟩, 4), (⟨"WireFamily$Acts", "forgetFirst", "()V"⟩, 4), (⟨"WireFamily", "isDeed", "(I)Z"⟩, 13), (⟨"WireFamily", "ordersWith", "(I)I"⟩, 13)]
theorem lw_r1 : ∀ q ∈ lw_privs_1, lw_okq q := List.forall_mem_cons.mpr ⟨lw_p0, List.forall_mem_cons.mpr ⟨lw_p1, List.forall_mem_cons.mpr ⟨lw_p2, List.forall_mem_cons.mpr ⟨lw_p3, List.forall_mem_cons.mpr ⟨lw_p4, List.forall_mem_cons.mpr ⟨lw_p5, List.forall_mem_cons.mpr ⟨lw_p6, List.forall_mem_cons.mpr ⟨lw_p7, List.forall_mem_cons.mpr ⟨lw_p8, List.forall_mem_cons.mpr ⟨lw_p9, List.forall_mem_cons.mpr ⟨lw_p10, List.forall_mem_cons.mpr ⟨lw_p11, List.forall_mem_cons.mpr ⟨lw_p12, List.forall_mem_cons.mpr ⟨lw_p13, List.forall_mem_cons.mpr ⟨lw_p14, List.forall_mem_cons.mpr ⟨lw_p15, fun _ h => absurd h List.not_mem_nil⟩⟩⟩⟩⟩⟩⟩⟩⟩⟩⟩⟩⟩⟩⟩⟩
theorem lw_p16 : lw_okq (⟨"WireFamily", "isAtRest", "(II)Z"⟩, 13) := ⟨⟨by decide +kernel, by decide +kernel⟩, List.mem_of_getElem? (i := 16) (by decide +kernel), List.mem_of_getElem? (i := 606) (by decide +kernel), List.mem_of_getElem? (i := 607) (by decide +kernel)⟩
theorem lw_p17 : lw_okq (⟨"WireFamily", "holding", "(III)I"⟩, 13) := ⟨⟨by decide +kernel, by decide +kernel⟩, List.mem_of_getElem? (i := 16) (by decide +kernel), List.mem_of_getElem? (i := 610) (by decide +kernel), List.mem_of_getElem? (i := 611) (by decide +kernel)⟩
theorem lw_p18 : lw_okq (⟨"WireFamilyModel", "readFamily", "()I"⟩, 35) := ⟨⟨by decide +kernel, by decide +kernel⟩, List.mem_of_getElem? (i := 639) (by decide +kernel), List.mem_of_getElem? (i := 767) (by decide +kernel), List.mem_of_getElem? (i := 768) (by decide +kernel)⟩
theorem lw_p19 : lw_okq (⟨"WireFamilyModel", "readThing", "()Z"⟩, 35) := ⟨⟨by decide +kernel, by decide +kernel⟩, List.mem_of_getElem? (i := 639) (by decide +kernel), List.mem_of_getElem? (i := 771) (by decide +kernel), List.mem_of_getElem? (i := 772) (by decide +kernel)⟩
theorem lw_p20 : lw_okq (⟨"WireFamilyModel", "readOneKin", "()Z"⟩, 35) := ⟨⟨by decide +kernel, by decide +kernel⟩, List.mem_of_getElem? (i := 639) (by decide +kernel), List.mem_of_getElem? (i := 775) (by decide +kernel), List.mem_of_getElem? (i := 776) (by decide +kernel)⟩
theorem lw_p21 : lw_okq (⟨"WireFamilyModel", "from", "(III)I"⟩, 35) := ⟨⟨by decide +kernel, by decide +kernel⟩, List.mem_of_getElem? (i := 639) (by decide +kernel), List.mem_of_getElem? (i := 779) (by decide +kernel), List.mem_of_getElem? (i := 780) (by decide +kernel)⟩
theorem lw_p22 : lw_okq (⟨"WireFamilyModel", "readOneRow", "()Z"⟩, 35) := ⟨⟨by decide +kernel, by decide +kernel⟩, List.mem_of_getElem? (i := 639) (by decide +kernel), List.mem_of_getElem? (i := 783) (by decide +kernel), List.mem_of_getElem? (i := 784) (by decide +kernel)⟩
theorem lw_p23 : lw_okq (⟨"WireFamilyModel", "readOneDeed", "()Z"⟩, 35) := ⟨⟨by decide +kernel, by decide +kernel⟩, List.mem_of_getElem? (i := 639) (by decide +kernel), List.mem_of_getElem? (i := 787) (by decide +kernel), List.mem_of_getElem? (i := 788) (by decide +kernel)⟩
theorem lw_p24 : lw_okq (⟨"WireFamilyModel", "layHalves", "([I)V"⟩, 35) := ⟨⟨by decide +kernel, by decide +kernel⟩, List.mem_of_getElem? (i := 639) (by decide +kernel), List.mem_of_getElem? (i := 802) (by decide +kernel), List.mem_of_getElem? (i := 803) (by decide +kernel)⟩
theorem lw_p25 : lw_okq (⟨"WireFamilyModel", "figuresOf", "([I)I"⟩, 35) := ⟨⟨by decide +kernel, by decide +kernel⟩, List.mem_of_getElem? (i := 639) (by decide +kernel), List.mem_of_getElem? (i := 806) (by decide +kernel), List.mem_of_getElem? (i := 807) (by decide +kernel)⟩
theorem lw_p26 : lw_okq (⟨"WireFamilyModel", "slipsOf", "([I)I"⟩, 35) := ⟨⟨by decide +kernel, by decide +kernel⟩, List.mem_of_getElem? (i := 639) (by decide +kernel), List.mem_of_getElem? (i := 810) (by decide +kernel), List.mem_of_getElem? (i := 811) (by decide +kernel)⟩
theorem lw_p27 : lw_okq (⟨"WireFamilyModel", "partedLaid", "()I"⟩, 35) := ⟨⟨by decide +kernel, by decide +kernel⟩, List.mem_of_getElem? (i := 639) (by decide +kernel), List.mem_of_getElem? (i := 814) (by decide +kernel), List.mem_of_getElem? (i := 815) (by decide +kernel)⟩
theorem lw_p28 : lw_okq (⟨"WireFamilyModel", "wires", "()I"⟩, 35) := ⟨⟨by decide +kernel, by decide +kernel⟩, List.mem_of_getElem? (i := 639) (by decide +kernel), List.mem_of_getElem? (i := 818) (by decide +kernel), List.mem_of_getElem? (i := 819) (by decide +kernel)⟩
theorem lw_p29 : lw_okq (⟨"WireFamilyModel", "layWire", "(I)Z"⟩, 35) := ⟨⟨by decide +kernel, by decide +kernel⟩, List.mem_of_getElem? (i := 639) (by decide +kernel), List.mem_of_getElem? (i := 825) (by decide +kernel), List.mem_of_getElem? (i := 826) (by decide +kernel)⟩
theorem lw_p30 : lw_okq (⟨"WireFamilyModel", "countsFor", "([III)I"⟩, 35) := ⟨⟨by decide +kernel, by decide +kernel⟩, List.mem_of_getElem? (i := 639) (by decide +kernel), List.mem_of_getElem? (i := 835) (by decide +kernel), List.mem_of_getElem? (i := 836) (by decide +kernel)⟩
theorem lw_p31 : lw_okq (⟨"WireFamilyModel", "countsOf", "(II)I"⟩, 35) := ⟨⟨by decide +kernel, by decide +kernel⟩, List.mem_of_getElem? (i := 639) (by decide +kernel), List.mem_of_getElem? (i := 843) (by decide +kernel), List.mem_of_getElem? (i := 844) (by decide +kernel)⟩
def lw_privs_2 : List (MethodName × Nat) := [(⟨"WireFamily", "isAtRest", "(II)Z"⟩, 13), (⟨"WireFamily", "holding", "(III)I"⟩, 13), (⟨"WireFamilyModel", "readFamily", "()I"⟩, 35), (⟨"WireFamilyModel", "readThing", "()Z"⟩, 35), (⟨"WireFamilyModel", "readOneKin", "()Z"⟩, 35), (⟨"WireFamilyModel", "from", "(III)I"⟩, 35), (⟨"WireFamilyModel", "readOneRow", "()Z"⟩, 35), (⟨"WireFamilyModel", "readOneDeed", "()Z"⟩, 35), (⟨"WireFamilyModel", "layHalves", "([I)V"⟩, 35), (⟨"WireFamilyModel", "figuresOf", "([I)I"⟩, 35), (⟨"WireFamilyModel", "slipsOf", "([I)I"⟩, 35), (⟨"WireFamilyModel", "partedLaid", "()I"⟩, 35), (⟨"WireFamilyModel", "wires", "()I"⟩, 35), (⟨"WireFamilyModel", "layWire", "(I)Z"⟩, 35), (⟨"WireFamilyModel", "countsFor", "([III)I"⟩, 35), (⟨"WireFamilyModel", "countsOf", "(II)I"⟩, 35)]
theorem lw_r2 : ∀ q ∈ lw_privs_2, lw_okq q := List.forall_mem_cons.mpr ⟨lw_p16, List.forall_mem_cons.mpr ⟨lw_p17, List.forall_mem_cons.mpr ⟨lw_p18, List.forall_mem_cons.mpr ⟨lw_p19, List.forall_mem_cons.mpr ⟨lw_p20, List.forall_mem_cons.mpr ⟨lw_p21, List.forall_mem_cons.mpr ⟨lw_p22, List.forall_mem_cons.mpr ⟨lw_p23, List.forall_mem_cons.mpr ⟨lw_p24, List.forall_mem_cons.mpr ⟨lw_p25, List.forall_mem_cons.mpr ⟨lw_p26, List.forall_mem_cons.mpr ⟨lw_p27, List.forall_mem_cons.mpr ⟨lw_p28, List.forall_mem_cons.mpr ⟨lw_p29, List.forall_mem_cons.mpr ⟨lw_p30, List.forall_mem_cons.mpr ⟨lw_p31, fun _ h => absurd h List.not_mem_nil⟩⟩⟩⟩⟩⟩⟩⟩⟩⟩⟩⟩⟩⟩⟩⟩
theorem lw_p32 : lw_okq (⟨"WireFamilyModel", "countOf", "([IIII)I"⟩, 35) := ⟨⟨by decide +kernel, by decide +kernel⟩, List.mem_of_getElem? (i := 639) (by decide +kernel), List.mem_of_getElem? (i := 847) (by decide +kernel), List.mem_of_getElem? (i := 848) (by decide +kernel)⟩
theorem lw_p33 : lw_okq (⟨"WireFamilyModel", "canOf", "([III)I"⟩, 35) := ⟨⟨by decide +kernel, by decide +kernel⟩, List.mem_of_getElem? (i := 639) (by decide +kernel), List.mem_of_getElem? (i := 863) (by decide +kernel), List.mem_of_getElem? (i := 864) (by decide +kernel)⟩
theorem lw_p34 : lw_okq (⟨"WireFamilyModel", "canDraw", "([III)Z"⟩, 35) := ⟨⟨by decide +kernel, by decide +kernel⟩, List.mem_of_getElem? (i := 639) (by decide +kernel), List.mem_of_getElem? (i := 871) (by decide +kernel), List.mem_of_getElem? (i := 872) (by decide +kernel)⟩
theorem lw_p35 : lw_okq (⟨"WireFamilyModel", "note", "()V"⟩, 35) := ⟨⟨by decide +kernel, by decide +kernel⟩, List.mem_of_getElem? (i := 639) (by decide +kernel), List.mem_of_getElem? (i := 876) (by decide +kernel), List.mem_of_getElem? (i := 877) (by decide +kernel)⟩
theorem lw_p36 : lw_okq (⟨"WireFamilyModel", "rejoin", "([I)V"⟩, 35) := ⟨⟨by decide +kernel, by decide +kernel⟩, List.mem_of_getElem? (i := 639) (by decide +kernel), List.mem_of_getElem? (i := 891) (by decide +kernel), List.mem_of_getElem? (i := 892) (by decide +kernel)⟩
theorem lw_p37 : lw_okq (⟨"WireFamilyModel", "worthOf", "(II)I"⟩, 35) := ⟨⟨by decide +kernel, by decide +kernel⟩, List.mem_of_getElem? (i := 639) (by decide +kernel), List.mem_of_getElem? (i := 915) (by decide +kernel), List.mem_of_getElem? (i := 916) (by decide +kernel)⟩
theorem lw_p38 : lw_okq (⟨"WireFamilyModel", "does", "(I)Z"⟩, 35) := ⟨⟨by decide +kernel, by decide +kernel⟩, List.mem_of_getElem? (i := 639) (by decide +kernel), List.mem_of_getElem? (i := 923) (by decide +kernel), List.mem_of_getElem? (i := 924) (by decide +kernel)⟩
theorem lw_p39 : lw_okq (⟨"WireFamilyModel", "isSeen", "()Z"⟩, 35) := ⟨⟨by decide +kernel, by decide +kernel⟩, List.mem_of_getElem? (i := 639) (by decide +kernel), List.mem_of_getElem? (i := 953) (by decide +kernel), List.mem_of_getElem? (i := 954) (by decide +kernel)⟩
theorem lw_p40 : lw_okq (⟨"WireFamilyModel", "pulled", "(III)I"⟩, 35) := ⟨⟨by decide +kernel, by decide +kernel⟩, List.mem_of_getElem? (i := 639) (by decide +kernel), List.mem_of_getElem? (i := 961) (by decide +kernel), List.mem_of_getElem? (i := 962) (by decide +kernel)⟩
def lw_privs_3 : List (MethodName × Nat) := [(⟨"WireFamilyModel", "countOf", "([IIII)I"⟩, 35), (⟨"WireFamilyModel", "canOf", "([III)I"⟩, 35), (⟨"WireFamilyModel", "canDraw", "([III)Z"⟩, 35), (⟨"WireFamilyModel", "note", "()V"⟩, 35), (⟨"WireFamilyModel", "rejoin", "([I)V"⟩, 35), (⟨"WireFamilyModel", "worthOf", "(II)I"⟩, 35), (⟨"WireFamilyModel", "does", "(I)Z"⟩, 35), (⟨"WireFamilyModel", "isSeen", "()Z"⟩, 35), (⟨"WireFamilyModel", "pulled", "(III)I"⟩, 35)]
theorem lw_r3 : ∀ q ∈ lw_privs_3, lw_okq q := List.forall_mem_cons.mpr ⟨lw_p32, List.forall_mem_cons.mpr ⟨lw_p33, List.forall_mem_cons.mpr ⟨lw_p34, List.forall_mem_cons.mpr ⟨lw_p35, List.forall_mem_cons.mpr ⟨lw_p36, List.forall_mem_cons.mpr ⟨lw_p37, List.forall_mem_cons.mpr ⟨lw_p38, List.forall_mem_cons.mpr ⟨lw_p39, List.forall_mem_cons.mpr ⟨lw_p40, fun _ h => absurd h List.not_mem_nil⟩⟩⟩⟩⟩⟩⟩⟩⟩
def lw_privs : List (MethodName × Nat) := lw_privs_1 ++ (lw_privs_2 ++ (lw_privs_3))
def lw_tbl : List Cond := k2_sels lw_privs ++ tables_1
theorem lw_privs_ok : ∀ q ∈ lw_privs, lw_okq q := by
  show ∀ q ∈ lw_privs_1 ++ (lw_privs_2 ++ (lw_privs_3)), lw_okq q
  exact List.forall_mem_append.mpr ⟨lw_r1, List.forall_mem_append.mpr ⟨lw_r2, lw_r3⟩⟩
def RX0 : String := "WireFamily$Acts"
def TX0 : u_T := fun k => match k with
  | 0 => ("WireFamily$Acts", "changedRows", "[I", true)
  | 1 => ("WireFamily$Acts", "wiresBefore", "[I", true)
  | 2 => ("WireFamily$Acts", "goldBefore", "[I", true)
  | _ => ("WireFamily$Acts", "count", "I", false)
def tyX0 : Nat → FieldType := fun k => match k with
  | 0 => .array .int
  | 1 => .array .int
  | 2 => .array .int
  | _ => .int
abbrev wsX00 : List Cond := u_ws RX0 TX0 4
theorem nmX0 : ∀ a, a < 4 → ∀ b, b < 4 → a ≠ b → (TX0 a).2.1 ≠ (TX0 b).2.1 := by decide +kernel
theorem tyX0_ok : ∀ k, k < 4 → parseFieldDescriptor (TX0 k).2.2.1 = some (tyX0 k) := by decide +kernel
abbrev cX0_init : ByteArray := prog_2_method_1_code
def yX0_init : MethodName := ⟨RX0, "<init>", "()V"⟩
abbrev cX0_forget : ByteArray := prog_2_method_2_code
def yX0_forget : MethodName := ⟨RX0, "forget", "()V"⟩
abbrev cX0_note : ByteArray := prog_2_method_3_code
def yX0_note : MethodName := ⟨RX0, "note", "(III)V"⟩
abbrev cX0_forgetFirst : ByteArray := prog_2_method_4_code
def yX0_forgetFirst : MethodName := ⟨RX0, "forgetFirst", "()V"⟩
abbrev cX0_takeBack : ByteArray := prog_2_method_5_code
def yX0_takeBack : MethodName := ⟨RX0, "takeBack", "(LWireFamily$Table;)V"⟩
def RX1 : String := "WireFamily$House"
def TX1 : u_T := fun k => match k with
  | 0 => ("WireFamily$House", "kinds", "[I", true)
  | 1 => ("WireFamily$House", "cells", "[I", true)
  | 2 => ("WireFamily$House", "parts", "[I", true)
  | 3 => ("WireFamily$House", "needs", "[I", true)
  | 4 => ("WireFamily$House", "kin", "I", false)
  | 5 => ("WireFamily$House", "rows", "I", false)
  | 6 => ("WireFamily$House", "deeds", "I", false)
  | 7 => ("WireFamily$House", "awaits", "I", false)
  | _ => ("WireFamily$House", "column", "I", false)
def tyX1 : Nat → FieldType := fun k => match k with
  | 0 => .array .int
  | 1 => .array .int
  | 2 => .array .int
  | 3 => .array .int
  | 4 => .int
  | 5 => .int
  | 6 => .int
  | 7 => .int
  | _ => .int
abbrev wsX10 : List Cond := u_ws RX1 TX1 9
theorem nmX1 : ∀ a, a < 9 → ∀ b, b < 9 → a ≠ b → (TX1 a).2.1 ≠ (TX1 b).2.1 := by decide +kernel
theorem tyX1_ok : ∀ k, k < 9 → parseFieldDescriptor (TX1 k).2.2.1 = some (tyX1 k) := by decide +kernel
abbrev cX1_init : ByteArray := prog_3_method_1_code
def yX1_init : MethodName := ⟨RX1, "<init>", "()V"⟩
abbrev cX1_begin : ByteArray := prog_3_method_2_code
def yX1_begin : MethodName := ⟨RX1, "begin", "()V"⟩
abbrev cX1_isWhole : ByteArray := prog_3_method_3_code
def yX1_isWhole : MethodName := ⟨RX1, "isWhole", "()Z"⟩
abbrev cX1_take : ByteArray := prog_3_method_4_code
def yX1_take : MethodName := ⟨RX1, "take", "(I)Z"⟩
abbrev cX1_takeStart : ByteArray := prog_3_method_5_code
def yX1_takeStart : MethodName := ⟨RX1, "takeStart", "(I)Z"⟩
abbrev cX1_takeThing : ByteArray := prog_3_method_6_code
def yX1_takeThing : MethodName := ⟨RX1, "takeThing", "(I)Z"⟩
abbrev cX1_takeKind : ByteArray := prog_3_method_7_code
def yX1_takeKind : MethodName := ⟨RX1, "takeKind", "(I)Z"⟩
abbrev cX1_takeCell : ByteArray := prog_3_method_8_code
def yX1_takeCell : MethodName := ⟨RX1, "takeCell", "(I)Z"⟩
abbrev cX1_takePart : ByteArray := prog_3_method_9_code
def yX1_takePart : MethodName := ⟨RX1, "takePart", "(I)Z"⟩
abbrev cX1_takeNeed : ByteArray := prog_3_method_10_code
def yX1_takeNeed : MethodName := ⟨RX1, "takeNeed", "(I)Z"⟩
def RX2 : String := "WireFamily$Pick"
def TX2 : u_T := fun k => match k with
  | 0 => ("WireFamily$Pick", "count", "I", false)
  | 1 => ("WireFamily$Pick", "cost", "I", false)
  | _ => ("WireFamily$Pick", "which", "I", false)
def tyX2 : Nat → FieldType := fun k => match k with
  | 0 => .int
  | 1 => .int
  | _ => .int
abbrev wsX20 : List Cond := u_ws RX2 TX2 3
theorem nmX2 : ∀ a, a < 3 → ∀ b, b < 3 → a ≠ b → (TX2 a).2.1 ≠ (TX2 b).2.1 := by decide +kernel
theorem tyX2_ok : ∀ k, k < 3 → parseFieldDescriptor (TX2 k).2.2.1 = some (tyX2 k) := by decide +kernel
abbrev cX2_init : ByteArray := prog_4_method_1_code
def yX2_init : MethodName := ⟨RX2, "<init>", "()V"⟩
abbrev cX2_begin : ByteArray := prog_4_method_2_code
def yX2_begin : MethodName := ⟨RX2, "begin", "()V"⟩
abbrev cX2_offer : ByteArray := prog_4_method_3_code
def yX2_offer : MethodName := ⟨RX2, "offer", "(II)V"⟩
def RX3 : String := "WireFamily$Seen"
def TX3 : u_T := fun k => match k with
  | 0 => ("WireFamily$Seen", "who", "[I", true)
  | 1 => ("WireFamily$Seen", "sides", "[I", true)
  | _ => ("WireFamily$Seen", "count", "I", false)
def tyX3 : Nat → FieldType := fun k => match k with
  | 0 => .array .int
  | 1 => .array .int
  | _ => .int
abbrev wsX30 : List Cond := u_ws RX3 TX3 3
theorem nmX3 : ∀ a, a < 3 → ∀ b, b < 3 → a ≠ b → (TX3 a).2.1 ≠ (TX3 b).2.1 := by decide +kernel
theorem tyX3_ok : ∀ k, k < 3 → parseFieldDescriptor (TX3 k).2.2.1 = some (tyX3 k) := by decide +kernel
abbrev cX3_init : ByteArray := prog_5_method_1_code
def yX3_init : MethodName := ⟨RX3, "<init>", "()V"⟩
abbrev cX3_append : ByteArray := prog_5_method_2_code
def yX3_append : MethodName := ⟨RX3, "append", "(II)Z"⟩
abbrev cX3_agreesWith : ByteArray := prog_5_method_3_code
def yX3_agreesWith : MethodName := ⟨RX3, "agreesWith", "(LWireFamily$Tally;I)Z"⟩
abbrev cX3_isSo : ByteArray := prog_5_method_4_code
def yX3_isSo : MethodName := ⟨RX3, "isSo", "(LWireFamily$Tally;II)Z"⟩
def RX4 : String := "WireFamily$Table"
def TX4 : u_T := fun k => match k with
  | 0 => ("WireFamily$Table", "house", "LWireFamily$House;", true)
  | 1 => ("WireFamily$Table", "cells", "[I", true)
  | 2 => ("WireFamily$Table", "wire", "[I", true)
  | _ => ("WireFamily$Table", "gold", "I", false)
def tyX4 : Nat → FieldType := fun k => match k with
  | 0 => .object "WireFamily$House"
  | 1 => .array .int
  | 2 => .array .int
  | _ => .int
abbrev wsX40 : List Cond := u_ws RX4 TX4 4
theorem nmX4 : ∀ a, a < 4 → ∀ b, b < 4 → a ≠ b → (TX4 a).2.1 ≠ (TX4 b).2.1 := by decide +kernel
theorem tyX4_ok : ∀ k, k < 4 → parseFieldDescriptor (TX4 k).2.2.1 = some (tyX4 k) := by decide +kernel
abbrev cX4_init : ByteArray := prog_6_method_1_code
def yX4_init : MethodName := ⟨RX4, "<init>", "(LWireFamily$House;)V"⟩
abbrev cX4_begin : ByteArray := prog_6_method_2_code
def yX4_begin : MethodName := ⟨RX4, "begin", "()V"⟩
abbrev cX4_copyOf : ByteArray := prog_6_method_3_code
def yX4_copyOf : MethodName := ⟨RX4, "copyOf", "(LWireFamily$Table;)V"⟩
abbrev cX4_wireNumber : ByteArray := prog_6_method_4_code
def yX4_wireNumber : MethodName := ⟨RX4, "wireNumber", "()I"⟩
abbrev cX4_setWire : ByteArray := prog_6_method_5_code
def yX4_setWire : MethodName := ⟨RX4, "setWire", "(I)V"⟩
abbrev cX4_slipCount : ByteArray := prog_6_method_6_code
def yX4_slipCount : MethodName := ⟨RX4, "slipCount", "()I"⟩
abbrev cX4_act : ByteArray := prog_6_method_7_code
def yX4_act : MethodName := ⟨RX4, "act", "(II)Z"⟩
abbrev cX4_moveWire : ByteArray := prog_6_method_8_code
def yX4_moveWire : MethodName := ⟨RX4, "moveWire", "(II)Z"⟩
abbrev cX4_isNear : ByteArray := prog_6_method_9_code
def yX4_isNear : MethodName := ⟨RX4, "isNear", "(II)Z"⟩
abbrev cX4_swapAtWire : ByteArray := prog_6_method_10_code
def yX4_swapAtWire : MethodName := ⟨RX4, "swapAtWire", "(I)Z"⟩
abbrev cX4_joinFaces : ByteArray := prog_6_method_11_code
def yX4_joinFaces : MethodName := ⟨RX4, "joinFaces", "()V"⟩
def RX5 : String := "WireFamily$Tally"
def TX5 : u_T := fun k => match k with
  | 0 => ("WireFamily$Tally", "house", "LWireFamily$House;", true)
  | 1 => ("WireFamily$Tally", "inHalf", "[I", true)
  | _ => ("WireFamily$Tally", "counts", "[I", true)
def tyX5 : Nat → FieldType := fun k => match k with
  | 0 => .object "WireFamily$House"
  | 1 => .array .int
  | _ => .array .int
abbrev wsX50 : List Cond := u_ws RX5 TX5 3
theorem nmX5 : ∀ a, a < 3 → ∀ b, b < 3 → a ≠ b → (TX5 a).2.1 ≠ (TX5 b).2.1 := by decide +kernel
theorem tyX5_ok : ∀ k, k < 3 → parseFieldDescriptor (TX5 k).2.2.1 = some (tyX5 k) := by decide +kernel
abbrev cX5_init : ByteArray := prog_7_method_1_code
def yX5_init : MethodName := ⟨RX5, "<init>", "(LWireFamily$House;)V"⟩
abbrev cX5_take : ByteArray := prog_7_method_2_code
def yX5_take : MethodName := ⟨RX5, "take", "([I[I)V"⟩
abbrev cX5_countCells : ByteArray := prog_7_method_3_code
def yX5_countCells : MethodName := ⟨RX5, "countCells", "([I[I)V"⟩
abbrev cX5_halvesFor : ByteArray := prog_7_method_4_code
def yX5_halvesFor : MethodName := ⟨RX5, "halvesFor", "(II)I"⟩
abbrev cX5_cellsIn : ByteArray := prog_7_method_5_code
def yX5_cellsIn : MethodName := ⟨RX5, "cellsIn", "(II)I"⟩
abbrev cX5_isParted : ByteArray := prog_7_method_6_code
def yX5_isParted : MethodName := ⟨RX5, "isParted", "(I)Z"⟩
abbrev cX5_partedBits : ByteArray := prog_7_method_7_code
def yX5_partedBits : MethodName := ⟨RX5, "partedBits", "()I"⟩
abbrev cX5_partedCount : ByteArray := prog_7_method_8_code
def yX5_partedCount : MethodName := ⟨RX5, "partedCount", "()I"⟩
abbrev cX5_countedOf : ByteArray := prog_7_method_9_code
def yX5_countedOf : MethodName := ⟨RX5, "countedOf", "(II)I"⟩
abbrev cX5_counted : ByteArray := prog_7_method_10_code
def yX5_counted : MethodName := ⟨RX5, "counted", "(III)I"⟩
abbrev cX5_isDone : ByteArray := prog_7_method_11_code
def yX5_isDone : MethodName := ⟨RX5, "isDone", "(III)Z"⟩
abbrev cX5_deedBits : ByteArray := prog_7_method_12_code
def yX5_deedBits : MethodName := ⟨RX5, "deedBits", "(II)I"⟩
abbrev cX5_deedCount : ByteArray := prog_7_method_13_code
def yX5_deedCount : MethodName := ⟨RX5, "deedCount", "(I)I"⟩
abbrev cX5_worth : ByteArray := prog_7_method_14_code
def yX5_worth : MethodName := ⟨RX5, "worth", "(II)I"⟩
def RX6 : String := "WireFamily$Text"
def TX6 : u_T := fun k => match k with
  | 0 => ("WireFamily$Text", "bytes", "[I", true)
  | _ => ("WireFamily$Text", "length", "I", false)
def tyX6 : Nat → FieldType := fun k => match k with
  | 0 => .array .int
  | _ => .int
abbrev wsX60 : List Cond := u_ws RX6 TX6 2
theorem nmX6 : ∀ a, a < 2 → ∀ b, b < 2 → a ≠ b → (TX6 a).2.1 ≠ (TX6 b).2.1 := by decide +kernel
theorem tyX6_ok : ∀ k, k < 2 → parseFieldDescriptor (TX6 k).2.2.1 = some (tyX6 k) := by decide +kernel
abbrev cX6_init : ByteArray := prog_8_method_1_code
def yX6_init : MethodName := ⟨RX6, "<init>", "()V"⟩
abbrev cX6_append : ByteArray := prog_8_method_2_code
def yX6_append : MethodName := ⟨RX6, "append", "(I)Z"⟩
abbrev cX6_readInto : ByteArray := prog_8_method_3_code
def yX6_readInto : MethodName := ⟨RX6, "readInto", "(LWireFamily$House;)I"⟩
def RX7 : String := "WireFamily$Wires"
def TX7 : u_T := fun k => match k with
  | 0 => ("WireFamily$Wires", "wire", "[I", true)
  | 1 => ("WireFamily$Wires", "rows", "I", false)
  | _ => ("WireFamily$Wires", "standing", "Z", false)
def tyX7 : Nat → FieldType := fun k => match k with
  | 0 => .array .int
  | 1 => .int
  | _ => .boolean
abbrev wsX70 : List Cond := u_ws RX7 TX7 3
theorem nmX7 : ∀ a, a < 3 → ∀ b, b < 3 → a ≠ b → (TX7 a).2.1 ≠ (TX7 b).2.1 := by decide +kernel
theorem tyX7_ok : ∀ k, k < 3 → parseFieldDescriptor (TX7 k).2.2.1 = some (tyX7 k) := by decide +kernel
abbrev cX7_init : ByteArray := prog_9_method_1_code
def yX7_init : MethodName := ⟨RX7, "<init>", "()V"⟩
abbrev cX7_begin : ByteArray := prog_9_method_2_code
def yX7_begin : MethodName := ⟨RX7, "begin", "(I)V"⟩
abbrev cX7_figures : ByteArray := prog_9_method_3_code
def yX7_figures : MethodName := ⟨RX7, "figures", "()I"⟩
abbrev cX7_advance : ByteArray := prog_9_method_4_code
def yX7_advance : MethodName := ⟨RX7, "advance", "()V"⟩
abbrev cX7_putLeastBehind : ByteArray := prog_9_method_5_code
def yX7_putLeastBehind : MethodName := ⟨RX7, "putLeastBehind", "(I)V"⟩
def RX8 : String := "WireFamily"
def TX8 : u_T := fun k => match k with
  | 0 => ("WireFamily", "text", "LWireFamily$Text;", true)
  | 1 => ("WireFamily", "house", "LWireFamily$House;", true)
  | 2 => ("WireFamily", "draft", "LWireFamily$House;", true)
  | 3 => ("WireFamily", "table", "LWireFamily$Table;", true)
  | 4 => ("WireFamily", "trial", "LWireFamily$Table;", true)
  | 5 => ("WireFamily", "slots", "[LWireFamily$Table;", true)
  | 6 => ("WireFamily", "kept", "[Z", true)
  | 7 => ("WireFamily", "acts", "LWireFamily$Acts;", true)
  | 8 => ("WireFamily", "tally", "LWireFamily$Tally;", true)
  | 9 => ("WireFamily", "seen", "LWireFamily$Seen;", true)
  | 10 => ("WireFamily", "wires", "LWireFamily$Wires;", true)
  | 11 => ("WireFamily", "pick", "LWireFamily$Pick;", true)
  | _ => ("WireFamily", "seed", "J", false)
def tyX8 : Nat → FieldType := fun k => match k with
  | 0 => .object "WireFamily$Text"
  | 1 => .object "WireFamily$House"
  | 2 => .object "WireFamily$House"
  | 3 => .object "WireFamily$Table"
  | 4 => .object "WireFamily$Table"
  | 5 => .array (.object "WireFamily$Table")
  | 6 => .array .boolean
  | 7 => .object "WireFamily$Acts"
  | 8 => .object "WireFamily$Tally"
  | 9 => .object "WireFamily$Seen"
  | 10 => .object "WireFamily$Wires"
  | 11 => .object "WireFamily$Pick"
  | _ => .long
abbrev wsX80 : List Cond := u_ws RX8 TX8 13
theorem nmX8 : ∀ a, a < 13 → ∀ b, b < 13 → a ≠ b → (TX8 a).2.1 ≠ (TX8 b).2.1 := by decide +kernel
theorem tyX8_ok : ∀ k, k < 13 → parseFieldDescriptor (TX8 k).2.2.1 = some (tyX8 k) := by decide +kernel
abbrev cX8_init : ByteArray := prog_1_method_1_code
def yX8_init : MethodName := ⟨RX8, "<init>", "()V"⟩
abbrev cX8_write : ByteArray := prog_1_method_2_code
def yX8_write : MethodName := ⟨RX8, "write", "(I)I"⟩
abbrev cX8_wipe : ByteArray := prog_1_method_3_code
def yX8_wipe : MethodName := ⟨RX8, "wipe", "()I"⟩
abbrev cX8_fault : ByteArray := prog_1_method_4_code
def yX8_fault : MethodName := ⟨RX8, "fault", "()I"⟩
abbrev cX8_family : ByteArray := prog_1_method_5_code
def yX8_family : MethodName := ⟨RX8, "family", "()I"⟩
abbrev cX8_about : ByteArray := prog_1_method_6_code
def yX8_about : MethodName := ⟨RX8, "about", "(I)I"⟩
abbrev cX8_cell : ByteArray := prog_1_method_7_code
def yX8_cell : MethodName := ⟨RX8, "cell", "(III)I"⟩
abbrev cX8_kin : ByteArray := prog_1_method_8_code
def yX8_kin : MethodName := ⟨RX8, "kin", "(II)I"⟩
abbrev cX8_has : ByteArray := prog_1_method_9_code
def yX8_has : MethodName := ⟨RX8, "has", "(II)I"⟩
abbrev cX8_can : ByteArray := prog_1_method_10_code
def yX8_can : MethodName := ⟨RX8, "can", "(I)I"⟩
abbrev cX8_draw : ByteArray := prog_1_method_11_code
def yX8_draw : MethodName := ⟨RX8, "draw", "(II)I"⟩
abbrev cX8_change : ByteArray := prog_1_method_12_code
def yX8_change : MethodName := ⟨RX8, "change", "(I)I"⟩
abbrev cX8_join : ByteArray := prog_1_method_13_code
def yX8_join : MethodName := ⟨RX8, "join", "()I"⟩
abbrev cX8_undo : ByteArray := prog_1_method_14_code
def yX8_undo : MethodName := ⟨RX8, "undo", "()I"⟩
abbrev cX8_best : ByteArray := prog_1_method_15_code
def yX8_best : MethodName := ⟨RX8, "best", "(I)I"⟩
abbrev cX8_fewest : ByteArray := prog_1_method_16_code
def yX8_fewest : MethodName := ⟨RX8, "fewest", "(II)I"⟩
abbrev cX8_fair : ByteArray := prog_1_method_17_code
def yX8_fair : MethodName := ⟨RX8, "fair", "(III)I"⟩
abbrev cX8_judge : ByteArray := prog_1_method_18_code
def yX8_judge : MethodName := ⟨RX8, "judge", "(II)I"⟩
abbrev cX8_share : ByteArray := prog_1_method_19_code
def yX8_share : MethodName := ⟨RX8, "share", "(IIZ)I"⟩
abbrev cX8_see : ByteArray := prog_1_method_20_code
def yX8_see : MethodName := ⟨RX8, "see", "(II)I"⟩
abbrev cX8_unsee : ByteArray := prog_1_method_21_code
def yX8_unsee : MethodName := ⟨RX8, "unsee", "()I"⟩
abbrev cX8_traces : ByteArray := prog_1_method_22_code
def yX8_traces : MethodName := ⟨RX8, "traces", "(I)I"⟩
abbrev cX8_rests : ByteArray := prog_1_method_23_code
def yX8_rests : MethodName := ⟨RX8, "rests", "(I)I"⟩
abbrev cX8_slips : ByteArray := prog_1_method_24_code
def yX8_slips : MethodName := ⟨RX8, "slips", "(IIIZ)I"⟩
abbrev cX8_seed : ByteArray := prog_1_method_25_code
def yX8_seed : MethodName := ⟨RX8, "seed", "(J)J"⟩
abbrev cX8_years : ByteArray := prog_1_method_26_code
def yX8_years : MethodName := ⟨RX8, "years", "(I)I"⟩
abbrev cX8_keep : ByteArray := prog_1_method_27_code
def yX8_keep : MethodName := ⟨RX8, "keep", "(I)I"⟩
abbrev cX8_again : ByteArray := prog_1_method_28_code
def yX8_again : MethodName := ⟨RX8, "again", "(I)I"⟩
abbrev cX8_isRow : ByteArray := prog_1_method_29_code
def yX8_isRow : MethodName := ⟨RX8, "isRow", "(I)Z"⟩
abbrev cX8_isKin : ByteArray := prog_1_method_30_code
def yX8_isKin : MethodName := ⟨RX8, "isKin", "(I)Z"⟩
abbrev cX8_isDeed : ByteArray := prog_1_method_31_code
def yX8_isDeed : MethodName := ⟨RX8, "isDeed", "(I)Z"⟩
abbrev cX8_isHalf : ByteArray := prog_1_method_32_code
def yX8_isHalf : MethodName := ⟨RX8, "isHalf", "(I)Z"⟩
abbrev cX8_isWorth : ByteArray := prog_1_method_33_code
def yX8_isWorth : MethodName := ⟨RX8, "isWorth", "(I)Z"⟩
abbrev cX8_kinOf : ByteArray := prog_1_method_34_code
def yX8_kinOf : MethodName := ⟨RX8, "kinOf", "(I)I"⟩
abbrev cX8_partOf : ByteArray := prog_1_method_35_code
def yX8_partOf : MethodName := ⟨RX8, "partOf", "(I)I"⟩
abbrev cX8_halfOf : ByteArray := prog_1_method_36_code
def yX8_halfOf : MethodName := ⟨RX8, "halfOf", "(II)I"⟩
abbrev cX8_talliedNow : ByteArray := prog_1_method_37_code
def yX8_talliedNow : MethodName := ⟨RX8, "talliedNow", "()LWireFamily$Tally;"⟩
abbrev cX8_wireCount : ByteArray := prog_1_method_38_code
def yX8_wireCount : MethodName := ⟨RX8, "wireCount", "()I"⟩
abbrev cX8_ordersWith : ByteArray := prog_1_method_39_code
def yX8_ordersWith : MethodName := ⟨RX8, "ordersWith", "(I)I"⟩
abbrev cX8_isAtRest : ByteArray := prog_1_method_40_code
def yX8_isAtRest : MethodName := ⟨RX8, "isAtRest", "(II)Z"⟩
abbrev cX8_holding : ByteArray := prog_1_method_41_code
def yX8_holding : MethodName := ⟨RX8, "holding", "(III)I"⟩
abbrev cX8_fraction : ByteArray := prog_1_method_42_code
def yX8_fraction : MethodName := ⟨RX8, "fraction", "(IIZ)I"⟩
abbrev cX8_commonDivisor : ByteArray := prog_1_method_43_code
def yX8_commonDivisor : MethodName := ⟨RX8, "commonDivisor", "(II)I"⟩
abbrev cX8_figuresOf : ByteArray := prog_1_method_44_code
def yX8_figuresOf : MethodName := ⟨RX8, "figuresOf", "([II)I"⟩
def RX9 : String := "WireFamilyModel"
def TX9 : u_T := fun k => match k with
  | 0 => ("WireFamilyModel", "thrown", "I", false)
  | 1 => ("WireFamilyModel", "text", "[I", true)
  | 2 => ("WireFamilyModel", "textSize", "I", false)
  | 3 => ("WireFamilyModel", "place", "I", false)
  | 4 => ("WireFamilyModel", "rows", "I", false)
  | 5 => ("WireFamilyModel", "kin", "I", false)
  | 6 => ("WireFamilyModel", "kind", "[I", true)
  | 7 => ("WireFamilyModel", "deeds", "I", false)
  | 8 => ("WireFamilyModel", "part", "[I", true)
  | 9 => ("WireFamilyModel", "need", "[I", true)
  | 10 => ("WireFamilyModel", "readRows", "I", false)
  | 11 => ("WireFamilyModel", "readCell", "[I", true)
  | 12 => ("WireFamilyModel", "readKin", "I", false)
  | 13 => ("WireFamilyModel", "readKind", "[I", true)
  | 14 => ("WireFamilyModel", "readDeeds", "I", false)
  | 15 => ("WireFamilyModel", "readPart", "[I", true)
  | 16 => ("WireFamilyModel", "readNeed", "[I", true)
  | 17 => ("WireFamilyModel", "page", "[I", true)
  | 18 => ("WireFamilyModel", "trial", "[I", true)
  | 19 => ("WireFamilyModel", "book", "[I", true)
  | 20 => ("WireFamilyModel", "acts", "I", false)
  | 21 => ("WireFamilyModel", "kept", "[I", true)
  | 22 => ("WireFamilyModel", "isKept", "[Z", true)
  | 23 => ("WireFamilyModel", "seen", "I", false)
  | 24 => ("WireFamilyModel", "seenKin", "[I", true)
  | 25 => ("WireFamilyModel", "seenSide", "[I", true)
  | 26 => ("WireFamilyModel", "seed", "J", false)
  | 27 => ("WireFamilyModel", "left", "[I", true)
  | 28 => ("WireFamilyModel", "right", "[I", true)
  | 29 => ("WireFamilyModel", "wire", "[I", true)
  | 30 => ("WireFamilyModel", "foundMany", "I", false)
  | 31 => ("WireFamilyModel", "foundFirst", "I", false)
  | 32 => ("WireFamilyModel", "restMany", "I", false)
  | 33 => ("WireFamilyModel", "restFirst", "I", false)
  | _ => ("WireFamilyModel", "value", "[I", true)
def tyX9 : Nat → FieldType := fun k => match k with
  | 0 => .int
  | 1 => .array .int
  | 2 => .int
  | 3 => .int
  | 4 => .int
  | 5 => .int
  | 6 => .array .int
  | 7 => .int
  | 8 => .array .int
  | 9 => .array .int
  | 10 => .int
  | 11 => .array .int
  | 12 => .int
  | 13 => .array .int
  | 14 => .int
  | 15 => .array .int
  | 16 => .array .int
  | 17 => .array .int
  | 18 => .array .int
  | 19 => .array .int
  | 20 => .int
  | 21 => .array .int
  | 22 => .array .boolean
  | 23 => .int
  | 24 => .array .int
  | 25 => .array .int
  | 26 => .long
  | 27 => .array .int
  | 28 => .array .int
  | 29 => .array .int
  | 30 => .int
  | 31 => .int
  | 32 => .int
  | 33 => .int
  | _ => .array .int
abbrev wsX90 : List Cond := u_ws RX9 TX9 35
theorem nmX9 : ∀ a, a < 35 → ∀ b, b < 35 → a ≠ b → (TX9 a).2.1 ≠ (TX9 b).2.1 := by decide +kernel
theorem tyX9_ok : ∀ k, k < 35 → parseFieldDescriptor (TX9 k).2.2.1 = some (tyX9 k) := by decide +kernel
abbrev cX9_init : ByteArray := prog_11_method_1_code
def yX9_init : MethodName := ⟨RX9, "<init>", "()V"⟩
abbrev cX9_in : ByteArray := prog_11_method_3_code
def yX9_in : MethodName := ⟨RX9, "in", "(JJJ)Z"⟩
abbrev cX9_isIn : ByteArray := prog_11_method_4_code
def yX9_isIn : MethodName := ⟨RX9, "isIn", "(II)Z"⟩
abbrev cX9_many : ByteArray := prog_11_method_5_code
def yX9_many : MethodName := ⟨RX9, "many", "(I)I"⟩
abbrev cX9_write : ByteArray := prog_11_method_6_code
def yX9_write : MethodName := ⟨RX9, "write", "(I)I"⟩
abbrev cX9_wipe : ByteArray := prog_11_method_7_code
def yX9_wipe : MethodName := ⟨RX9, "wipe", "()I"⟩
abbrev cX9_from : ByteArray := prog_11_method_8_code
def yX9_from : MethodName := ⟨RX9, "from", "(III)I"⟩
abbrev cX9_readOneKin : ByteArray := prog_11_method_9_code
def yX9_readOneKin : MethodName := ⟨RX9, "readOneKin", "()Z"⟩
abbrev cX9_readOneRow : ByteArray := prog_11_method_10_code
def yX9_readOneRow : MethodName := ⟨RX9, "readOneRow", "()Z"⟩
abbrev cX9_readOneDeed : ByteArray := prog_11_method_11_code
def yX9_readOneDeed : MethodName := ⟨RX9, "readOneDeed", "()Z"⟩
abbrev cX9_readThing : ByteArray := prog_11_method_12_code
def yX9_readThing : MethodName := ⟨RX9, "readThing", "()Z"⟩
abbrev cX9_readFamily : ByteArray := prog_11_method_13_code
def yX9_readFamily : MethodName := ⟨RX9, "readFamily", "()I"⟩
abbrev cX9_fault : ByteArray := prog_11_method_14_code
def yX9_fault : MethodName := ⟨RX9, "fault", "()I"⟩
abbrev cX9_copyRow : ByteArray := prog_11_method_15_code
def yX9_copyRow : MethodName := ⟨RX9, "copyRow", "([I[II)V"⟩
abbrev cX9_family : ByteArray := prog_11_method_16_code
def yX9_family : MethodName := ⟨RX9, "family", "()I"⟩
abbrev cX9_layHalves : ByteArray := prog_11_method_17_code
def yX9_layHalves : MethodName := ⟨RX9, "layHalves", "([I)V"⟩
abbrev cX9_partedLaid : ByteArray := prog_11_method_18_code
def yX9_partedLaid : MethodName := ⟨RX9, "partedLaid", "()I"⟩
abbrev cX9_countsFor : ByteArray := prog_11_method_19_code
def yX9_countsFor : MethodName := ⟨RX9, "countsFor", "([III)I"⟩
abbrev cX9_countOf : ByteArray := prog_11_method_20_code
def yX9_countOf : MethodName := ⟨RX9, "countOf", "([IIII)I"⟩
abbrev cX9_canOf : ByteArray := prog_11_method_21_code
def yX9_canOf : MethodName := ⟨RX9, "canOf", "([III)I"⟩
abbrev cX9_slipsOf : ByteArray := prog_11_method_22_code
def yX9_slipsOf : MethodName := ⟨RX9, "slipsOf", "([I)I"⟩
abbrev cX9_figuresOf : ByteArray := prog_11_method_23_code
def yX9_figuresOf : MethodName := ⟨RX9, "figuresOf", "([I)I"⟩
abbrev cX9_power : ByteArray := prog_11_method_24_code
def yX9_power : MethodName := ⟨RX9, "power", "(II)I"⟩
abbrev cX9_layWire : ByteArray := prog_11_method_25_code
def yX9_layWire : MethodName := ⟨RX9, "layWire", "(I)Z"⟩
abbrev cX9_wires : ByteArray := prog_11_method_26_code
def yX9_wires : MethodName := ⟨RX9, "wires", "()I"⟩
abbrev cX9_about : ByteArray := prog_11_method_27_code
def yX9_about : MethodName := ⟨RX9, "about", "(I)I"⟩
abbrev cX9_cell : ByteArray := prog_11_method_28_code
def yX9_cell : MethodName := ⟨RX9, "cell", "(III)I"⟩
abbrev cX9_countsOf : ByteArray := prog_11_method_29_code
def yX9_countsOf : MethodName := ⟨RX9, "countsOf", "(II)I"⟩
abbrev cX9_kin : ByteArray := prog_11_method_30_code
def yX9_kin : MethodName := ⟨RX9, "kin", "(II)I"⟩
abbrev cX9_has : ByteArray := prog_11_method_31_code
def yX9_has : MethodName := ⟨RX9, "has", "(II)I"⟩
abbrev cX9_can : ByteArray := prog_11_method_32_code
def yX9_can : MethodName := ⟨RX9, "can", "(I)I"⟩
abbrev cX9_note : ByteArray := prog_11_method_33_code
def yX9_note : MethodName := ⟨RX9, "note", "()V"⟩
abbrev cX9_canDraw : ByteArray := prog_11_method_34_code
def yX9_canDraw : MethodName := ⟨RX9, "canDraw", "([III)Z"⟩
abbrev cX9_draw : ByteArray := prog_11_method_35_code
def yX9_draw : MethodName := ⟨RX9, "draw", "(II)I"⟩
abbrev cX9_swap : ByteArray := prog_11_method_36_code
def yX9_swap : MethodName := ⟨RX9, "swap", "([II)V"⟩
abbrev cX9_change : ByteArray := prog_11_method_37_code
def yX9_change : MethodName := ⟨RX9, "change", "(I)I"⟩
abbrev cX9_rejoin : ByteArray := prog_11_method_38_code
def yX9_rejoin : MethodName := ⟨RX9, "rejoin", "([I)V"⟩
abbrev cX9_join : ByteArray := prog_11_method_39_code
def yX9_join : MethodName := ⟨RX9, "join", "()I"⟩
abbrev cX9_undo : ByteArray := prog_11_method_40_code
def yX9_undo : MethodName := ⟨RX9, "undo", "()I"⟩
abbrev cX9_best : ByteArray := prog_11_method_41_code
def yX9_best : MethodName := ⟨RX9, "best", "(I)I"⟩
abbrev cX9_fewest : ByteArray := prog_11_method_42_code
def yX9_fewest : MethodName := ⟨RX9, "fewest", "(II)I"⟩
abbrev cX9_worthOf : ByteArray := prog_11_method_43_code
def yX9_worthOf : MethodName := ⟨RX9, "worthOf", "(II)I"⟩
abbrev cX9_fair : ByteArray := prog_11_method_44_code
def yX9_fair : MethodName := ⟨RX9, "fair", "(III)I"⟩
abbrev cX9_does : ByteArray := prog_11_method_45_code
def yX9_does : MethodName := ⟨RX9, "does", "(I)Z"⟩
abbrev cX9_judge : ByteArray := prog_11_method_46_code
def yX9_judge : MethodName := ⟨RX9, "judge", "(II)I"⟩
abbrev cX9_ways : ByteArray := prog_11_method_47_code
def yX9_ways : MethodName := ⟨RX9, "ways", "(I)I"⟩
abbrev cX9_divisor : ByteArray := prog_11_method_48_code
def yX9_divisor : MethodName := ⟨RX9, "divisor", "(II)I"⟩
abbrev cX9_fraction : ByteArray := prog_11_method_49_code
def yX9_fraction : MethodName := ⟨RX9, "fraction", "(IIZ)I"⟩
abbrev cX9_share : ByteArray := prog_11_method_50_code
def yX9_share : MethodName := ⟨RX9, "share", "(IIZ)I"⟩
abbrev cX9_see : ByteArray := prog_11_method_51_code
def yX9_see : MethodName := ⟨RX9, "see", "(II)I"⟩
abbrev cX9_unsee : ByteArray := prog_11_method_52_code
def yX9_unsee : MethodName := ⟨RX9, "unsee", "()I"⟩
abbrev cX9_isSeen : ByteArray := prog_11_method_53_code
def yX9_isSeen : MethodName := ⟨RX9, "isSeen", "()Z"⟩
abbrev cX9_traces : ByteArray := prog_11_method_54_code
def yX9_traces : MethodName := ⟨RX9, "traces", "(I)I"⟩
abbrev cX9_pulled : ByteArray := prog_11_method_55_code
def yX9_pulled : MethodName := ⟨RX9, "pulled", "(III)I"⟩
abbrev cX9_rests : ByteArray := prog_11_method_56_code
def yX9_rests : MethodName := ⟨RX9, "rests", "(I)I"⟩
abbrev cX9_slips : ByteArray := prog_11_method_57_code
def yX9_slips : MethodName := ⟨RX9, "slips", "(IIIZ)I"⟩
abbrev cX9_seed : ByteArray := prog_11_method_58_code
def yX9_seed : MethodName := ⟨RX9, "seed", "(J)J"⟩
abbrev cX9_years : ByteArray := prog_11_method_59_code
def yX9_years : MethodName := ⟨RX9, "years", "(I)I"⟩
abbrev cX9_keep : ByteArray := prog_11_method_60_code
def yX9_keep : MethodName := ⟨RX9, "keep", "(I)I"⟩
abbrev cX9_again : ByteArray := prog_11_method_61_code
def yX9_again : MethodName := ⟨RX9, "again", "(I)I"⟩
def RJ6 : String := "java/lang/Integer"
def TJ6 : u_T := fun k => match k with
  | _ => ("", "", "", false)
def tyJ6 : Nat → FieldType := fun k => match k with
  | _ => .int
abbrev wsJ60 : List Cond := u_ws RJ6 TJ6 0
theorem nmJ6 : ∀ a, a < 0 → ∀ b, b < 0 → a ≠ b → (TJ6 a).2.1 ≠ (TJ6 b).2.1 := by decide +kernel
theorem tyJ6_ok : ∀ k, k < 0 → parseFieldDescriptor (TJ6 k).2.2.1 = some (tyJ6 k) := by decide +kernel
abbrev cJ6_bitCount_0f7a4 : ByteArray := prog_12_method_49_code
def yJ6_bitCount_0f7a4 : MethodName := ⟨RJ6, "bitCount", "(I)I"⟩
def RJ9 : String := "java/lang/Math"
def TJ9 : u_T := fun k => match k with
  | _ => ("", "", "", false)
def tyJ9 : Nat → FieldType := fun k => match k with
  | _ => .int
abbrev wsJ90 : List Cond := u_ws RJ9 TJ9 0
theorem nmJ9 : ∀ a, a < 0 → ∀ b, b < 0 → a ≠ b → (TJ9 a).2.1 ≠ (TJ9 b).2.1 := by decide +kernel
theorem tyJ9_ok : ∀ k, k < 0 → parseFieldDescriptor (TJ9 k).2.2.1 = some (tyJ9 k) := by decide +kernel
abbrev cJ9_abs_0f7a4 : ByteArray := prog_13_method_59_code
def yJ9_abs_0f7a4 : MethodName := ⟨RJ9, "abs", "(I)I"⟩
abbrev cJ9_max_7cf53 : ByteArray := prog_13_method_65_code
def yJ9_max_7cf53 : MethodName := ⟨RJ9, "max", "(II)I"⟩
abbrev cJ9_min_7cf53 : ByteArray := prog_13_method_69_code
def yJ9_min_7cf53 : MethodName := ⟨RJ9, "min", "(II)I"⟩
def RJ10 : String := "java/lang/System"
def TJ10 : u_T := fun k => match k with
  | _ => ("", "", "", false)
def tyJ10 : Nat → FieldType := fun k => match k with
  | _ => .int
abbrev wsJ100 : List Cond := u_ws RJ10 TJ10 0
theorem nmJ10 : ∀ a, a < 0 → ∀ b, b < 0 → a ≠ b → (TJ10 a).2.1 ≠ (TJ10 b).2.1 := by decide +kernel
theorem tyJ10_ok : ∀ k, k < 0 → parseFieldDescriptor (TJ10 k).2.2.1 = some (tyJ10 k) := by decide +kernel
def RJ7 : String := "java/util/Arrays"
def TJ7 : u_T := fun k => match k with
  | _ => ("", "", "", false)
def tyJ7 : Nat → FieldType := fun k => match k with
  | _ => .int
abbrev wsJ70 : List Cond := u_ws RJ7 TJ7 0
theorem nmJ7 : ∀ a, a < 0 → ∀ b, b < 0 → a ≠ b → (TJ7 a).2.1 ≠ (TJ7 b).2.1 := by decide +kernel
theorem tyJ7_ok : ∀ k, k < 0 → parseFieldDescriptor (TJ7 k).2.2.1 = some (tyJ7 k) := by decide +kernel
abbrev cJ7_fill_53178 : ByteArray := prog_15_method_103_code
def yJ7_fill_53178 : MethodName := ⟨RJ7, "fill", "([II)V"⟩
def RL : String := "WireFamilyLaw"
abbrev cL_law : ByteArray := code
def yL_law : MethodName := ⟨RL, "law", "([I)Z"⟩
abbrev vwCl : List vw_C := [(RX0, TX0, 4), (RX1, TX1, 9), (RX2, TX2, 3), (RX3, TX3, 3), (RX4, TX4, 4), (RX5, TX5, 3), (RX6, TX6, 2), (RX7, TX7, 3), (RX8, TX8, 13), (RX9, TX9, 35)]
end
section
theorem dX0_init_0 : decode cX0_init 0 = .ok (.aload_n 0, 1) := by decide +kernel
theorem dX0_init_1 : decode cX0_init 1 = .ok (.invokespecial 3, 3) := by decide +kernel
theorem dX0_init_4 : decode cX0_init 4 = .ok (.aload_n 0, 1) := by decide +kernel
theorem dX0_init_5 : decode cX0_init 5 = .ok (.bipush 14, 2) := by decide +kernel
theorem dX0_init_7 : decode cX0_init 7 = .ok (.newarray .int, 2) := by decide +kernel
theorem dX0_init_9 : decode cX0_init 9 = .ok (.putfield 9, 3) := by decide +kernel
theorem dX0_init_12 : decode cX0_init 12 = .ok (.aload_n 0, 1) := by decide +kernel
theorem dX0_init_13 : decode cX0_init 13 = .ok (.bipush 14, 2) := by decide +kernel
theorem dX0_init_15 : decode cX0_init 15 = .ok (.newarray .int, 2) := by decide +kernel
theorem dX0_init_17 : decode cX0_init 17 = .ok (.putfield 15, 3) := by decide +kernel
theorem dX0_init_20 : decode cX0_init 20 = .ok (.aload_n 0, 1) := by decide +kernel
theorem dX0_init_21 : decode cX0_init 21 = .ok (.bipush 14, 2) := by decide +kernel
theorem dX0_init_23 : decode cX0_init 23 = .ok (.newarray .int, 2) := by decide +kernel
theorem dX0_init_25 : decode cX0_init 25 = .ok (.putfield 18, 3) := by decide +kernel
theorem dX0_init_28 : decode cX0_init 28 = .ok (.return_, 1) := by decide +kernel
theorem dX0_forget_0 : decode cX0_forget 0 = .ok (.aload_n 0, 1) := by decide +kernel
theorem dX0_forget_1 : decode cX0_forget 1 = .ok (.iconst 0, 1) := by decide +kernel
theorem dX0_forget_2 : decode cX0_forget 2 = .ok (.putfield 21, 3) := by decide +kernel
theorem dX0_forget_5 : decode cX0_forget 5 = .ok (.return_, 1) := by decide +kernel
theorem dX0_note_0 : decode cX0_note 0 = .ok (.aload_n 0, 1) := by decide +kernel
theorem dX0_note_1 : decode cX0_note 1 = .ok (.getfield 21, 3) := by decide +kernel
theorem dX0_note_4 : decode cX0_note 4 = .ok (.bipush 14, 2) := by decide +kernel
theorem dX0_note_6 : decode cX0_note 6 = .ok (.if_icmp .lt 7, 3) := by decide +kernel
theorem dX0_note_9 : decode cX0_note 9 = .ok (.aload_n 0, 1) := by decide +kernel
theorem dX0_note_10 : decode cX0_note 10 = .ok (.invokevirtual 25, 3) := by decide +kernel
theorem dX0_note_13 : decode cX0_note 13 = .ok (.aload_n 0, 1) := by decide +kernel
theorem dX0_note_14 : decode cX0_note 14 = .ok (.getfield 9, 3) := by decide +kernel
theorem dX0_note_17 : decode cX0_note 17 = .ok (.aload_n 0, 1) := by decide +kernel
theorem dX0_note_18 : decode cX0_note 18 = .ok (.getfield 21, 3) := by decide +kernel
theorem dX0_note_21 : decode cX0_note 21 = .ok (.iload_n 1, 1) := by decide +kernel
theorem dX0_note_22 : decode cX0_note 22 = .ok (.iastore, 1) := by decide +kernel
theorem dX0_note_23 : decode cX0_note 23 = .ok (.aload_n 0, 1) := by decide +kernel
theorem dX0_note_24 : decode cX0_note 24 = .ok (.getfield 15, 3) := by decide +kernel
theorem dX0_note_27 : decode cX0_note 27 = .ok (.aload_n 0, 1) := by decide +kernel
theorem dX0_note_28 : decode cX0_note 28 = .ok (.getfield 21, 3) := by decide +kernel
theorem dX0_note_31 : decode cX0_note 31 = .ok (.iload_n 2, 1) := by decide +kernel
theorem dX0_note_32 : decode cX0_note 32 = .ok (.iastore, 1) := by decide +kernel
theorem dX0_note_33 : decode cX0_note 33 = .ok (.aload_n 0, 1) := by decide +kernel
theorem dX0_note_34 : decode cX0_note 34 = .ok (.getfield 18, 3) := by decide +kernel
theorem dX0_note_37 : decode cX0_note 37 = .ok (.aload_n 0, 1) := by decide +kernel
theorem dX0_note_38 : decode cX0_note 38 = .ok (.getfield 21, 3) := by decide +kernel
theorem dX0_note_41 : decode cX0_note 41 = .ok (.iload_n 3, 1) := by decide +kernel
theorem dX0_note_42 : decode cX0_note 42 = .ok (.iastore, 1) := by decide +kernel
theorem dX0_note_43 : decode cX0_note 43 = .ok (.aload_n 0, 1) := by decide +kernel
theorem dX0_note_44 : decode cX0_note 44 = .ok (.dup, 1) := by decide +kernel
theorem dX0_note_45 : decode cX0_note 45 = .ok (.getfield 21, 3) := by decide +kernel
theorem dX0_note_48 : decode cX0_note 48 = .ok (.iconst 1, 1) := by decide +kernel
theorem dX0_note_49 : decode cX0_note 49 = .ok (.iadd, 1) := by decide +kernel
theorem dX0_note_50 : decode cX0_note 50 = .ok (.putfield 21, 3) := by decide +kernel
theorem dX0_note_53 : decode cX0_note 53 = .ok (.return_, 1) := by decide +kernel
theorem dX0_forgetFirst_0 : decode cX0_forgetFirst 0 = .ok (.aload_n 0, 1) := by decide +kernel
theorem dX0_forgetFirst_1 : decode cX0_forgetFirst 1 = .ok (.bipush 13, 2) := by decide +kernel
theorem dX0_forgetFirst_3 : decode cX0_forgetFirst 3 = .ok (.putfield 21, 3) := by decide +kernel
theorem dX0_forgetFirst_6 : decode cX0_forgetFirst 6 = .ok (.aload_n 0, 1) := by decide +kernel
theorem dX0_forgetFirst_7 : decode cX0_forgetFirst 7 = .ok (.getfield 9, 3) := by decide +kernel
theorem dX0_forgetFirst_10 : decode cX0_forgetFirst 10 = .ok (.iconst 1, 1) := by decide +kernel
theorem dX0_forgetFirst_11 : decode cX0_forgetFirst 11 = .ok (.aload_n 0, 1) := by decide +kernel
theorem dX0_forgetFirst_12 : decode cX0_forgetFirst 12 = .ok (.getfield 9, 3) := by decide +kernel
theorem dX0_forgetFirst_15 : decode cX0_forgetFirst 15 = .ok (.iconst 0, 1) := by decide +kernel
theorem dX0_forgetFirst_16 : decode cX0_forgetFirst 16 = .ok (.aload_n 0, 1) := by decide +kernel
theorem dX0_forgetFirst_17 : decode cX0_forgetFirst 17 = .ok (.getfield 21, 3) := by decide +kernel
theorem dX0_forgetFirst_20 : decode cX0_forgetFirst 20 = .ok (.invokestatic 28, 3) := by decide +kernel
theorem dX0_forgetFirst_23 : decode cX0_forgetFirst 23 = .ok (.aload_n 0, 1) := by decide +kernel
theorem dX0_forgetFirst_24 : decode cX0_forgetFirst 24 = .ok (.getfield 15, 3) := by decide +kernel
theorem dX0_forgetFirst_27 : decode cX0_forgetFirst 27 = .ok (.iconst 1, 1) := by decide +kernel
theorem dX0_forgetFirst_28 : decode cX0_forgetFirst 28 = .ok (.aload_n 0, 1) := by decide +kernel
theorem dX0_forgetFirst_29 : decode cX0_forgetFirst 29 = .ok (.getfield 15, 3) := by decide +kernel
theorem dX0_forgetFirst_32 : decode cX0_forgetFirst 32 = .ok (.iconst 0, 1) := by decide +kernel
theorem dX0_forgetFirst_33 : decode cX0_forgetFirst 33 = .ok (.aload_n 0, 1) := by decide +kernel
theorem dX0_forgetFirst_34 : decode cX0_forgetFirst 34 = .ok (.getfield 21, 3) := by decide +kernel
theorem dX0_forgetFirst_37 : decode cX0_forgetFirst 37 = .ok (.invokestatic 28, 3) := by decide +kernel
theorem dX0_forgetFirst_40 : decode cX0_forgetFirst 40 = .ok (.aload_n 0, 1) := by decide +kernel
theorem dX0_forgetFirst_41 : decode cX0_forgetFirst 41 = .ok (.getfield 18, 3) := by decide +kernel
theorem dX0_forgetFirst_44 : decode cX0_forgetFirst 44 = .ok (.iconst 1, 1) := by decide +kernel
theorem dX0_forgetFirst_45 : decode cX0_forgetFirst 45 = .ok (.aload_n 0, 1) := by decide +kernel
theorem dX0_forgetFirst_46 : decode cX0_forgetFirst 46 = .ok (.getfield 18, 3) := by decide +kernel
theorem dX0_forgetFirst_49 : decode cX0_forgetFirst 49 = .ok (.iconst 0, 1) := by decide +kernel
theorem dX0_forgetFirst_50 : decode cX0_forgetFirst 50 = .ok (.aload_n 0, 1) := by decide +kernel
theorem dX0_forgetFirst_51 : decode cX0_forgetFirst 51 = .ok (.getfield 21, 3) := by decide +kernel
theorem dX0_forgetFirst_54 : decode cX0_forgetFirst 54 = .ok (.invokestatic 28, 3) := by decide +kernel
theorem dX0_forgetFirst_57 : decode cX0_forgetFirst 57 = .ok (.return_, 1) := by decide +kernel
theorem dX0_takeBack_0 : decode cX0_takeBack 0 = .ok (.aload_n 0, 1) := by decide +kernel
theorem dX0_takeBack_1 : decode cX0_takeBack 1 = .ok (.getfield 21, 3) := by decide +kernel
theorem dX0_takeBack_4 : decode cX0_takeBack 4 = .ok (.ifCond .gt 4, 3) := by decide +kernel
theorem dX0_takeBack_7 : decode cX0_takeBack 7 = .ok (.return_, 1) := by decide +kernel
theorem dX0_takeBack_8 : decode cX0_takeBack 8 = .ok (.aload_n 0, 1) := by decide +kernel
theorem dX0_takeBack_9 : decode cX0_takeBack 9 = .ok (.dup, 1) := by decide +kernel
theorem dX0_takeBack_10 : decode cX0_takeBack 10 = .ok (.getfield 21, 3) := by decide +kernel
theorem dX0_takeBack_13 : decode cX0_takeBack 13 = .ok (.iconst 1, 1) := by decide +kernel
theorem dX0_takeBack_14 : decode cX0_takeBack 14 = .ok (.isub, 1) := by decide +kernel
theorem dX0_takeBack_15 : decode cX0_takeBack 15 = .ok (.putfield 21, 3) := by decide +kernel
theorem dX0_takeBack_18 : decode cX0_takeBack 18 = .ok (.aload_n 1, 1) := by decide +kernel
theorem dX0_takeBack_19 : decode cX0_takeBack 19 = .ok (.aload_n 0, 1) := by decide +kernel
theorem dX0_takeBack_20 : decode cX0_takeBack 20 = .ok (.getfield 15, 3) := by decide +kernel
theorem dX0_takeBack_23 : decode cX0_takeBack 23 = .ok (.aload_n 0, 1) := by decide +kernel
theorem dX0_takeBack_24 : decode cX0_takeBack 24 = .ok (.getfield 21, 3) := by decide +kernel
theorem dX0_takeBack_27 : decode cX0_takeBack 27 = .ok (.iaload, 1) := by decide +kernel
theorem dX0_takeBack_28 : decode cX0_takeBack 28 = .ok (.invokevirtual 34, 3) := by decide +kernel
theorem dX0_takeBack_31 : decode cX0_takeBack 31 = .ok (.aload_n 1, 1) := by decide +kernel
theorem dX0_takeBack_32 : decode cX0_takeBack 32 = .ok (.aload_n 0, 1) := by decide +kernel
theorem dX0_takeBack_33 : decode cX0_takeBack 33 = .ok (.getfield 18, 3) := by decide +kernel
theorem dX0_takeBack_36 : decode cX0_takeBack 36 = .ok (.aload_n 0, 1) := by decide +kernel
theorem dX0_takeBack_37 : decode cX0_takeBack 37 = .ok (.getfield 21, 3) := by decide +kernel
theorem dX0_takeBack_40 : decode cX0_takeBack 40 = .ok (.iaload, 1) := by decide +kernel
theorem dX0_takeBack_41 : decode cX0_takeBack 41 = .ok (.putfield 40, 3) := by decide +kernel
theorem dX0_takeBack_44 : decode cX0_takeBack 44 = .ok (.aload_n 1, 1) := by decide +kernel
theorem dX0_takeBack_45 : decode cX0_takeBack 45 = .ok (.aload_n 0, 1) := by decide +kernel
theorem dX0_takeBack_46 : decode cX0_takeBack 46 = .ok (.getfield 9, 3) := by decide +kernel
theorem dX0_takeBack_49 : decode cX0_takeBack 49 = .ok (.aload_n 0, 1) := by decide +kernel
theorem dX0_takeBack_50 : decode cX0_takeBack 50 = .ok (.getfield 21, 3) := by decide +kernel
theorem dX0_takeBack_53 : decode cX0_takeBack 53 = .ok (.iaload, 1) := by decide +kernel
theorem dX0_takeBack_54 : decode cX0_takeBack 54 = .ok (.invokevirtual 43, 3) := by decide +kernel
theorem dX0_takeBack_57 : decode cX0_takeBack 57 = .ok (.pop, 1) := by decide +kernel
theorem dX0_takeBack_58 : decode cX0_takeBack 58 = .ok (.return_, 1) := by decide +kernel
theorem dX1_init_0 : decode cX1_init 0 = .ok (.aload_n 0, 1) := by decide +kernel
theorem dX1_init_1 : decode cX1_init 1 = .ok (.invokespecial 3, 3) := by decide +kernel
theorem dX1_init_4 : decode cX1_init 4 = .ok (.aload_n 0, 1) := by decide +kernel
theorem dX1_init_5 : decode cX1_init 5 = .ok (.iconst 5, 1) := by decide +kernel
theorem dX1_init_6 : decode cX1_init 6 = .ok (.newarray .int, 2) := by decide +kernel
theorem dX1_init_8 : decode cX1_init 8 = .ok (.putfield 9, 3) := by decide +kernel
theorem dX1_init_11 : decode cX1_init 11 = .ok (.aload_n 0, 1) := by decide +kernel
theorem dX1_init_12 : decode cX1_init 12 = .ok (.bipush 25, 2) := by decide +kernel
theorem dX1_init_14 : decode cX1_init 14 = .ok (.newarray .int, 2) := by decide +kernel
theorem dX1_init_16 : decode cX1_init 16 = .ok (.putfield 15, 3) := by decide +kernel
theorem dX1_init_19 : decode cX1_init 19 = .ok (.aload_n 0, 1) := by decide +kernel
theorem dX1_init_20 : decode cX1_init 20 = .ok (.iconst 4, 1) := by decide +kernel
theorem dX1_init_21 : decode cX1_init 21 = .ok (.newarray .int, 2) := by decide +kernel
theorem dX1_init_23 : decode cX1_init 23 = .ok (.putfield 18, 3) := by decide +kernel
theorem dX1_init_26 : decode cX1_init 26 = .ok (.aload_n 0, 1) := by decide +kernel
theorem dX1_init_27 : decode cX1_init 27 = .ok (.iconst 4, 1) := by decide +kernel
theorem dX1_init_28 : decode cX1_init 28 = .ok (.newarray .int, 2) := by decide +kernel
theorem dX1_init_30 : decode cX1_init 30 = .ok (.putfield 21, 3) := by decide +kernel
theorem dX1_init_33 : decode cX1_init 33 = .ok (.return_, 1) := by decide +kernel
theorem dX1_begin_0 : decode cX1_begin 0 = .ok (.aload_n 0, 1) := by decide +kernel
theorem dX1_begin_1 : decode cX1_begin 1 = .ok (.iconst 0, 1) := by decide +kernel
theorem dX1_begin_2 : decode cX1_begin 2 = .ok (.putfield 24, 3) := by decide +kernel
theorem dX1_begin_5 : decode cX1_begin 5 = .ok (.aload_n 0, 1) := by decide +kernel
theorem dX1_begin_6 : decode cX1_begin 6 = .ok (.iconst 0, 1) := by decide +kernel
theorem dX1_begin_7 : decode cX1_begin 7 = .ok (.putfield 28, 3) := by decide +kernel
theorem dX1_begin_10 : decode cX1_begin 10 = .ok (.aload_n 0, 1) := by decide +kernel
theorem dX1_begin_11 : decode cX1_begin 11 = .ok (.iconst 0, 1) := by decide +kernel
theorem dX1_begin_12 : decode cX1_begin 12 = .ok (.putfield 31, 3) := by decide +kernel
theorem dX1_begin_15 : decode cX1_begin 15 = .ok (.aload_n 0, 1) := by decide +kernel
theorem dX1_begin_16 : decode cX1_begin 16 = .ok (.iconst 0, 1) := by decide +kernel
theorem dX1_begin_17 : decode cX1_begin 17 = .ok (.putfield 34, 3) := by decide +kernel
theorem dX1_begin_20 : decode cX1_begin 20 = .ok (.aload_n 0, 1) := by decide +kernel
theorem dX1_begin_21 : decode cX1_begin 21 = .ok (.iconst 0, 1) := by decide +kernel
theorem dX1_begin_22 : decode cX1_begin 22 = .ok (.putfield 37, 3) := by decide +kernel
theorem dX1_begin_25 : decode cX1_begin 25 = .ok (.return_, 1) := by decide +kernel
theorem dX1_isWhole_0 : decode cX1_isWhole 0 = .ok (.aload_n 0, 1) := by decide +kernel
theorem dX1_isWhole_1 : decode cX1_isWhole 1 = .ok (.getfield 37, 3) := by decide +kernel
theorem dX1_isWhole_4 : decode cX1_isWhole 4 = .ok (.iconst 1, 1) := by decide +kernel
theorem dX1_isWhole_5 : decode cX1_isWhole 5 = .ok (.if_icmp .ne 7, 3) := by decide +kernel
theorem dX1_isWhole_8 : decode cX1_isWhole 8 = .ok (.iconst 1, 1) := by decide +kernel
theorem dX1_isWhole_9 : decode cX1_isWhole 9 = .ok (.goto 4, 3) := by decide +kernel
theorem dX1_isWhole_12 : decode cX1_isWhole 12 = .ok (.iconst 0, 1) := by decide +kernel
theorem dX1_isWhole_13 : decode cX1_isWhole 13 = .ok (.ireturn, 1) := by decide +kernel
theorem dX1_take_0 : decode cX1_take 0 = .ok (.aload_n 0, 1) := by decide +kernel
theorem dX1_take_1 : decode cX1_take 1 = .ok (.getfield 37, 3) := by decide +kernel
theorem dX1_take_4 : decode cX1_take 4 = .ok (.tableswitch 75 0 4 #[36, 42, 48, 57, 66], 36) := by decide +kernel
theorem dX1_take_40 : decode cX1_take 40 = .ok (.aload_n 0, 1) := by decide +kernel
theorem dX1_take_41 : decode cX1_take 41 = .ok (.iload_n 1, 1) := by decide +kernel
theorem dX1_take_42 : decode cX1_take 42 = .ok (.invokevirtual 40, 3) := by decide +kernel
theorem dX1_take_45 : decode cX1_take 45 = .ok (.ireturn, 1) := by decide +kernel
theorem dX1_take_46 : decode cX1_take 46 = .ok (.aload_n 0, 1) := by decide +kernel
theorem dX1_take_47 : decode cX1_take 47 = .ok (.iload_n 1, 1) := by decide +kernel
theorem dX1_take_48 : decode cX1_take 48 = .ok (.invokevirtual 44, 3) := by decide +kernel
theorem dX1_take_51 : decode cX1_take 51 = .ok (.ireturn, 1) := by decide +kernel
theorem dX1_take_52 : decode cX1_take 52 = .ok (.aload_n 0, 1) := by decide +kernel
theorem dX1_take_53 : decode cX1_take 53 = .ok (.iload_n 1, 1) := by decide +kernel
theorem dX1_take_54 : decode cX1_take 54 = .ok (.bipush 48, 2) := by decide +kernel
theorem dX1_take_56 : decode cX1_take 56 = .ok (.isub, 1) := by decide +kernel
theorem dX1_take_57 : decode cX1_take 57 = .ok (.invokevirtual 47, 3) := by decide +kernel
theorem dX1_take_60 : decode cX1_take 60 = .ok (.ireturn, 1) := by decide +kernel
theorem dX1_take_61 : decode cX1_take 61 = .ok (.aload_n 0, 1) := by decide +kernel
theorem dX1_take_62 : decode cX1_take 62 = .ok (.iload_n 1, 1) := by decide +kernel
theorem dX1_take_63 : decode cX1_take 63 = .ok (.bipush 97, 2) := by decide +kernel
theorem dX1_take_65 : decode cX1_take 65 = .ok (.isub, 1) := by decide +kernel
theorem dX1_take_66 : decode cX1_take 66 = .ok (.invokevirtual 50, 3) := by decide +kernel
theorem dX1_take_69 : decode cX1_take 69 = .ok (.ireturn, 1) := by decide +kernel
theorem dX1_take_70 : decode cX1_take 70 = .ok (.aload_n 0, 1) := by decide +kernel
theorem dX1_take_71 : decode cX1_take 71 = .ok (.iload_n 1, 1) := by decide +kernel
theorem dX1_take_72 : decode cX1_take 72 = .ok (.bipush 48, 2) := by decide +kernel
theorem dX1_take_74 : decode cX1_take 74 = .ok (.isub, 1) := by decide +kernel
theorem dX1_take_75 : decode cX1_take 75 = .ok (.invokevirtual 53, 3) := by decide +kernel
theorem dX1_take_78 : decode cX1_take 78 = .ok (.ireturn, 1) := by decide +kernel
theorem dX1_take_79 : decode cX1_take 79 = .ok (.aload_n 0, 1) := by decide +kernel
theorem dX1_take_80 : decode cX1_take 80 = .ok (.iload_n 1, 1) := by decide +kernel
theorem dX1_take_81 : decode cX1_take 81 = .ok (.bipush 48, 2) := by decide +kernel
theorem dX1_take_83 : decode cX1_take 83 = .ok (.isub, 1) := by decide +kernel
theorem dX1_take_84 : decode cX1_take 84 = .ok (.invokevirtual 56, 3) := by decide +kernel
theorem dX1_take_87 : decode cX1_take 87 = .ok (.ireturn, 1) := by decide +kernel
theorem dX1_takeStart_0 : decode cX1_takeStart 0 = .ok (.iload_n 1, 1) := by decide +kernel
theorem dX1_takeStart_1 : decode cX1_takeStart 1 = .ok (.bipush 70, 2) := by decide +kernel
theorem dX1_takeStart_3 : decode cX1_takeStart 3 = .ok (.if_icmp .eq 5, 3) := by decide +kernel
theorem dX1_takeStart_6 : decode cX1_takeStart 6 = .ok (.iconst 0, 1) := by decide +kernel
theorem dX1_takeStart_7 : decode cX1_takeStart 7 = .ok (.ireturn, 1) := by decide +kernel
theorem dX1_takeStart_8 : decode cX1_takeStart 8 = .ok (.aload_n 0, 1) := by decide +kernel
theorem dX1_takeStart_9 : decode cX1_takeStart 9 = .ok (.iconst 1, 1) := by decide +kernel
theorem dX1_takeStart_10 : decode cX1_takeStart 10 = .ok (.putfield 37, 3) := by decide +kernel
theorem dX1_takeStart_13 : decode cX1_takeStart 13 = .ok (.iconst 1, 1) := by decide +kernel
theorem dX1_takeStart_14 : decode cX1_takeStart 14 = .ok (.ireturn, 1) := by decide +kernel
theorem dX1_takeThing_0 : decode cX1_takeThing 0 = .ok (.iload_n 1, 1) := by decide +kernel
theorem dX1_takeThing_1 : decode cX1_takeThing 1 = .ok (.bipush 75, 2) := by decide +kernel
theorem dX1_takeThing_3 : decode cX1_takeThing 3 = .ok (.if_icmp .ne 18, 3) := by decide +kernel
theorem dX1_takeThing_6 : decode cX1_takeThing 6 = .ok (.aload_n 0, 1) := by decide +kernel
theorem dX1_takeThing_7 : decode cX1_takeThing 7 = .ok (.getfield 24, 3) := by decide +kernel
theorem dX1_takeThing_10 : decode cX1_takeThing 10 = .ok (.iconst 5, 1) := by decide +kernel
theorem dX1_takeThing_11 : decode cX1_takeThing 11 = .ok (.if_icmp .ge 10, 3) := by decide +kernel
theorem dX1_takeThing_14 : decode cX1_takeThing 14 = .ok (.aload_n 0, 1) := by decide +kernel
theorem dX1_takeThing_15 : decode cX1_takeThing 15 = .ok (.iconst 2, 1) := by decide +kernel
theorem dX1_takeThing_16 : decode cX1_takeThing 16 = .ok (.putfield 37, 3) := by decide +kernel
theorem dX1_takeThing_19 : decode cX1_takeThing 19 = .ok (.iconst 1, 1) := by decide +kernel
theorem dX1_takeThing_20 : decode cX1_takeThing 20 = .ok (.ireturn, 1) := by decide +kernel
theorem dX1_takeThing_21 : decode cX1_takeThing 21 = .ok (.iload_n 1, 1) := by decide +kernel
theorem dX1_takeThing_22 : decode cX1_takeThing 22 = .ok (.bipush 82, 2) := by decide +kernel
theorem dX1_takeThing_24 : decode cX1_takeThing 24 = .ok (.if_icmp .ne 30, 3) := by decide +kernel
theorem dX1_takeThing_27 : decode cX1_takeThing 27 = .ok (.aload_n 0, 1) := by decide +kernel
theorem dX1_takeThing_28 : decode cX1_takeThing 28 = .ok (.getfield 28, 3) := by decide +kernel
theorem dX1_takeThing_31 : decode cX1_takeThing 31 = .ok (.iconst 5, 1) := by decide +kernel
theorem dX1_takeThing_32 : decode cX1_takeThing 32 = .ok (.if_icmp .ge 22, 3) := by decide +kernel
theorem dX1_takeThing_35 : decode cX1_takeThing 35 = .ok (.aload_n 0, 1) := by decide +kernel
theorem dX1_takeThing_36 : decode cX1_takeThing 36 = .ok (.getfield 24, 3) := by decide +kernel
theorem dX1_takeThing_39 : decode cX1_takeThing 39 = .ok (.ifCond .le 15, 3) := by decide +kernel
theorem dX1_takeThing_42 : decode cX1_takeThing 42 = .ok (.aload_n 0, 1) := by decide +kernel
theorem dX1_takeThing_43 : decode cX1_takeThing 43 = .ok (.iconst 3, 1) := by decide +kernel
theorem dX1_takeThing_44 : decode cX1_takeThing 44 = .ok (.putfield 37, 3) := by decide +kernel
theorem dX1_takeThing_47 : decode cX1_takeThing 47 = .ok (.aload_n 0, 1) := by decide +kernel
theorem dX1_takeThing_48 : decode cX1_takeThing 48 = .ok (.iconst 0, 1) := by decide +kernel
theorem dX1_takeThing_49 : decode cX1_takeThing 49 = .ok (.putfield 34, 3) := by decide +kernel
theorem dX1_takeThing_52 : decode cX1_takeThing 52 = .ok (.iconst 1, 1) := by decide +kernel
theorem dX1_takeThing_53 : decode cX1_takeThing 53 = .ok (.ireturn, 1) := by decide +kernel
theorem dX1_takeThing_54 : decode cX1_takeThing 54 = .ok (.iload_n 1, 1) := by decide +kernel
theorem dX1_takeThing_55 : decode cX1_takeThing 55 = .ok (.bipush 68, 2) := by decide +kernel
theorem dX1_takeThing_57 : decode cX1_takeThing 57 = .ok (.if_icmp .ne 18, 3) := by decide +kernel
theorem dX1_takeThing_60 : decode cX1_takeThing 60 = .ok (.aload_n 0, 1) := by decide +kernel
theorem dX1_takeThing_61 : decode cX1_takeThing 61 = .ok (.getfield 31, 3) := by decide +kernel
theorem dX1_takeThing_64 : decode cX1_takeThing 64 = .ok (.iconst 4, 1) := by decide +kernel
theorem dX1_takeThing_65 : decode cX1_takeThing 65 = .ok (.if_icmp .ge 10, 3) := by decide +kernel
theorem dX1_takeThing_68 : decode cX1_takeThing 68 = .ok (.aload_n 0, 1) := by decide +kernel
theorem dX1_takeThing_69 : decode cX1_takeThing 69 = .ok (.iconst 4, 1) := by decide +kernel
theorem dX1_takeThing_70 : decode cX1_takeThing 70 = .ok (.putfield 37, 3) := by decide +kernel
theorem dX1_takeThing_73 : decode cX1_takeThing 73 = .ok (.iconst 1, 1) := by decide +kernel
theorem dX1_takeThing_74 : decode cX1_takeThing 74 = .ok (.ireturn, 1) := by decide +kernel
theorem dX1_takeThing_75 : decode cX1_takeThing 75 = .ok (.iconst 0, 1) := by decide +kernel
theorem dX1_takeThing_76 : decode cX1_takeThing 76 = .ok (.ireturn, 1) := by decide +kernel
theorem dX1_takeKind_0 : decode cX1_takeKind 0 = .ok (.iload_n 1, 1) := by decide +kernel
theorem dX1_takeKind_1 : decode cX1_takeKind 1 = .ok (.ifCond .lt 16, 3) := by decide +kernel
theorem dX1_takeKind_4 : decode cX1_takeKind 4 = .ok (.iload_n 1, 1) := by decide +kernel
theorem dX1_takeKind_5 : decode cX1_takeKind 5 = .ok (.iconst 4, 1) := by decide +kernel
theorem dX1_takeKind_6 : decode cX1_takeKind 6 = .ok (.if_icmp .ge 11, 3) := by decide +kernel
theorem dX1_takeKind_9 : decode cX1_takeKind 9 = .ok (.aload_n 0, 1) := by decide +kernel
theorem dX1_takeKind_10 : decode cX1_takeKind 10 = .ok (.getfield 24, 3) := by decide +kernel
theorem dX1_takeKind_13 : decode cX1_takeKind 13 = .ok (.iconst 5, 1) := by decide +kernel
theorem dX1_takeKind_14 : decode cX1_takeKind 14 = .ok (.if_icmp .lt 5, 3) := by decide +kernel
theorem dX1_takeKind_17 : decode cX1_takeKind 17 = .ok (.iconst 0, 1) := by decide +kernel
theorem dX1_takeKind_18 : decode cX1_takeKind 18 = .ok (.ireturn, 1) := by decide +kernel
theorem dX1_takeKind_19 : decode cX1_takeKind 19 = .ok (.aload_n 0, 1) := by decide +kernel
theorem dX1_takeKind_20 : decode cX1_takeKind 20 = .ok (.getfield 9, 3) := by decide +kernel
theorem dX1_takeKind_23 : decode cX1_takeKind 23 = .ok (.aload_n 0, 1) := by decide +kernel
theorem dX1_takeKind_24 : decode cX1_takeKind 24 = .ok (.getfield 24, 3) := by decide +kernel
theorem dX1_takeKind_27 : decode cX1_takeKind 27 = .ok (.iload_n 1, 1) := by decide +kernel
theorem dX1_takeKind_28 : decode cX1_takeKind 28 = .ok (.iastore, 1) := by decide +kernel
theorem dX1_takeKind_29 : decode cX1_takeKind 29 = .ok (.aload_n 0, 1) := by decide +kernel
theorem dX1_takeKind_30 : decode cX1_takeKind 30 = .ok (.dup, 1) := by decide +kernel
theorem dX1_takeKind_31 : decode cX1_takeKind 31 = .ok (.getfield 24, 3) := by decide +kernel
theorem dX1_takeKind_34 : decode cX1_takeKind 34 = .ok (.iconst 1, 1) := by decide +kernel
theorem dX1_takeKind_35 : decode cX1_takeKind 35 = .ok (.iadd, 1) := by decide +kernel
theorem dX1_takeKind_36 : decode cX1_takeKind 36 = .ok (.putfield 24, 3) := by decide +kernel
theorem dX1_takeKind_39 : decode cX1_takeKind 39 = .ok (.aload_n 0, 1) := by decide +kernel
theorem dX1_takeKind_40 : decode cX1_takeKind 40 = .ok (.iconst 1, 1) := by decide +kernel
theorem dX1_takeKind_41 : decode cX1_takeKind 41 = .ok (.putfield 37, 3) := by decide +kernel
theorem dX1_takeKind_44 : decode cX1_takeKind 44 = .ok (.iconst 1, 1) := by decide +kernel
theorem dX1_takeKind_45 : decode cX1_takeKind 45 = .ok (.ireturn, 1) := by decide +kernel
theorem dX1_takeCell_0 : decode cX1_takeCell 0 = .ok (.iload_n 1, 1) := by decide +kernel
theorem dX1_takeCell_1 : decode cX1_takeCell 1 = .ok (.ifCond .lt 29, 3) := by decide +kernel
theorem dX1_takeCell_4 : decode cX1_takeCell 4 = .ok (.iload_n 1, 1) := by decide +kernel
theorem dX1_takeCell_5 : decode cX1_takeCell 5 = .ok (.aload_n 0, 1) := by decide +kernel
theorem dX1_takeCell_6 : decode cX1_takeCell 6 = .ok (.getfield 24, 3) := by decide +kernel
theorem dX1_takeCell_9 : decode cX1_takeCell 9 = .ok (.iconst 4, 1) := by decide +kernel
theorem dX1_takeCell_10 : decode cX1_takeCell 10 = .ok (.imul, 1) := by decide +kernel
theorem dX1_takeCell_11 : decode cX1_takeCell 11 = .ok (.if_icmp .ge 19, 3) := by decide +kernel
theorem dX1_takeCell_14 : decode cX1_takeCell 14 = .ok (.aload_n 0, 1) := by decide +kernel
theorem dX1_takeCell_15 : decode cX1_takeCell 15 = .ok (.getfield 28, 3) := by decide +kernel
theorem dX1_takeCell_18 : decode cX1_takeCell 18 = .ok (.iconst 5, 1) := by decide +kernel
theorem dX1_takeCell_19 : decode cX1_takeCell 19 = .ok (.if_icmp .ge 11, 3) := by decide +kernel
theorem dX1_takeCell_22 : decode cX1_takeCell 22 = .ok (.aload_n 0, 1) := by decide +kernel
theorem dX1_takeCell_23 : decode cX1_takeCell 23 = .ok (.getfield 34, 3) := by decide +kernel
theorem dX1_takeCell_26 : decode cX1_takeCell 26 = .ok (.iconst 5, 1) := by decide +kernel
theorem dX1_takeCell_27 : decode cX1_takeCell 27 = .ok (.if_icmp .lt 5, 3) := by decide +kernel
theorem dX1_takeCell_30 : decode cX1_takeCell 30 = .ok (.iconst 0, 1) := by decide +kernel
theorem dX1_takeCell_31 : decode cX1_takeCell 31 = .ok (.ireturn, 1) := by decide +kernel
theorem dX1_takeCell_32 : decode cX1_takeCell 32 = .ok (.aload_n 0, 1) := by decide +kernel
theorem dX1_takeCell_33 : decode cX1_takeCell 33 = .ok (.getfield 15, 3) := by decide +kernel
theorem dX1_takeCell_36 : decode cX1_takeCell 36 = .ok (.aload_n 0, 1) := by decide +kernel
theorem dX1_takeCell_37 : decode cX1_takeCell 37 = .ok (.getfield 28, 3) := by decide +kernel
theorem dX1_takeCell_40 : decode cX1_takeCell 40 = .ok (.iconst 5, 1) := by decide +kernel
theorem dX1_takeCell_41 : decode cX1_takeCell 41 = .ok (.imul, 1) := by decide +kernel
theorem dX1_takeCell_42 : decode cX1_takeCell 42 = .ok (.aload_n 0, 1) := by decide +kernel
theorem dX1_takeCell_43 : decode cX1_takeCell 43 = .ok (.getfield 34, 3) := by decide +kernel
theorem dX1_takeCell_46 : decode cX1_takeCell 46 = .ok (.iadd, 1) := by decide +kernel
theorem dX1_takeCell_47 : decode cX1_takeCell 47 = .ok (.iload_n 1, 1) := by decide +kernel
theorem dX1_takeCell_48 : decode cX1_takeCell 48 = .ok (.iastore, 1) := by decide +kernel
theorem dX1_takeCell_49 : decode cX1_takeCell 49 = .ok (.aload_n 0, 1) := by decide +kernel
theorem dX1_takeCell_50 : decode cX1_takeCell 50 = .ok (.dup, 1) := by decide +kernel
theorem dX1_takeCell_51 : decode cX1_takeCell 51 = .ok (.getfield 34, 3) := by decide +kernel
theorem dX1_takeCell_54 : decode cX1_takeCell 54 = .ok (.iconst 1, 1) := by decide +kernel
theorem dX1_takeCell_55 : decode cX1_takeCell 55 = .ok (.iadd, 1) := by decide +kernel
theorem dX1_takeCell_56 : decode cX1_takeCell 56 = .ok (.putfield 34, 3) := by decide +kernel
theorem dX1_takeCell_59 : decode cX1_takeCell 59 = .ok (.aload_n 0, 1) := by decide +kernel
theorem dX1_takeCell_60 : decode cX1_takeCell 60 = .ok (.getfield 34, 3) := by decide +kernel
theorem dX1_takeCell_63 : decode cX1_takeCell 63 = .ok (.iconst 5, 1) := by decide +kernel
theorem dX1_takeCell_64 : decode cX1_takeCell 64 = .ok (.if_icmp .ne 18, 3) := by decide +kernel
theorem dX1_takeCell_67 : decode cX1_takeCell 67 = .ok (.aload_n 0, 1) := by decide +kernel
theorem dX1_takeCell_68 : decode cX1_takeCell 68 = .ok (.dup, 1) := by decide +kernel
theorem dX1_takeCell_69 : decode cX1_takeCell 69 = .ok (.getfield 28, 3) := by decide +kernel
theorem dX1_takeCell_72 : decode cX1_takeCell 72 = .ok (.iconst 1, 1) := by decide +kernel
theorem dX1_takeCell_73 : decode cX1_takeCell 73 = .ok (.iadd, 1) := by decide +kernel
theorem dX1_takeCell_74 : decode cX1_takeCell 74 = .ok (.putfield 28, 3) := by decide +kernel
theorem dX1_takeCell_77 : decode cX1_takeCell 77 = .ok (.aload_n 0, 1) := by decide +kernel
theorem dX1_takeCell_78 : decode cX1_takeCell 78 = .ok (.iconst 1, 1) := by decide +kernel
theorem dX1_takeCell_79 : decode cX1_takeCell 79 = .ok (.putfield 37, 3) := by decide +kernel
theorem dX1_takeCell_82 : decode cX1_takeCell 82 = .ok (.iconst 1, 1) := by decide +kernel
theorem dX1_takeCell_83 : decode cX1_takeCell 83 = .ok (.ireturn, 1) := by decide +kernel
theorem dX1_takePart_0 : decode cX1_takePart 0 = .ok (.iload_n 1, 1) := by decide +kernel
theorem dX1_takePart_1 : decode cX1_takePart 1 = .ok (.ifCond .lt 16, 3) := by decide +kernel
theorem dX1_takePart_4 : decode cX1_takePart 4 = .ok (.iload_n 1, 1) := by decide +kernel
theorem dX1_takePart_5 : decode cX1_takePart 5 = .ok (.iconst 4, 1) := by decide +kernel
theorem dX1_takePart_6 : decode cX1_takePart 6 = .ok (.if_icmp .ge 11, 3) := by decide +kernel
theorem dX1_takePart_9 : decode cX1_takePart 9 = .ok (.aload_n 0, 1) := by decide +kernel
theorem dX1_takePart_10 : decode cX1_takePart 10 = .ok (.getfield 31, 3) := by decide +kernel
theorem dX1_takePart_13 : decode cX1_takePart 13 = .ok (.iconst 4, 1) := by decide +kernel
theorem dX1_takePart_14 : decode cX1_takePart 14 = .ok (.if_icmp .lt 5, 3) := by decide +kernel
theorem dX1_takePart_17 : decode cX1_takePart 17 = .ok (.iconst 0, 1) := by decide +kernel
theorem dX1_takePart_18 : decode cX1_takePart 18 = .ok (.ireturn, 1) := by decide +kernel
theorem dX1_takePart_19 : decode cX1_takePart 19 = .ok (.aload_n 0, 1) := by decide +kernel
theorem dX1_takePart_20 : decode cX1_takePart 20 = .ok (.getfield 18, 3) := by decide +kernel
theorem dX1_takePart_23 : decode cX1_takePart 23 = .ok (.aload_n 0, 1) := by decide +kernel
theorem dX1_takePart_24 : decode cX1_takePart 24 = .ok (.getfield 31, 3) := by decide +kernel
theorem dX1_takePart_27 : decode cX1_takePart 27 = .ok (.iload_n 1, 1) := by decide +kernel
theorem dX1_takePart_28 : decode cX1_takePart 28 = .ok (.iastore, 1) := by decide +kernel
theorem dX1_takePart_29 : decode cX1_takePart 29 = .ok (.aload_n 0, 1) := by decide +kernel
theorem dX1_takePart_30 : decode cX1_takePart 30 = .ok (.iconst 5, 1) := by decide +kernel
theorem dX1_takePart_31 : decode cX1_takePart 31 = .ok (.putfield 37, 3) := by decide +kernel
theorem dX1_takePart_34 : decode cX1_takePart 34 = .ok (.iconst 1, 1) := by decide +kernel
theorem dX1_takePart_35 : decode cX1_takePart 35 = .ok (.ireturn, 1) := by decide +kernel
theorem dX1_takeNeed_0 : decode cX1_takeNeed 0 = .ok (.iload_n 1, 1) := by decide +kernel
theorem dX1_takeNeed_1 : decode cX1_takeNeed 1 = .ok (.iconst 1, 1) := by decide +kernel
theorem dX1_takeNeed_2 : decode cX1_takeNeed 2 = .ok (.if_icmp .lt 17, 3) := by decide +kernel
theorem dX1_takeNeed_5 : decode cX1_takeNeed 5 = .ok (.iload_n 1, 1) := by decide +kernel
theorem dX1_takeNeed_6 : decode cX1_takeNeed 6 = .ok (.bipush 9, 2) := by decide +kernel
theorem dX1_takeNeed_8 : decode cX1_takeNeed 8 = .ok (.if_icmp .gt 11, 3) := by decide +kernel
theorem dX1_takeNeed_11 : decode cX1_takeNeed 11 = .ok (.aload_n 0, 1) := by decide +kernel
theorem dX1_takeNeed_12 : decode cX1_takeNeed 12 = .ok (.getfield 31, 3) := by decide +kernel
theorem dX1_takeNeed_15 : decode cX1_takeNeed 15 = .ok (.iconst 4, 1) := by decide +kernel
theorem dX1_takeNeed_16 : decode cX1_takeNeed 16 = .ok (.if_icmp .lt 5, 3) := by decide +kernel
theorem dX1_takeNeed_19 : decode cX1_takeNeed 19 = .ok (.iconst 0, 1) := by decide +kernel
theorem dX1_takeNeed_20 : decode cX1_takeNeed 20 = .ok (.ireturn, 1) := by decide +kernel
theorem dX1_takeNeed_21 : decode cX1_takeNeed 21 = .ok (.aload_n 0, 1) := by decide +kernel
theorem dX1_takeNeed_22 : decode cX1_takeNeed 22 = .ok (.getfield 21, 3) := by decide +kernel
theorem dX1_takeNeed_25 : decode cX1_takeNeed 25 = .ok (.aload_n 0, 1) := by decide +kernel
theorem dX1_takeNeed_26 : decode cX1_takeNeed 26 = .ok (.getfield 31, 3) := by decide +kernel
theorem dX1_takeNeed_29 : decode cX1_takeNeed 29 = .ok (.iload_n 1, 1) := by decide +kernel
theorem dX1_takeNeed_30 : decode cX1_takeNeed 30 = .ok (.iastore, 1) := by decide +kernel
theorem dX1_takeNeed_31 : decode cX1_takeNeed 31 = .ok (.aload_n 0, 1) := by decide +kernel
theorem dX1_takeNeed_32 : decode cX1_takeNeed 32 = .ok (.dup, 1) := by decide +kernel
theorem dX1_takeNeed_33 : decode cX1_takeNeed 33 = .ok (.getfield 31, 3) := by decide +kernel
theorem dX1_takeNeed_36 : decode cX1_takeNeed 36 = .ok (.iconst 1, 1) := by decide +kernel
theorem dX1_takeNeed_37 : decode cX1_takeNeed 37 = .ok (.iadd, 1) := by decide +kernel
theorem dX1_takeNeed_38 : decode cX1_takeNeed 38 = .ok (.putfield 31, 3) := by decide +kernel
theorem dX1_takeNeed_41 : decode cX1_takeNeed 41 = .ok (.aload_n 0, 1) := by decide +kernel
theorem dX1_takeNeed_42 : decode cX1_takeNeed 42 = .ok (.iconst 1, 1) := by decide +kernel
theorem dX1_takeNeed_43 : decode cX1_takeNeed 43 = .ok (.putfield 37, 3) := by decide +kernel
theorem dX1_takeNeed_46 : decode cX1_takeNeed 46 = .ok (.iconst 1, 1) := by decide +kernel
theorem dX1_takeNeed_47 : decode cX1_takeNeed 47 = .ok (.ireturn, 1) := by decide +kernel
theorem dX2_init_0 : decode cX2_init 0 = .ok (.aload_n 0, 1) := by decide +kernel
theorem dX2_init_1 : decode cX2_init 1 = .ok (.invokespecial 3, 3) := by decide +kernel
theorem dX2_init_4 : decode cX2_init 4 = .ok (.return_, 1) := by decide +kernel
theorem dX2_begin_0 : decode cX2_begin 0 = .ok (.aload_n 0, 1) := by decide +kernel
theorem dX2_begin_1 : decode cX2_begin 1 = .ok (.iconst 0, 1) := by decide +kernel
theorem dX2_begin_2 : decode cX2_begin 2 = .ok (.putfield 9, 3) := by decide +kernel
theorem dX2_begin_5 : decode cX2_begin 5 = .ok (.aload_n 0, 1) := by decide +kernel
theorem dX2_begin_6 : decode cX2_begin 6 = .ok (.bipush (-9), 2) := by decide +kernel
theorem dX2_begin_8 : decode cX2_begin 8 = .ok (.putfield 15, 3) := by decide +kernel
theorem dX2_begin_11 : decode cX2_begin 11 = .ok (.aload_n 0, 1) := by decide +kernel
theorem dX2_begin_12 : decode cX2_begin 12 = .ok (.bipush (-9), 2) := by decide +kernel
theorem dX2_begin_14 : decode cX2_begin 14 = .ok (.putfield 18, 3) := by decide +kernel
theorem dX2_begin_17 : decode cX2_begin 17 = .ok (.return_, 1) := by decide +kernel
theorem dX2_offer_0 : decode cX2_offer 0 = .ok (.aload_n 0, 1) := by decide +kernel
theorem dX2_offer_1 : decode cX2_offer 1 = .ok (.getfield 9, 3) := by decide +kernel
theorem dX2_offer_4 : decode cX2_offer 4 = .ok (.ifCond .eq 11, 3) := by decide +kernel
theorem dX2_offer_7 : decode cX2_offer 7 = .ok (.iload_n 1, 1) := by decide +kernel
theorem dX2_offer_8 : decode cX2_offer 8 = .ok (.aload_n 0, 1) := by decide +kernel
theorem dX2_offer_9 : decode cX2_offer 9 = .ok (.getfield 15, 3) := by decide +kernel
theorem dX2_offer_12 : decode cX2_offer 12 = .ok (.if_icmp .ge 13, 3) := by decide +kernel
theorem dX2_offer_15 : decode cX2_offer 15 = .ok (.aload_n 0, 1) := by decide +kernel
theorem dX2_offer_16 : decode cX2_offer 16 = .ok (.iload_n 1, 1) := by decide +kernel
theorem dX2_offer_17 : decode cX2_offer 17 = .ok (.putfield 15, 3) := by decide +kernel
theorem dX2_offer_20 : decode cX2_offer 20 = .ok (.aload_n 0, 1) := by decide +kernel
theorem dX2_offer_21 : decode cX2_offer 21 = .ok (.iload_n 2, 1) := by decide +kernel
theorem dX2_offer_22 : decode cX2_offer 22 = .ok (.putfield 18, 3) := by decide +kernel
theorem dX2_offer_25 : decode cX2_offer 25 = .ok (.aload_n 0, 1) := by decide +kernel
theorem dX2_offer_26 : decode cX2_offer 26 = .ok (.dup, 1) := by decide +kernel
theorem dX2_offer_27 : decode cX2_offer 27 = .ok (.getfield 9, 3) := by decide +kernel
theorem dX2_offer_30 : decode cX2_offer 30 = .ok (.iconst 1, 1) := by decide +kernel
theorem dX2_offer_31 : decode cX2_offer 31 = .ok (.iadd, 1) := by decide +kernel
theorem dX2_offer_32 : decode cX2_offer 32 = .ok (.putfield 9, 3) := by decide +kernel
theorem dX2_offer_35 : decode cX2_offer 35 = .ok (.return_, 1) := by decide +kernel
theorem dX3_init_0 : decode cX3_init 0 = .ok (.aload_n 0, 1) := by decide +kernel
theorem dX3_init_1 : decode cX3_init 1 = .ok (.invokespecial 3, 3) := by decide +kernel
theorem dX3_init_4 : decode cX3_init 4 = .ok (.aload_n 0, 1) := by decide +kernel
theorem dX3_init_5 : decode cX3_init 5 = .ok (.bipush 6, 2) := by decide +kernel
theorem dX3_init_7 : decode cX3_init 7 = .ok (.newarray .int, 2) := by decide +kernel
theorem dX3_init_9 : decode cX3_init 9 = .ok (.putfield 9, 3) := by decide +kernel
theorem dX3_init_12 : decode cX3_init 12 = .ok (.aload_n 0, 1) := by decide +kernel
theorem dX3_init_13 : decode cX3_init 13 = .ok (.bipush 6, 2) := by decide +kernel
theorem dX3_init_15 : decode cX3_init 15 = .ok (.newarray .int, 2) := by decide +kernel
theorem dX3_init_17 : decode cX3_init 17 = .ok (.putfield 15, 3) := by decide +kernel
theorem dX3_init_20 : decode cX3_init 20 = .ok (.return_, 1) := by decide +kernel
theorem dX3_append_0 : decode cX3_append 0 = .ok (.aload_n 0, 1) := by decide +kernel
theorem dX3_append_1 : decode cX3_append 1 = .ok (.getfield 18, 3) := by decide +kernel
theorem dX3_append_4 : decode cX3_append 4 = .ok (.bipush 6, 2) := by decide +kernel
theorem dX3_append_6 : decode cX3_append 6 = .ok (.if_icmp .lt 5, 3) := by decide +kernel
theorem dX3_append_9 : decode cX3_append 9 = .ok (.iconst 0, 1) := by decide +kernel
theorem dX3_append_10 : decode cX3_append 10 = .ok (.ireturn, 1) := by decide +kernel
theorem dX3_append_11 : decode cX3_append 11 = .ok (.aload_n 0, 1) := by decide +kernel
theorem dX3_append_12 : decode cX3_append 12 = .ok (.getfield 9, 3) := by decide +kernel
theorem dX3_append_15 : decode cX3_append 15 = .ok (.aload_n 0, 1) := by decide +kernel
theorem dX3_append_16 : decode cX3_append 16 = .ok (.getfield 18, 3) := by decide +kernel
theorem dX3_append_19 : decode cX3_append 19 = .ok (.iload_n 1, 1) := by decide +kernel
theorem dX3_append_20 : decode cX3_append 20 = .ok (.iastore, 1) := by decide +kernel
theorem dX3_append_21 : decode cX3_append 21 = .ok (.aload_n 0, 1) := by decide +kernel
theorem dX3_append_22 : decode cX3_append 22 = .ok (.getfield 15, 3) := by decide +kernel
theorem dX3_append_25 : decode cX3_append 25 = .ok (.aload_n 0, 1) := by decide +kernel
theorem dX3_append_26 : decode cX3_append 26 = .ok (.getfield 18, 3) := by decide +kernel
theorem dX3_append_29 : decode cX3_append 29 = .ok (.iload_n 2, 1) := by decide +kernel
theorem dX3_append_30 : decode cX3_append 30 = .ok (.iastore, 1) := by decide +kernel
theorem dX3_append_31 : decode cX3_append 31 = .ok (.aload_n 0, 1) := by decide +kernel
theorem dX3_append_32 : decode cX3_append 32 = .ok (.dup, 1) := by decide +kernel
theorem dX3_append_33 : decode cX3_append 33 = .ok (.getfield 18, 3) := by decide +kernel
theorem dX3_append_36 : decode cX3_append 36 = .ok (.iconst 1, 1) := by decide +kernel
theorem dX3_append_37 : decode cX3_append 37 = .ok (.iadd, 1) := by decide +kernel
theorem dX3_append_38 : decode cX3_append 38 = .ok (.putfield 18, 3) := by decide +kernel
theorem dX3_append_41 : decode cX3_append 41 = .ok (.iconst 1, 1) := by decide +kernel
theorem dX3_append_42 : decode cX3_append 42 = .ok (.ireturn, 1) := by decide +kernel
theorem dX3_agreesWith_0 : decode cX3_agreesWith 0 = .ok (.iconst 0, 1) := by decide +kernel
theorem dX3_agreesWith_1 : decode cX3_agreesWith 1 = .ok (.istore_n 3, 1) := by decide +kernel
theorem dX3_agreesWith_2 : decode cX3_agreesWith 2 = .ok (.iload_n 3, 1) := by decide +kernel
theorem dX3_agreesWith_3 : decode cX3_agreesWith 3 = .ok (.aload_n 0, 1) := by decide +kernel
theorem dX3_agreesWith_4 : decode cX3_agreesWith 4 = .ok (.getfield 18, 3) := by decide +kernel
theorem dX3_agreesWith_7 : decode cX3_agreesWith 7 = .ok (.if_icmp .ge 40, 3) := by decide +kernel
theorem dX3_agreesWith_10 : decode cX3_agreesWith 10 = .ok (.aload_n 0, 1) := by decide +kernel
theorem dX3_agreesWith_11 : decode cX3_agreesWith 11 = .ok (.getfield 9, 3) := by decide +kernel
theorem dX3_agreesWith_14 : decode cX3_agreesWith 14 = .ok (.iload_n 3, 1) := by decide +kernel
theorem dX3_agreesWith_15 : decode cX3_agreesWith 15 = .ok (.iaload, 1) := by decide +kernel
theorem dX3_agreesWith_16 : decode cX3_agreesWith 16 = .ok (.iload_n 2, 1) := by decide +kernel
theorem dX3_agreesWith_17 : decode cX3_agreesWith 17 = .ok (.if_icmp .ge 24, 3) := by decide +kernel
theorem dX3_agreesWith_20 : decode cX3_agreesWith 20 = .ok (.aload_n 1, 1) := by decide +kernel
theorem dX3_agreesWith_21 : decode cX3_agreesWith 21 = .ok (.aload_n 0, 1) := by decide +kernel
theorem dX3_agreesWith_22 : decode cX3_agreesWith 22 = .ok (.getfield 9, 3) := by decide +kernel
theorem dX3_agreesWith_25 : decode cX3_agreesWith 25 = .ok (.iload_n 3, 1) := by decide +kernel
theorem dX3_agreesWith_26 : decode cX3_agreesWith 26 = .ok (.iaload, 1) := by decide +kernel
theorem dX3_agreesWith_27 : decode cX3_agreesWith 27 = .ok (.aload_n 0, 1) := by decide +kernel
theorem dX3_agreesWith_28 : decode cX3_agreesWith 28 = .ok (.getfield 15, 3) := by decide +kernel
theorem dX3_agreesWith_31 : decode cX3_agreesWith 31 = .ok (.iload_n 3, 1) := by decide +kernel
theorem dX3_agreesWith_32 : decode cX3_agreesWith 32 = .ok (.iaload, 1) := by decide +kernel
theorem dX3_agreesWith_33 : decode cX3_agreesWith 33 = .ok (.invokestatic 22, 3) := by decide +kernel
theorem dX3_agreesWith_36 : decode cX3_agreesWith 36 = .ok (.ifCond .ne 5, 3) := by decide +kernel
theorem dX3_agreesWith_39 : decode cX3_agreesWith 39 = .ok (.iconst 0, 1) := by decide +kernel
theorem dX3_agreesWith_40 : decode cX3_agreesWith 40 = .ok (.ireturn, 1) := by decide +kernel
theorem dX3_agreesWith_41 : decode cX3_agreesWith 41 = .ok (.iinc 3 1, 3) := by decide +kernel
theorem dX3_agreesWith_44 : decode cX3_agreesWith 44 = .ok (.goto (-42), 3) := by decide +kernel
theorem dX3_agreesWith_47 : decode cX3_agreesWith 47 = .ok (.iconst 1, 1) := by decide +kernel
theorem dX3_agreesWith_48 : decode cX3_agreesWith 48 = .ok (.ireturn, 1) := by decide +kernel
theorem dX3_isSo_0 : decode cX3_isSo 0 = .ok (.aload_n 0, 1) := by decide +kernel
theorem dX3_isSo_1 : decode cX3_isSo 1 = .ok (.iconst 0, 1) := by decide +kernel
theorem dX3_isSo_2 : decode cX3_isSo 2 = .ok (.iload_n 1, 1) := by decide +kernel
theorem dX3_isSo_3 : decode cX3_isSo 3 = .ok (.invokevirtual 26, 3) := by decide +kernel
theorem dX3_isSo_6 : decode cX3_isSo 6 = .ok (.ifCond .le 7, 3) := by decide +kernel
theorem dX3_isSo_9 : decode cX3_isSo 9 = .ok (.iconst 1, 1) := by decide +kernel
theorem dX3_isSo_10 : decode cX3_isSo 10 = .ok (.goto 4, 3) := by decide +kernel
theorem dX3_isSo_13 : decode cX3_isSo 13 = .ok (.iconst 0, 1) := by decide +kernel
theorem dX3_isSo_14 : decode cX3_isSo 14 = .ok (.istore_n 3, 1) := by decide +kernel
theorem dX3_isSo_15 : decode cX3_isSo 15 = .ok (.aload_n 0, 1) := by decide +kernel
theorem dX3_isSo_16 : decode cX3_isSo 16 = .ok (.iconst 1, 1) := by decide +kernel
theorem dX3_isSo_17 : decode cX3_isSo 17 = .ok (.iload_n 1, 1) := by decide +kernel
theorem dX3_isSo_18 : decode cX3_isSo 18 = .ok (.invokevirtual 26, 3) := by decide +kernel
theorem dX3_isSo_21 : decode cX3_isSo 21 = .ok (.ifCond .le 7, 3) := by decide +kernel
theorem dX3_isSo_24 : decode cX3_isSo 24 = .ok (.iconst 1, 1) := by decide +kernel
theorem dX3_isSo_25 : decode cX3_isSo 25 = .ok (.goto 4, 3) := by decide +kernel
theorem dX3_isSo_28 : decode cX3_isSo 28 = .ok (.iconst 0, 1) := by decide +kernel
theorem dX3_isSo_29 : decode cX3_isSo 29 = .ok (.istore 4, 2) := by decide +kernel
theorem dX3_isSo_31 : decode cX3_isSo 31 = .ok (.iload_n 2, 1) := by decide +kernel
theorem dX3_isSo_32 : decode cX3_isSo 32 = .ok (.lookupswitch 58 #[(0, 28), (1, 43)], 28) := by decide +kernel
theorem dX3_isSo_60 : decode cX3_isSo 60 = .ok (.iload_n 3, 1) := by decide +kernel
theorem dX3_isSo_61 : decode cX3_isSo 61 = .ok (.ifCond .eq 12, 3) := by decide +kernel
theorem dX3_isSo_64 : decode cX3_isSo 64 = .ok (.iload 4, 2) := by decide +kernel
theorem dX3_isSo_66 : decode cX3_isSo 66 = .ok (.ifCond .ne 7, 3) := by decide +kernel
theorem dX3_isSo_69 : decode cX3_isSo 69 = .ok (.iconst 1, 1) := by decide +kernel
theorem dX3_isSo_70 : decode cX3_isSo 70 = .ok (.goto 4, 3) := by decide +kernel
theorem dX3_isSo_73 : decode cX3_isSo 73 = .ok (.iconst 0, 1) := by decide +kernel
theorem dX3_isSo_74 : decode cX3_isSo 74 = .ok (.ireturn, 1) := by decide +kernel
theorem dX3_isSo_75 : decode cX3_isSo 75 = .ok (.iload 4, 2) := by decide +kernel
theorem dX3_isSo_77 : decode cX3_isSo 77 = .ok (.ifCond .eq 11, 3) := by decide +kernel
theorem dX3_isSo_80 : decode cX3_isSo 80 = .ok (.iload_n 3, 1) := by decide +kernel
theorem dX3_isSo_81 : decode cX3_isSo 81 = .ok (.ifCond .ne 7, 3) := by decide +kernel
theorem dX3_isSo_84 : decode cX3_isSo 84 = .ok (.iconst 1, 1) := by decide +kernel
theorem dX3_isSo_85 : decode cX3_isSo 85 = .ok (.goto 4, 3) := by decide +kernel
theorem dX3_isSo_88 : decode cX3_isSo 88 = .ok (.iconst 0, 1) := by decide +kernel
theorem dX3_isSo_89 : decode cX3_isSo 89 = .ok (.ireturn, 1) := by decide +kernel
theorem dX3_isSo_90 : decode cX3_isSo 90 = .ok (.iload_n 3, 1) := by decide +kernel
theorem dX3_isSo_91 : decode cX3_isSo 91 = .ok (.ifCond .eq 12, 3) := by decide +kernel
theorem dX3_isSo_94 : decode cX3_isSo 94 = .ok (.iload 4, 2) := by decide +kernel
theorem dX3_isSo_96 : decode cX3_isSo 96 = .ok (.ifCond .eq 7, 3) := by decide +kernel
theorem dX3_isSo_99 : decode cX3_isSo 99 = .ok (.iconst 1, 1) := by decide +kernel
theorem dX3_isSo_100 : decode cX3_isSo 100 = .ok (.goto 4, 3) := by decide +kernel
theorem dX3_isSo_103 : decode cX3_isSo 103 = .ok (.iconst 0, 1) := by decide +kernel
theorem dX3_isSo_104 : decode cX3_isSo 104 = .ok (.ireturn, 1) := by decide +kernel
theorem dX4_init_0 : decode cX4_init 0 = .ok (.aload_n 0, 1) := by decide +kernel
theorem dX4_init_1 : decode cX4_init 1 = .ok (.invokespecial 3, 3) := by decide +kernel
theorem dX4_init_4 : decode cX4_init 4 = .ok (.aload_n 0, 1) := by decide +kernel
theorem dX4_init_5 : decode cX4_init 5 = .ok (.bipush 25, 2) := by decide +kernel
theorem dX4_init_7 : decode cX4_init 7 = .ok (.newarray .int, 2) := by decide +kernel
theorem dX4_init_9 : decode cX4_init 9 = .ok (.putfield 9, 3) := by decide +kernel
theorem dX4_init_12 : decode cX4_init 12 = .ok (.aload_n 0, 1) := by decide +kernel
theorem dX4_init_13 : decode cX4_init 13 = .ok (.iconst 5, 1) := by decide +kernel
theorem dX4_init_14 : decode cX4_init 14 = .ok (.newarray .int, 2) := by decide +kernel
theorem dX4_init_16 : decode cX4_init 16 = .ok (.putfield 15, 3) := by decide +kernel
theorem dX4_init_19 : decode cX4_init 19 = .ok (.aload_n 0, 1) := by decide +kernel
theorem dX4_init_20 : decode cX4_init 20 = .ok (.aload_n 1, 1) := by decide +kernel
theorem dX4_init_21 : decode cX4_init 21 = .ok (.putfield 18, 3) := by decide +kernel
theorem dX4_init_24 : decode cX4_init 24 = .ok (.return_, 1) := by decide +kernel
theorem dX4_begin_0 : decode cX4_begin 0 = .ok (.aload_n 0, 1) := by decide +kernel
theorem dX4_begin_1 : decode cX4_begin 1 = .ok (.getfield 18, 3) := by decide +kernel
theorem dX4_begin_4 : decode cX4_begin 4 = .ok (.getfield 22, 3) := by decide +kernel
theorem dX4_begin_7 : decode cX4_begin 7 = .ok (.iconst 0, 1) := by decide +kernel
theorem dX4_begin_8 : decode cX4_begin 8 = .ok (.aload_n 0, 1) := by decide +kernel
theorem dX4_begin_9 : decode cX4_begin 9 = .ok (.getfield 9, 3) := by decide +kernel
theorem dX4_begin_12 : decode cX4_begin 12 = .ok (.iconst 0, 1) := by decide +kernel
theorem dX4_begin_13 : decode cX4_begin 13 = .ok (.bipush 25, 2) := by decide +kernel
theorem dX4_begin_15 : decode cX4_begin 15 = .ok (.invokestatic 25, 3) := by decide +kernel
theorem dX4_begin_18 : decode cX4_begin 18 = .ok (.aload_n 0, 1) := by decide +kernel
theorem dX4_begin_19 : decode cX4_begin 19 = .ok (.getfield 15, 3) := by decide +kernel
theorem dX4_begin_22 : decode cX4_begin 22 = .ok (.iconst 2, 1) := by decide +kernel
theorem dX4_begin_23 : decode cX4_begin 23 = .ok (.invokestatic 31, 3) := by decide +kernel
theorem dX4_begin_26 : decode cX4_begin 26 = .ok (.aload_n 0, 1) := by decide +kernel
theorem dX4_begin_27 : decode cX4_begin 27 = .ok (.iconst 0, 1) := by decide +kernel
theorem dX4_begin_28 : decode cX4_begin 28 = .ok (.putfield 37, 3) := by decide +kernel
theorem dX4_begin_31 : decode cX4_begin 31 = .ok (.return_, 1) := by decide +kernel
theorem dX4_copyOf_0 : decode cX4_copyOf 0 = .ok (.aload_n 1, 1) := by decide +kernel
theorem dX4_copyOf_1 : decode cX4_copyOf 1 = .ok (.getfield 9, 3) := by decide +kernel
theorem dX4_copyOf_4 : decode cX4_copyOf 4 = .ok (.iconst 0, 1) := by decide +kernel
theorem dX4_copyOf_5 : decode cX4_copyOf 5 = .ok (.aload_n 0, 1) := by decide +kernel
theorem dX4_copyOf_6 : decode cX4_copyOf 6 = .ok (.getfield 9, 3) := by decide +kernel
theorem dX4_copyOf_9 : decode cX4_copyOf 9 = .ok (.iconst 0, 1) := by decide +kernel
theorem dX4_copyOf_10 : decode cX4_copyOf 10 = .ok (.bipush 25, 2) := by decide +kernel
theorem dX4_copyOf_12 : decode cX4_copyOf 12 = .ok (.invokestatic 25, 3) := by decide +kernel
theorem dX4_copyOf_15 : decode cX4_copyOf 15 = .ok (.aload_n 1, 1) := by decide +kernel
theorem dX4_copyOf_16 : decode cX4_copyOf 16 = .ok (.getfield 15, 3) := by decide +kernel
theorem dX4_copyOf_19 : decode cX4_copyOf 19 = .ok (.iconst 0, 1) := by decide +kernel
theorem dX4_copyOf_20 : decode cX4_copyOf 20 = .ok (.aload_n 0, 1) := by decide +kernel
theorem dX4_copyOf_21 : decode cX4_copyOf 21 = .ok (.getfield 15, 3) := by decide +kernel
theorem dX4_copyOf_24 : decode cX4_copyOf 24 = .ok (.iconst 0, 1) := by decide +kernel
theorem dX4_copyOf_25 : decode cX4_copyOf 25 = .ok (.iconst 5, 1) := by decide +kernel
theorem dX4_copyOf_26 : decode cX4_copyOf 26 = .ok (.invokestatic 25, 3) := by decide +kernel
theorem dX4_copyOf_29 : decode cX4_copyOf 29 = .ok (.aload_n 0, 1) := by decide +kernel
theorem dX4_copyOf_30 : decode cX4_copyOf 30 = .ok (.aload_n 1, 1) := by decide +kernel
theorem dX4_copyOf_31 : decode cX4_copyOf 31 = .ok (.getfield 37, 3) := by decide +kernel
theorem dX4_copyOf_34 : decode cX4_copyOf 34 = .ok (.putfield 37, 3) := by decide +kernel
theorem dX4_copyOf_37 : decode cX4_copyOf 37 = .ok (.return_, 1) := by decide +kernel
theorem dX4_wireNumber_0 : decode cX4_wireNumber 0 = .ok (.aload_n 0, 1) := by decide +kernel
theorem dX4_wireNumber_1 : decode cX4_wireNumber 1 = .ok (.getfield 15, 3) := by decide +kernel
theorem dX4_wireNumber_4 : decode cX4_wireNumber 4 = .ok (.aload_n 0, 1) := by decide +kernel
theorem dX4_wireNumber_5 : decode cX4_wireNumber 5 = .ok (.getfield 18, 3) := by decide +kernel
theorem dX4_wireNumber_8 : decode cX4_wireNumber 8 = .ok (.getfield 41, 3) := by decide +kernel
theorem dX4_wireNumber_11 : decode cX4_wireNumber 11 = .ok (.invokestatic 44, 3) := by decide +kernel
theorem dX4_wireNumber_14 : decode cX4_wireNumber 14 = .ok (.ireturn, 1) := by decide +kernel
theorem dX4_setWire_0 : decode cX4_setWire 0 = .ok (.iload_n 1, 1) := by decide +kernel
theorem dX4_setWire_1 : decode cX4_setWire 1 = .ok (.istore_n 2, 1) := by decide +kernel
theorem dX4_setWire_2 : decode cX4_setWire 2 = .ok (.aload_n 0, 1) := by decide +kernel
theorem dX4_setWire_3 : decode cX4_setWire 3 = .ok (.getfield 18, 3) := by decide +kernel
theorem dX4_setWire_6 : decode cX4_setWire 6 = .ok (.getfield 41, 3) := by decide +kernel
theorem dX4_setWire_9 : decode cX4_setWire 9 = .ok (.iconst 1, 1) := by decide +kernel
theorem dX4_setWire_10 : decode cX4_setWire 10 = .ok (.isub, 1) := by decide +kernel
theorem dX4_setWire_11 : decode cX4_setWire 11 = .ok (.istore_n 3, 1) := by decide +kernel
theorem dX4_setWire_12 : decode cX4_setWire 12 = .ok (.iload_n 3, 1) := by decide +kernel
theorem dX4_setWire_13 : decode cX4_setWire 13 = .ok (.ifCond .lt 24, 3) := by decide +kernel
theorem dX4_setWire_16 : decode cX4_setWire 16 = .ok (.aload_n 0, 1) := by decide +kernel
theorem dX4_setWire_17 : decode cX4_setWire 17 = .ok (.getfield 15, 3) := by decide +kernel
theorem dX4_setWire_20 : decode cX4_setWire 20 = .ok (.iload_n 3, 1) := by decide +kernel
theorem dX4_setWire_21 : decode cX4_setWire 21 = .ok (.iload_n 2, 1) := by decide +kernel
theorem dX4_setWire_22 : decode cX4_setWire 22 = .ok (.bipush 10, 2) := by decide +kernel
theorem dX4_setWire_24 : decode cX4_setWire 24 = .ok (.irem, 1) := by decide +kernel
theorem dX4_setWire_25 : decode cX4_setWire 25 = .ok (.iastore, 1) := by decide +kernel
theorem dX4_setWire_26 : decode cX4_setWire 26 = .ok (.iload_n 2, 1) := by decide +kernel
theorem dX4_setWire_27 : decode cX4_setWire 27 = .ok (.bipush 10, 2) := by decide +kernel
theorem dX4_setWire_29 : decode cX4_setWire 29 = .ok (.idiv, 1) := by decide +kernel
theorem dX4_setWire_30 : decode cX4_setWire 30 = .ok (.istore_n 2, 1) := by decide +kernel
theorem dX4_setWire_31 : decode cX4_setWire 31 = .ok (.iinc 3 (-1), 3) := by decide +kernel
theorem dX4_setWire_34 : decode cX4_setWire 34 = .ok (.goto (-22), 3) := by decide +kernel
theorem dX4_setWire_37 : decode cX4_setWire 37 = .ok (.return_, 1) := by decide +kernel
theorem dX4_slipCount_0 : decode cX4_slipCount 0 = .ok (.iconst 0, 1) := by decide +kernel
theorem dX4_slipCount_1 : decode cX4_slipCount 1 = .ok (.istore_n 1, 1) := by decide +kernel
theorem dX4_slipCount_2 : decode cX4_slipCount 2 = .ok (.iconst 1, 1) := by decide +kernel
theorem dX4_slipCount_3 : decode cX4_slipCount 3 = .ok (.istore_n 2, 1) := by decide +kernel
theorem dX4_slipCount_4 : decode cX4_slipCount 4 = .ok (.iload_n 2, 1) := by decide +kernel
theorem dX4_slipCount_5 : decode cX4_slipCount 5 = .ok (.aload_n 0, 1) := by decide +kernel
theorem dX4_slipCount_6 : decode cX4_slipCount 6 = .ok (.getfield 18, 3) := by decide +kernel
theorem dX4_slipCount_9 : decode cX4_slipCount 9 = .ok (.getfield 41, 3) := by decide +kernel
theorem dX4_slipCount_12 : decode cX4_slipCount 12 = .ok (.if_icmp .ge 29, 3) := by decide +kernel
theorem dX4_slipCount_15 : decode cX4_slipCount 15 = .ok (.aload_n 0, 1) := by decide +kernel
theorem dX4_slipCount_16 : decode cX4_slipCount 16 = .ok (.getfield 15, 3) := by decide +kernel
theorem dX4_slipCount_19 : decode cX4_slipCount 19 = .ok (.iload_n 2, 1) := by decide +kernel
theorem dX4_slipCount_20 : decode cX4_slipCount 20 = .ok (.iaload, 1) := by decide +kernel
theorem dX4_slipCount_21 : decode cX4_slipCount 21 = .ok (.aload_n 0, 1) := by decide +kernel
theorem dX4_slipCount_22 : decode cX4_slipCount 22 = .ok (.getfield 15, 3) := by decide +kernel
theorem dX4_slipCount_25 : decode cX4_slipCount 25 = .ok (.iload_n 2, 1) := by decide +kernel
theorem dX4_slipCount_26 : decode cX4_slipCount 26 = .ok (.iconst 1, 1) := by decide +kernel
theorem dX4_slipCount_27 : decode cX4_slipCount 27 = .ok (.isub, 1) := by decide +kernel
theorem dX4_slipCount_28 : decode cX4_slipCount 28 = .ok (.iaload, 1) := by decide +kernel
theorem dX4_slipCount_29 : decode cX4_slipCount 29 = .ok (.if_icmp .eq 6, 3) := by decide +kernel
theorem dX4_slipCount_32 : decode cX4_slipCount 32 = .ok (.iinc 1 1, 3) := by decide +kernel
theorem dX4_slipCount_35 : decode cX4_slipCount 35 = .ok (.iinc 2 1, 3) := by decide +kernel
theorem dX4_slipCount_38 : decode cX4_slipCount 38 = .ok (.goto (-34), 3) := by decide +kernel
theorem dX4_slipCount_41 : decode cX4_slipCount 41 = .ok (.iload_n 1, 1) := by decide +kernel
theorem dX4_slipCount_42 : decode cX4_slipCount 42 = .ok (.ireturn, 1) := by decide +kernel
theorem dX4_act_0 : decode cX4_act 0 = .ok (.iload_n 1, 1) := by decide +kernel
theorem dX4_act_1 : decode cX4_act 1 = .ok (.tableswitch 63 0 3 #[31, 38, 45, 51], 31) := by decide +kernel
theorem dX4_act_32 : decode cX4_act 32 = .ok (.aload_n 0, 1) := by decide +kernel
theorem dX4_act_33 : decode cX4_act 33 = .ok (.iload_n 2, 1) := by decide +kernel
theorem dX4_act_34 : decode cX4_act 34 = .ok (.iconst 0, 1) := by decide +kernel
theorem dX4_act_35 : decode cX4_act 35 = .ok (.invokevirtual 48, 3) := by decide +kernel
theorem dX4_act_38 : decode cX4_act 38 = .ok (.ireturn, 1) := by decide +kernel
theorem dX4_act_39 : decode cX4_act 39 = .ok (.aload_n 0, 1) := by decide +kernel
theorem dX4_act_40 : decode cX4_act 40 = .ok (.iload_n 2, 1) := by decide +kernel
theorem dX4_act_41 : decode cX4_act 41 = .ok (.iconst 1, 1) := by decide +kernel
theorem dX4_act_42 : decode cX4_act 42 = .ok (.invokevirtual 48, 3) := by decide +kernel
theorem dX4_act_45 : decode cX4_act 45 = .ok (.ireturn, 1) := by decide +kernel
theorem dX4_act_46 : decode cX4_act 46 = .ok (.aload_n 0, 1) := by decide +kernel
theorem dX4_act_47 : decode cX4_act 47 = .ok (.iload_n 2, 1) := by decide +kernel
theorem dX4_act_48 : decode cX4_act 48 = .ok (.invokevirtual 52, 3) := by decide +kernel
theorem dX4_act_51 : decode cX4_act 51 = .ok (.ireturn, 1) := by decide +kernel
theorem dX4_act_52 : decode cX4_act 52 = .ok (.iload_n 2, 1) := by decide +kernel
theorem dX4_act_53 : decode cX4_act 53 = .ok (.ifCond .eq 5, 3) := by decide +kernel
theorem dX4_act_56 : decode cX4_act 56 = .ok (.iconst 0, 1) := by decide +kernel
theorem dX4_act_57 : decode cX4_act 57 = .ok (.ireturn, 1) := by decide +kernel
theorem dX4_act_58 : decode cX4_act 58 = .ok (.aload_n 0, 1) := by decide +kernel
theorem dX4_act_59 : decode cX4_act 59 = .ok (.invokevirtual 56, 3) := by decide +kernel
theorem dX4_act_62 : decode cX4_act 62 = .ok (.iconst 1, 1) := by decide +kernel
theorem dX4_act_63 : decode cX4_act 63 = .ok (.ireturn, 1) := by decide +kernel
theorem dX4_act_64 : decode cX4_act 64 = .ok (.iconst 0, 1) := by decide +kernel
theorem dX4_act_65 : decode cX4_act 65 = .ok (.ireturn, 1) := by decide +kernel
theorem dX4_moveWire_0 : decode cX4_moveWire 0 = .ok (.iload_n 1, 1) := by decide +kernel
theorem dX4_moveWire_1 : decode cX4_moveWire 1 = .ok (.ifCond .lt 14, 3) := by decide +kernel
theorem dX4_moveWire_4 : decode cX4_moveWire 4 = .ok (.iload_n 1, 1) := by decide +kernel
theorem dX4_moveWire_5 : decode cX4_moveWire 5 = .ok (.aload_n 0, 1) := by decide +kernel
theorem dX4_moveWire_6 : decode cX4_moveWire 6 = .ok (.getfield 18, 3) := by decide +kernel
theorem dX4_moveWire_9 : decode cX4_moveWire 9 = .ok (.getfield 41, 3) := by decide +kernel
theorem dX4_moveWire_12 : decode cX4_moveWire 12 = .ok (.if_icmp .lt 5, 3) := by decide +kernel
theorem dX4_moveWire_15 : decode cX4_moveWire 15 = .ok (.iconst 0, 1) := by decide +kernel
theorem dX4_moveWire_16 : decode cX4_moveWire 16 = .ok (.ireturn, 1) := by decide +kernel
theorem dX4_moveWire_17 : decode cX4_moveWire 17 = .ok (.iload_n 2, 1) := by decide +kernel
theorem dX4_moveWire_18 : decode cX4_moveWire 18 = .ok (.iconst 1, 1) := by decide +kernel
theorem dX4_moveWire_19 : decode cX4_moveWire 19 = .ok (.if_icmp .ne 14, 3) := by decide +kernel
theorem dX4_moveWire_22 : decode cX4_moveWire 22 = .ok (.aload_n 0, 1) := by decide +kernel
theorem dX4_moveWire_23 : decode cX4_moveWire 23 = .ok (.getfield 15, 3) := by decide +kernel
theorem dX4_moveWire_26 : decode cX4_moveWire 26 = .ok (.iload_n 1, 1) := by decide +kernel
theorem dX4_moveWire_27 : decode cX4_moveWire 27 = .ok (.iaload, 1) := by decide +kernel
theorem dX4_moveWire_28 : decode cX4_moveWire 28 = .ok (.iconst 1, 1) := by decide +kernel
theorem dX4_moveWire_29 : decode cX4_moveWire 29 = .ok (.iadd, 1) := by decide +kernel
theorem dX4_moveWire_30 : decode cX4_moveWire 30 = .ok (.goto 11, 3) := by decide +kernel
theorem dX4_moveWire_33 : decode cX4_moveWire 33 = .ok (.aload_n 0, 1) := by decide +kernel
theorem dX4_moveWire_34 : decode cX4_moveWire 34 = .ok (.getfield 15, 3) := by decide +kernel
theorem dX4_moveWire_37 : decode cX4_moveWire 37 = .ok (.iload_n 1, 1) := by decide +kernel
theorem dX4_moveWire_38 : decode cX4_moveWire 38 = .ok (.iaload, 1) := by decide +kernel
theorem dX4_moveWire_39 : decode cX4_moveWire 39 = .ok (.iconst 1, 1) := by decide +kernel
theorem dX4_moveWire_40 : decode cX4_moveWire 40 = .ok (.isub, 1) := by decide +kernel
theorem dX4_moveWire_41 : decode cX4_moveWire 41 = .ok (.istore_n 3, 1) := by decide +kernel
theorem dX4_moveWire_42 : decode cX4_moveWire 42 = .ok (.iload_n 3, 1) := by decide +kernel
theorem dX4_moveWire_43 : decode cX4_moveWire 43 = .ok (.ifCond .lt 30, 3) := by decide +kernel
theorem dX4_moveWire_46 : decode cX4_moveWire 46 = .ok (.iload_n 3, 1) := by decide +kernel
theorem dX4_moveWire_47 : decode cX4_moveWire 47 = .ok (.iconst 5, 1) := by decide +kernel
theorem dX4_moveWire_48 : decode cX4_moveWire 48 = .ok (.if_icmp .gt 25, 3) := by decide +kernel
theorem dX4_moveWire_51 : decode cX4_moveWire 51 = .ok (.aload_n 0, 1) := by decide +kernel
theorem dX4_moveWire_52 : decode cX4_moveWire 52 = .ok (.iload_n 1, 1) := by decide +kernel
theorem dX4_moveWire_53 : decode cX4_moveWire 53 = .ok (.iconst 1, 1) := by decide +kernel
theorem dX4_moveWire_54 : decode cX4_moveWire 54 = .ok (.isub, 1) := by decide +kernel
theorem dX4_moveWire_55 : decode cX4_moveWire 55 = .ok (.iload_n 3, 1) := by decide +kernel
theorem dX4_moveWire_56 : decode cX4_moveWire 56 = .ok (.invokevirtual 59, 3) := by decide +kernel
theorem dX4_moveWire_59 : decode cX4_moveWire 59 = .ok (.ifCond .eq 14, 3) := by decide +kernel
theorem dX4_moveWire_62 : decode cX4_moveWire 62 = .ok (.aload_n 0, 1) := by decide +kernel
theorem dX4_moveWire_63 : decode cX4_moveWire 63 = .ok (.iload_n 1, 1) := by decide +kernel
theorem dX4_moveWire_64 : decode cX4_moveWire 64 = .ok (.iconst 1, 1) := by decide +kernel
theorem dX4_moveWire_65 : decode cX4_moveWire 65 = .ok (.iadd, 1) := by decide +kernel
theorem dX4_moveWire_66 : decode cX4_moveWire 66 = .ok (.iload_n 3, 1) := by decide +kernel
theorem dX4_moveWire_67 : decode cX4_moveWire 67 = .ok (.invokevirtual 59, 3) := by decide +kernel
theorem dX4_moveWire_70 : decode cX4_moveWire 70 = .ok (.ifCond .ne 5, 3) := by decide +kernel
theorem dX4_moveWire_73 : decode cX4_moveWire 73 = .ok (.iconst 0, 1) := by decide +kernel
theorem dX4_moveWire_74 : decode cX4_moveWire 74 = .ok (.ireturn, 1) := by decide +kernel
theorem dX4_moveWire_75 : decode cX4_moveWire 75 = .ok (.aload_n 0, 1) := by decide +kernel
theorem dX4_moveWire_76 : decode cX4_moveWire 76 = .ok (.getfield 15, 3) := by decide +kernel
theorem dX4_moveWire_79 : decode cX4_moveWire 79 = .ok (.iload_n 1, 1) := by decide +kernel
theorem dX4_moveWire_80 : decode cX4_moveWire 80 = .ok (.iload_n 3, 1) := by decide +kernel
theorem dX4_moveWire_81 : decode cX4_moveWire 81 = .ok (.iastore, 1) := by decide +kernel
theorem dX4_moveWire_82 : decode cX4_moveWire 82 = .ok (.iconst 1, 1) := by decide +kernel
theorem dX4_moveWire_83 : decode cX4_moveWire 83 = .ok (.ireturn, 1) := by decide +kernel
theorem dX4_isNear_0 : decode cX4_isNear 0 = .ok (.iload_n 1, 1) := by decide +kernel
theorem dX4_isNear_1 : decode cX4_isNear 1 = .ok (.ifCond .lt 29, 3) := by decide +kernel
theorem dX4_isNear_4 : decode cX4_isNear 4 = .ok (.iload_n 1, 1) := by decide +kernel
theorem dX4_isNear_5 : decode cX4_isNear 5 = .ok (.aload_n 0, 1) := by decide +kernel
theorem dX4_isNear_6 : decode cX4_isNear 6 = .ok (.getfield 18, 3) := by decide +kernel
theorem dX4_isNear_9 : decode cX4_isNear 9 = .ok (.getfield 41, 3) := by decide +kernel
theorem dX4_isNear_12 : decode cX4_isNear 12 = .ok (.if_icmp .ge 18, 3) := by decide +kernel
theorem dX4_isNear_15 : decode cX4_isNear 15 = .ok (.aload_n 0, 1) := by decide +kernel
theorem dX4_isNear_16 : decode cX4_isNear 16 = .ok (.getfield 15, 3) := by decide +kernel
theorem dX4_isNear_19 : decode cX4_isNear 19 = .ok (.iload_n 1, 1) := by decide +kernel
theorem dX4_isNear_20 : decode cX4_isNear 20 = .ok (.iaload, 1) := by decide +kernel
theorem dX4_isNear_21 : decode cX4_isNear 21 = .ok (.iload_n 2, 1) := by decide +kernel
theorem dX4_isNear_22 : decode cX4_isNear 22 = .ok (.isub, 1) := by decide +kernel
theorem dX4_isNear_23 : decode cX4_isNear 23 = .ok (.invokestatic 62, 3) := by decide +kernel
theorem dX4_isNear_26 : decode cX4_isNear 26 = .ok (.iconst 1, 1) := by decide +kernel
theorem dX4_isNear_27 : decode cX4_isNear 27 = .ok (.if_icmp .gt 7, 3) := by decide +kernel
theorem dX4_isNear_30 : decode cX4_isNear 30 = .ok (.iconst 1, 1) := by decide +kernel
theorem dX4_isNear_31 : decode cX4_isNear 31 = .ok (.goto 4, 3) := by decide +kernel
theorem dX4_isNear_34 : decode cX4_isNear 34 = .ok (.iconst 0, 1) := by decide +kernel
theorem dX4_isNear_35 : decode cX4_isNear 35 = .ok (.ireturn, 1) := by decide +kernel
theorem dX4_swapAtWire_0 : decode cX4_swapAtWire 0 = .ok (.iload_n 1, 1) := by decide +kernel
theorem dX4_swapAtWire_1 : decode cX4_swapAtWire 1 = .ok (.ifCond .lt 34, 3) := by decide +kernel
theorem dX4_swapAtWire_4 : decode cX4_swapAtWire 4 = .ok (.iload_n 1, 1) := by decide +kernel
theorem dX4_swapAtWire_5 : decode cX4_swapAtWire 5 = .ok (.aload_n 0, 1) := by decide +kernel
theorem dX4_swapAtWire_6 : decode cX4_swapAtWire 6 = .ok (.getfield 18, 3) := by decide +kernel
theorem dX4_swapAtWire_9 : decode cX4_swapAtWire 9 = .ok (.getfield 41, 3) := by decide +kernel
theorem dX4_swapAtWire_12 : decode cX4_swapAtWire 12 = .ok (.if_icmp .ge 23, 3) := by decide +kernel
theorem dX4_swapAtWire_15 : decode cX4_swapAtWire 15 = .ok (.aload_n 0, 1) := by decide +kernel
theorem dX4_swapAtWire_16 : decode cX4_swapAtWire 16 = .ok (.getfield 15, 3) := by decide +kernel
theorem dX4_swapAtWire_19 : decode cX4_swapAtWire 19 = .ok (.iload_n 1, 1) := by decide +kernel
theorem dX4_swapAtWire_20 : decode cX4_swapAtWire 20 = .ok (.iaload, 1) := by decide +kernel
theorem dX4_swapAtWire_21 : decode cX4_swapAtWire 21 = .ok (.iconst 1, 1) := by decide +kernel
theorem dX4_swapAtWire_22 : decode cX4_swapAtWire 22 = .ok (.if_icmp .lt 13, 3) := by decide +kernel
theorem dX4_swapAtWire_25 : decode cX4_swapAtWire 25 = .ok (.aload_n 0, 1) := by decide +kernel
theorem dX4_swapAtWire_26 : decode cX4_swapAtWire 26 = .ok (.getfield 15, 3) := by decide +kernel
theorem dX4_swapAtWire_29 : decode cX4_swapAtWire 29 = .ok (.iload_n 1, 1) := by decide +kernel
theorem dX4_swapAtWire_30 : decode cX4_swapAtWire 30 = .ok (.iaload, 1) := by decide +kernel
theorem dX4_swapAtWire_31 : decode cX4_swapAtWire 31 = .ok (.iconst 5, 1) := by decide +kernel
theorem dX4_swapAtWire_32 : decode cX4_swapAtWire 32 = .ok (.if_icmp .lt 5, 3) := by decide +kernel
theorem dX4_swapAtWire_35 : decode cX4_swapAtWire 35 = .ok (.iconst 0, 1) := by decide +kernel
theorem dX4_swapAtWire_36 : decode cX4_swapAtWire 36 = .ok (.ireturn, 1) := by decide +kernel
theorem dX4_swapAtWire_37 : decode cX4_swapAtWire 37 = .ok (.iload_n 1, 1) := by decide +kernel
theorem dX4_swapAtWire_38 : decode cX4_swapAtWire 38 = .ok (.iconst 5, 1) := by decide +kernel
theorem dX4_swapAtWire_39 : decode cX4_swapAtWire 39 = .ok (.imul, 1) := by decide +kernel
theorem dX4_swapAtWire_40 : decode cX4_swapAtWire 40 = .ok (.aload_n 0, 1) := by decide +kernel
theorem dX4_swapAtWire_41 : decode cX4_swapAtWire 41 = .ok (.getfield 15, 3) := by decide +kernel
theorem dX4_swapAtWire_44 : decode cX4_swapAtWire 44 = .ok (.iload_n 1, 1) := by decide +kernel
theorem dX4_swapAtWire_45 : decode cX4_swapAtWire 45 = .ok (.iaload, 1) := by decide +kernel
theorem dX4_swapAtWire_46 : decode cX4_swapAtWire 46 = .ok (.iadd, 1) := by decide +kernel
theorem dX4_swapAtWire_47 : decode cX4_swapAtWire 47 = .ok (.istore_n 2, 1) := by decide +kernel
theorem dX4_swapAtWire_48 : decode cX4_swapAtWire 48 = .ok (.aload_n 0, 1) := by decide +kernel
theorem dX4_swapAtWire_49 : decode cX4_swapAtWire 49 = .ok (.getfield 9, 3) := by decide +kernel
theorem dX4_swapAtWire_52 : decode cX4_swapAtWire 52 = .ok (.iload_n 2, 1) := by decide +kernel
theorem dX4_swapAtWire_53 : decode cX4_swapAtWire 53 = .ok (.iaload, 1) := by decide +kernel
theorem dX4_swapAtWire_54 : decode cX4_swapAtWire 54 = .ok (.istore_n 3, 1) := by decide +kernel
theorem dX4_swapAtWire_55 : decode cX4_swapAtWire 55 = .ok (.aload_n 0, 1) := by decide +kernel
theorem dX4_swapAtWire_56 : decode cX4_swapAtWire 56 = .ok (.getfield 9, 3) := by decide +kernel
theorem dX4_swapAtWire_59 : decode cX4_swapAtWire 59 = .ok (.iload_n 2, 1) := by decide +kernel
theorem dX4_swapAtWire_60 : decode cX4_swapAtWire 60 = .ok (.aload_n 0, 1) := by decide +kernel
theorem dX4_swapAtWire_61 : decode cX4_swapAtWire 61 = .ok (.getfield 9, 3) := by decide +kernel
theorem dX4_swapAtWire_64 : decode cX4_swapAtWire 64 = .ok (.iload_n 2, 1) := by decide +kernel
theorem dX4_swapAtWire_65 : decode cX4_swapAtWire 65 = .ok (.iconst 1, 1) := by decide +kernel
theorem dX4_swapAtWire_66 : decode cX4_swapAtWire 66 = .ok (.isub, 1) := by decide +kernel
theorem dX4_swapAtWire_67 : decode cX4_swapAtWire 67 = .ok (.iaload, 1) := by decide +kernel
theorem dX4_swapAtWire_68 : decode cX4_swapAtWire 68 = .ok (.iastore, 1) := by decide +kernel
theorem dX4_swapAtWire_69 : decode cX4_swapAtWire 69 = .ok (.aload_n 0, 1) := by decide +kernel
theorem dX4_swapAtWire_70 : decode cX4_swapAtWire 70 = .ok (.getfield 9, 3) := by decide +kernel
theorem dX4_swapAtWire_73 : decode cX4_swapAtWire 73 = .ok (.iload_n 2, 1) := by decide +kernel
theorem dX4_swapAtWire_74 : decode cX4_swapAtWire 74 = .ok (.iconst 1, 1) := by decide +kernel
theorem dX4_swapAtWire_75 : decode cX4_swapAtWire 75 = .ok (.isub, 1) := by decide +kernel
theorem dX4_swapAtWire_76 : decode cX4_swapAtWire 76 = .ok (.iload_n 3, 1) := by decide +kernel
theorem dX4_swapAtWire_77 : decode cX4_swapAtWire 77 = .ok (.iastore, 1) := by decide +kernel
theorem dX4_swapAtWire_78 : decode cX4_swapAtWire 78 = .ok (.iconst 1, 1) := by decide +kernel
theorem dX4_swapAtWire_79 : decode cX4_swapAtWire 79 = .ok (.ireturn, 1) := by decide +kernel
theorem dX4_joinFaces_0 : decode cX4_joinFaces 0 = .ok (.aload_n 0, 1) := by decide +kernel
theorem dX4_joinFaces_1 : decode cX4_joinFaces 1 = .ok (.dup, 1) := by decide +kernel
theorem dX4_joinFaces_2 : decode cX4_joinFaces 2 = .ok (.getfield 37, 3) := by decide +kernel
theorem dX4_joinFaces_5 : decode cX4_joinFaces 5 = .ok (.aload_n 0, 1) := by decide +kernel
theorem dX4_joinFaces_6 : decode cX4_joinFaces 6 = .ok (.invokevirtual 68, 3) := by decide +kernel
theorem dX4_joinFaces_9 : decode cX4_joinFaces 9 = .ok (.iadd, 1) := by decide +kernel
theorem dX4_joinFaces_10 : decode cX4_joinFaces 10 = .ok (.putfield 37, 3) := by decide +kernel
theorem dX4_joinFaces_13 : decode cX4_joinFaces 13 = .ok (.aload_n 0, 1) := by decide +kernel
theorem dX4_joinFaces_14 : decode cX4_joinFaces 14 = .ok (.getfield 15, 3) := by decide +kernel
theorem dX4_joinFaces_17 : decode cX4_joinFaces 17 = .ok (.iconst 2, 1) := by decide +kernel
theorem dX4_joinFaces_18 : decode cX4_joinFaces 18 = .ok (.invokestatic 31, 3) := by decide +kernel
theorem dX4_joinFaces_21 : decode cX4_joinFaces 21 = .ok (.return_, 1) := by decide +kernel
theorem dX5_init_0 : decode cX5_init 0 = .ok (.aload_n 0, 1) := by decide +kernel
theorem dX5_init_1 : decode cX5_init 1 = .ok (.invokespecial 3, 3) := by decide +kernel
theorem dX5_init_4 : decode cX5_init 4 = .ok (.aload_n 0, 1) := by decide +kernel
theorem dX5_init_5 : decode cX5_init 5 = .ok (.bipush 10, 2) := by decide +kernel
theorem dX5_init_7 : decode cX5_init 7 = .ok (.newarray .int, 2) := by decide +kernel
theorem dX5_init_9 : decode cX5_init 9 = .ok (.putfield 9, 3) := by decide +kernel
theorem dX5_init_12 : decode cX5_init 12 = .ok (.aload_n 0, 1) := by decide +kernel
theorem dX5_init_13 : decode cX5_init 13 = .ok (.bipush 40, 2) := by decide +kernel
theorem dX5_init_15 : decode cX5_init 15 = .ok (.newarray .int, 2) := by decide +kernel
theorem dX5_init_17 : decode cX5_init 17 = .ok (.putfield 15, 3) := by decide +kernel
theorem dX5_init_20 : decode cX5_init 20 = .ok (.aload_n 0, 1) := by decide +kernel
theorem dX5_init_21 : decode cX5_init 21 = .ok (.aload_n 1, 1) := by decide +kernel
theorem dX5_init_22 : decode cX5_init 22 = .ok (.putfield 18, 3) := by decide +kernel
theorem dX5_init_25 : decode cX5_init 25 = .ok (.return_, 1) := by decide +kernel
theorem dX5_take_0 : decode cX5_take 0 = .ok (.aload_n 0, 1) := by decide +kernel
theorem dX5_take_1 : decode cX5_take 1 = .ok (.aload_n 1, 1) := by decide +kernel
theorem dX5_take_2 : decode cX5_take 2 = .ok (.aload_n 2, 1) := by decide +kernel
theorem dX5_take_3 : decode cX5_take 3 = .ok (.invokevirtual 22, 3) := by decide +kernel
theorem dX5_take_6 : decode cX5_take 6 = .ok (.aload_n 0, 1) := by decide +kernel
theorem dX5_take_7 : decode cX5_take 7 = .ok (.getfield 15, 3) := by decide +kernel
theorem dX5_take_10 : decode cX5_take 10 = .ok (.iconst 0, 1) := by decide +kernel
theorem dX5_take_11 : decode cX5_take 11 = .ok (.invokestatic 26, 3) := by decide +kernel
theorem dX5_take_14 : decode cX5_take 14 = .ok (.iconst 0, 1) := by decide +kernel
theorem dX5_take_15 : decode cX5_take 15 = .ok (.istore_n 3, 1) := by decide +kernel
theorem dX5_take_16 : decode cX5_take 16 = .ok (.iload_n 3, 1) := by decide +kernel
theorem dX5_take_17 : decode cX5_take 17 = .ok (.aload_n 0, 1) := by decide +kernel
theorem dX5_take_18 : decode cX5_take 18 = .ok (.getfield 18, 3) := by decide +kernel
theorem dX5_take_21 : decode cX5_take 21 = .ok (.getfield 32, 3) := by decide +kernel
theorem dX5_take_24 : decode cX5_take 24 = .ok (.if_icmp .ge 81, 3) := by decide +kernel
theorem dX5_take_27 : decode cX5_take 27 = .ok (.iconst 0, 1) := by decide +kernel
theorem dX5_take_28 : decode cX5_take 28 = .ok (.istore 4, 2) := by decide +kernel
theorem dX5_take_30 : decode cX5_take 30 = .ok (.iload 4, 2) := by decide +kernel
theorem dX5_take_32 : decode cX5_take 32 = .ok (.iconst 5, 1) := by decide +kernel
theorem dX5_take_33 : decode cX5_take 33 = .ok (.if_icmp .ge 66, 3) := by decide +kernel
theorem dX5_take_36 : decode cX5_take 36 = .ok (.aload_n 1, 1) := by decide +kernel
theorem dX5_take_37 : decode cX5_take 37 = .ok (.iload_n 3, 1) := by decide +kernel
theorem dX5_take_38 : decode cX5_take 38 = .ok (.iconst 5, 1) := by decide +kernel
theorem dX5_take_39 : decode cX5_take 39 = .ok (.imul, 1) := by decide +kernel
theorem dX5_take_40 : decode cX5_take 40 = .ok (.iload 4, 2) := by decide +kernel
theorem dX5_take_42 : decode cX5_take 42 = .ok (.iadd, 1) := by decide +kernel
theorem dX5_take_43 : decode cX5_take 43 = .ok (.iaload, 1) := by decide +kernel
theorem dX5_take_44 : decode cX5_take 44 = .ok (.istore 5, 2) := by decide +kernel
theorem dX5_take_46 : decode cX5_take 46 = .ok (.aload_n 0, 1) := by decide +kernel
theorem dX5_take_47 : decode cX5_take 47 = .ok (.iload 5, 2) := by decide +kernel
theorem dX5_take_49 : decode cX5_take 49 = .ok (.iload 4, 2) := by decide +kernel
theorem dX5_take_51 : decode cX5_take 51 = .ok (.aload_n 2, 1) := by decide +kernel
theorem dX5_take_52 : decode cX5_take 52 = .ok (.iload_n 3, 1) := by decide +kernel
theorem dX5_take_53 : decode cX5_take 53 = .ok (.iaload, 1) := by decide +kernel
theorem dX5_take_54 : decode cX5_take 54 = .ok (.invokestatic 38, 3) := by decide +kernel
theorem dX5_take_57 : decode cX5_take 57 = .ok (.invokevirtual 42, 3) := by decide +kernel
theorem dX5_take_60 : decode cX5_take 60 = .ok (.istore 6, 2) := by decide +kernel
theorem dX5_take_62 : decode cX5_take 62 = .ok (.aload_n 0, 1) := by decide +kernel
theorem dX5_take_63 : decode cX5_take 63 = .ok (.getfield 15, 3) := by decide +kernel
theorem dX5_take_66 : decode cX5_take 66 = .ok (.iload 5, 2) := by decide +kernel
theorem dX5_take_68 : decode cX5_take 68 = .ok (.dup2, 1) := by decide +kernel
theorem dX5_take_69 : decode cX5_take 69 = .ok (.iaload, 1) := by decide +kernel
theorem dX5_take_70 : decode cX5_take 70 = .ok (.iload 6, 2) := by decide +kernel
theorem dX5_take_72 : decode cX5_take 72 = .ok (.iconst 1, 1) := by decide +kernel
theorem dX5_take_73 : decode cX5_take 73 = .ok (.iand, 1) := by decide +kernel
theorem dX5_take_74 : decode cX5_take 74 = .ok (.iadd, 1) := by decide +kernel
theorem dX5_take_75 : decode cX5_take 75 = .ok (.iastore, 1) := by decide +kernel
theorem dX5_take_76 : decode cX5_take 76 = .ok (.aload_n 0, 1) := by decide +kernel
theorem dX5_take_77 : decode cX5_take 77 = .ok (.getfield 15, 3) := by decide +kernel
theorem dX5_take_80 : decode cX5_take 80 = .ok (.bipush 20, 2) := by decide +kernel
theorem dX5_take_82 : decode cX5_take 82 = .ok (.iload 5, 2) := by decide +kernel
theorem dX5_take_84 : decode cX5_take 84 = .ok (.iadd, 1) := by decide +kernel
theorem dX5_take_85 : decode cX5_take 85 = .ok (.dup2, 1) := by decide +kernel
theorem dX5_take_86 : decode cX5_take 86 = .ok (.iaload, 1) := by decide +kernel
theorem dX5_take_87 : decode cX5_take 87 = .ok (.iload 6, 2) := by decide +kernel
theorem dX5_take_89 : decode cX5_take 89 = .ok (.iconst 1, 1) := by decide +kernel
theorem dX5_take_90 : decode cX5_take 90 = .ok (.ishr, 1) := by decide +kernel
theorem dX5_take_91 : decode cX5_take 91 = .ok (.iadd, 1) := by decide +kernel
theorem dX5_take_92 : decode cX5_take 92 = .ok (.iastore, 1) := by decide +kernel
theorem dX5_take_93 : decode cX5_take 93 = .ok (.iinc 4 1, 3) := by decide +kernel
theorem dX5_take_96 : decode cX5_take 96 = .ok (.goto (-66), 3) := by decide +kernel
theorem dX5_take_99 : decode cX5_take 99 = .ok (.iinc 3 1, 3) := by decide +kernel
theorem dX5_take_102 : decode cX5_take 102 = .ok (.goto (-86), 3) := by decide +kernel
theorem dX5_take_105 : decode cX5_take 105 = .ok (.return_, 1) := by decide +kernel
theorem dX5_countCells_0 : decode cX5_countCells 0 = .ok (.aload_n 0, 1) := by decide +kernel
theorem dX5_countCells_1 : decode cX5_countCells 1 = .ok (.getfield 9, 3) := by decide +kernel
theorem dX5_countCells_4 : decode cX5_countCells 4 = .ok (.iconst 0, 1) := by decide +kernel
theorem dX5_countCells_5 : decode cX5_countCells 5 = .ok (.invokestatic 26, 3) := by decide +kernel
theorem dX5_countCells_8 : decode cX5_countCells 8 = .ok (.iconst 0, 1) := by decide +kernel
theorem dX5_countCells_9 : decode cX5_countCells 9 = .ok (.istore_n 3, 1) := by decide +kernel
theorem dX5_countCells_10 : decode cX5_countCells 10 = .ok (.iload_n 3, 1) := by decide +kernel
theorem dX5_countCells_11 : decode cX5_countCells 11 = .ok (.aload_n 0, 1) := by decide +kernel
theorem dX5_countCells_12 : decode cX5_countCells 12 = .ok (.getfield 18, 3) := by decide +kernel
theorem dX5_countCells_15 : decode cX5_countCells 15 = .ok (.getfield 32, 3) := by decide +kernel
theorem dX5_countCells_18 : decode cX5_countCells 18 = .ok (.if_icmp .ge 59, 3) := by decide +kernel
theorem dX5_countCells_21 : decode cX5_countCells 21 = .ok (.iconst 0, 1) := by decide +kernel
theorem dX5_countCells_22 : decode cX5_countCells 22 = .ok (.istore 4, 2) := by decide +kernel
theorem dX5_countCells_24 : decode cX5_countCells 24 = .ok (.iload 4, 2) := by decide +kernel
theorem dX5_countCells_26 : decode cX5_countCells 26 = .ok (.iconst 5, 1) := by decide +kernel
theorem dX5_countCells_27 : decode cX5_countCells 27 = .ok (.if_icmp .ge 44, 3) := by decide +kernel
theorem dX5_countCells_30 : decode cX5_countCells 30 = .ok (.iload 4, 2) := by decide +kernel
theorem dX5_countCells_32 : decode cX5_countCells 32 = .ok (.aload_n 2, 1) := by decide +kernel
theorem dX5_countCells_33 : decode cX5_countCells 33 = .ok (.iload_n 3, 1) := by decide +kernel
theorem dX5_countCells_34 : decode cX5_countCells 34 = .ok (.iaload, 1) := by decide +kernel
theorem dX5_countCells_35 : decode cX5_countCells 35 = .ok (.invokestatic 38, 3) := by decide +kernel
theorem dX5_countCells_38 : decode cX5_countCells 38 = .ok (.istore 5, 2) := by decide +kernel
theorem dX5_countCells_40 : decode cX5_countCells 40 = .ok (.aload_n 0, 1) := by decide +kernel
theorem dX5_countCells_41 : decode cX5_countCells 41 = .ok (.getfield 9, 3) := by decide +kernel
theorem dX5_countCells_44 : decode cX5_countCells 44 = .ok (.iload 5, 2) := by decide +kernel
theorem dX5_countCells_46 : decode cX5_countCells 46 = .ok (.iconst 5, 1) := by decide +kernel
theorem dX5_countCells_47 : decode cX5_countCells 47 = .ok (.imul, 1) := by decide +kernel
theorem dX5_countCells_48 : decode cX5_countCells 48 = .ok (.aload_n 1, 1) := by decide +kernel
theorem dX5_countCells_49 : decode cX5_countCells 49 = .ok (.iload_n 3, 1) := by decide +kernel
theorem dX5_countCells_50 : decode cX5_countCells 50 = .ok (.iconst 5, 1) := by decide +kernel
theorem dX5_countCells_51 : decode cX5_countCells 51 = .ok (.imul, 1) := by decide +kernel
theorem dX5_countCells_52 : decode cX5_countCells 52 = .ok (.iload 4, 2) := by decide +kernel
theorem dX5_countCells_54 : decode cX5_countCells 54 = .ok (.iadd, 1) := by decide +kernel
theorem dX5_countCells_55 : decode cX5_countCells 55 = .ok (.iaload, 1) := by decide +kernel
theorem dX5_countCells_56 : decode cX5_countCells 56 = .ok (.invokestatic 45, 3) := by decide +kernel
theorem dX5_countCells_59 : decode cX5_countCells 59 = .ok (.iadd, 1) := by decide +kernel
theorem dX5_countCells_60 : decode cX5_countCells 60 = .ok (.dup2, 1) := by decide +kernel
theorem dX5_countCells_61 : decode cX5_countCells 61 = .ok (.iaload, 1) := by decide +kernel
theorem dX5_countCells_62 : decode cX5_countCells 62 = .ok (.iconst 1, 1) := by decide +kernel
theorem dX5_countCells_63 : decode cX5_countCells 63 = .ok (.iadd, 1) := by decide +kernel
theorem dX5_countCells_64 : decode cX5_countCells 64 = .ok (.iastore, 1) := by decide +kernel
theorem dX5_countCells_65 : decode cX5_countCells 65 = .ok (.iinc 4 1, 3) := by decide +kernel
theorem dX5_countCells_68 : decode cX5_countCells 68 = .ok (.goto (-44), 3) := by decide +kernel
theorem dX5_countCells_71 : decode cX5_countCells 71 = .ok (.iinc 3 1, 3) := by decide +kernel
theorem dX5_countCells_74 : decode cX5_countCells 74 = .ok (.goto (-64), 3) := by decide +kernel
theorem dX5_countCells_77 : decode cX5_countCells 77 = .ok (.return_, 1) := by decide +kernel
theorem dX5_halvesFor_0 : decode cX5_halvesFor 0 = .ok (.iload_n 1, 1) := by decide +kernel
theorem dX5_halvesFor_1 : decode cX5_halvesFor 1 = .ok (.invokestatic 45, 3) := by decide +kernel
theorem dX5_halvesFor_4 : decode cX5_halvesFor 4 = .ok (.istore_n 3, 1) := by decide +kernel
theorem dX5_halvesFor_5 : decode cX5_halvesFor 5 = .ok (.aload_n 0, 1) := by decide +kernel
theorem dX5_halvesFor_6 : decode cX5_halvesFor 6 = .ok (.getfield 18, 3) := by decide +kernel
theorem dX5_halvesFor_9 : decode cX5_halvesFor 9 = .ok (.getfield 49, 3) := by decide +kernel
theorem dX5_halvesFor_12 : decode cX5_halvesFor 12 = .ok (.iload_n 3, 1) := by decide +kernel
theorem dX5_halvesFor_13 : decode cX5_halvesFor 13 = .ok (.iaload, 1) := by decide +kernel
theorem dX5_halvesFor_14 : decode cX5_halvesFor 14 = .ok (.istore 4, 2) := by decide +kernel
theorem dX5_halvesFor_16 : decode cX5_halvesFor 16 = .ok (.iload 4, 2) := by decide +kernel
theorem dX5_halvesFor_18 : decode cX5_halvesFor 18 = .ok (.iconst 1, 1) := by decide +kernel
theorem dX5_halvesFor_19 : decode cX5_halvesFor 19 = .ok (.if_icmp .eq 16, 3) := by decide +kernel
theorem dX5_halvesFor_22 : decode cX5_halvesFor 22 = .ok (.iload 4, 2) := by decide +kernel
theorem dX5_halvesFor_24 : decode cX5_halvesFor 24 = .ok (.iconst 2, 1) := by decide +kernel
theorem dX5_halvesFor_25 : decode cX5_halvesFor 25 = .ok (.if_icmp .ne 12, 3) := by decide +kernel
theorem dX5_halvesFor_28 : decode cX5_halvesFor 28 = .ok (.iload_n 1, 1) := by decide +kernel
theorem dX5_halvesFor_29 : decode cX5_halvesFor 29 = .ok (.invokestatic 52, 3) := by decide +kernel
theorem dX5_halvesFor_32 : decode cX5_halvesFor 32 = .ok (.ifCond .ne 5, 3) := by decide +kernel
theorem dX5_halvesFor_35 : decode cX5_halvesFor 35 = .ok (.iconst 3, 1) := by decide +kernel
theorem dX5_halvesFor_36 : decode cX5_halvesFor 36 = .ok (.ireturn, 1) := by decide +kernel
theorem dX5_halvesFor_37 : decode cX5_halvesFor 37 = .ok (.iload 4, 2) := by decide +kernel
theorem dX5_halvesFor_39 : decode cX5_halvesFor 39 = .ok (.iconst 3, 1) := by decide +kernel
theorem dX5_halvesFor_40 : decode cX5_halvesFor 40 = .ok (.if_icmp .ne 13, 3) := by decide +kernel
theorem dX5_halvesFor_43 : decode cX5_halvesFor 43 = .ok (.aload_n 0, 1) := by decide +kernel
theorem dX5_halvesFor_44 : decode cX5_halvesFor 44 = .ok (.iload_n 3, 1) := by decide +kernel
theorem dX5_halvesFor_45 : decode cX5_halvesFor 45 = .ok (.invokevirtual 55, 3) := by decide +kernel
theorem dX5_halvesFor_48 : decode cX5_halvesFor 48 = .ok (.ifCond .eq 5, 3) := by decide +kernel
theorem dX5_halvesFor_51 : decode cX5_halvesFor 51 = .ok (.iconst 0, 1) := by decide +kernel
theorem dX5_halvesFor_52 : decode cX5_halvesFor 52 = .ok (.ireturn, 1) := by decide +kernel
theorem dX5_halvesFor_53 : decode cX5_halvesFor 53 = .ok (.iconst 1, 1) := by decide +kernel
theorem dX5_halvesFor_54 : decode cX5_halvesFor 54 = .ok (.iload_n 2, 1) := by decide +kernel
theorem dX5_halvesFor_55 : decode cX5_halvesFor 55 = .ok (.ishl, 1) := by decide +kernel
theorem dX5_halvesFor_56 : decode cX5_halvesFor 56 = .ok (.ireturn, 1) := by decide +kernel
theorem dX5_cellsIn_0 : decode cX5_cellsIn 0 = .ok (.aload_n 0, 1) := by decide +kernel
theorem dX5_cellsIn_1 : decode cX5_cellsIn 1 = .ok (.getfield 9, 3) := by decide +kernel
theorem dX5_cellsIn_4 : decode cX5_cellsIn 4 = .ok (.iload_n 1, 1) := by decide +kernel
theorem dX5_cellsIn_5 : decode cX5_cellsIn 5 = .ok (.iconst 5, 1) := by decide +kernel
theorem dX5_cellsIn_6 : decode cX5_cellsIn 6 = .ok (.imul, 1) := by decide +kernel
theorem dX5_cellsIn_7 : decode cX5_cellsIn 7 = .ok (.iload_n 2, 1) := by decide +kernel
theorem dX5_cellsIn_8 : decode cX5_cellsIn 8 = .ok (.iadd, 1) := by decide +kernel
theorem dX5_cellsIn_9 : decode cX5_cellsIn 9 = .ok (.iaload, 1) := by decide +kernel
theorem dX5_cellsIn_10 : decode cX5_cellsIn 10 = .ok (.ireturn, 1) := by decide +kernel
theorem dX5_isParted_0 : decode cX5_isParted 0 = .ok (.aload_n 0, 1) := by decide +kernel
theorem dX5_isParted_1 : decode cX5_isParted 1 = .ok (.iconst 0, 1) := by decide +kernel
theorem dX5_isParted_2 : decode cX5_isParted 2 = .ok (.iload_n 1, 1) := by decide +kernel
theorem dX5_isParted_3 : decode cX5_isParted 3 = .ok (.invokevirtual 59, 3) := by decide +kernel
theorem dX5_isParted_6 : decode cX5_isParted 6 = .ok (.ifCond .le 16, 3) := by decide +kernel
theorem dX5_isParted_9 : decode cX5_isParted 9 = .ok (.aload_n 0, 1) := by decide +kernel
theorem dX5_isParted_10 : decode cX5_isParted 10 = .ok (.iconst 1, 1) := by decide +kernel
theorem dX5_isParted_11 : decode cX5_isParted 11 = .ok (.iload_n 1, 1) := by decide +kernel
theorem dX5_isParted_12 : decode cX5_isParted 12 = .ok (.invokevirtual 59, 3) := by decide +kernel
theorem dX5_isParted_15 : decode cX5_isParted 15 = .ok (.ifCond .le 7, 3) := by decide +kernel
theorem dX5_isParted_18 : decode cX5_isParted 18 = .ok (.iconst 1, 1) := by decide +kernel
theorem dX5_isParted_19 : decode cX5_isParted 19 = .ok (.goto 4, 3) := by decide +kernel
theorem dX5_isParted_22 : decode cX5_isParted 22 = .ok (.iconst 0, 1) := by decide +kernel
theorem dX5_isParted_23 : decode cX5_isParted 23 = .ok (.ireturn, 1) := by decide +kernel
theorem dX5_partedBits_0 : decode cX5_partedBits 0 = .ok (.iconst 0, 1) := by decide +kernel
theorem dX5_partedBits_1 : decode cX5_partedBits 1 = .ok (.istore_n 1, 1) := by decide +kernel
theorem dX5_partedBits_2 : decode cX5_partedBits 2 = .ok (.iconst 0, 1) := by decide +kernel
theorem dX5_partedBits_3 : decode cX5_partedBits 3 = .ok (.istore_n 2, 1) := by decide +kernel
theorem dX5_partedBits_4 : decode cX5_partedBits 4 = .ok (.iload_n 2, 1) := by decide +kernel
theorem dX5_partedBits_5 : decode cX5_partedBits 5 = .ok (.aload_n 0, 1) := by decide +kernel
theorem dX5_partedBits_6 : decode cX5_partedBits 6 = .ok (.getfield 18, 3) := by decide +kernel
theorem dX5_partedBits_9 : decode cX5_partedBits 9 = .ok (.getfield 62, 3) := by decide +kernel
theorem dX5_partedBits_12 : decode cX5_partedBits 12 = .ok (.if_icmp .ge 23, 3) := by decide +kernel
theorem dX5_partedBits_15 : decode cX5_partedBits 15 = .ok (.aload_n 0, 1) := by decide +kernel
theorem dX5_partedBits_16 : decode cX5_partedBits 16 = .ok (.iload_n 2, 1) := by decide +kernel
theorem dX5_partedBits_17 : decode cX5_partedBits 17 = .ok (.invokevirtual 55, 3) := by decide +kernel
theorem dX5_partedBits_20 : decode cX5_partedBits 20 = .ok (.ifCond .eq 9, 3) := by decide +kernel
theorem dX5_partedBits_23 : decode cX5_partedBits 23 = .ok (.iload_n 1, 1) := by decide +kernel
theorem dX5_partedBits_24 : decode cX5_partedBits 24 = .ok (.iconst 1, 1) := by decide +kernel
theorem dX5_partedBits_25 : decode cX5_partedBits 25 = .ok (.iload_n 2, 1) := by decide +kernel
theorem dX5_partedBits_26 : decode cX5_partedBits 26 = .ok (.ishl, 1) := by decide +kernel
theorem dX5_partedBits_27 : decode cX5_partedBits 27 = .ok (.ior, 1) := by decide +kernel
theorem dX5_partedBits_28 : decode cX5_partedBits 28 = .ok (.istore_n 1, 1) := by decide +kernel
theorem dX5_partedBits_29 : decode cX5_partedBits 29 = .ok (.iinc 2 1, 3) := by decide +kernel
theorem dX5_partedBits_32 : decode cX5_partedBits 32 = .ok (.goto (-28), 3) := by decide +kernel
theorem dX5_partedBits_35 : decode cX5_partedBits 35 = .ok (.iload_n 1, 1) := by decide +kernel
theorem dX5_partedBits_36 : decode cX5_partedBits 36 = .ok (.ireturn, 1) := by decide +kernel
theorem dX5_partedCount_0 : decode cX5_partedCount 0 = .ok (.aload_n 0, 1) := by decide +kernel
theorem dX5_partedCount_1 : decode cX5_partedCount 1 = .ok (.invokevirtual 65, 3) := by decide +kernel
theorem dX5_partedCount_4 : decode cX5_partedCount 4 = .ok (.invokestatic 69, 3) := by decide +kernel
theorem dX5_partedCount_7 : decode cX5_partedCount 7 = .ok (.ireturn, 1) := by decide +kernel
theorem dX5_countedOf_0 : decode cX5_countedOf 0 = .ok (.iconst 0, 1) := by decide +kernel
theorem dX5_countedOf_1 : decode cX5_countedOf 1 = .ok (.istore_n 3, 1) := by decide +kernel
theorem dX5_countedOf_2 : decode cX5_countedOf 2 = .ok (.iconst 0, 1) := by decide +kernel
theorem dX5_countedOf_3 : decode cX5_countedOf 3 = .ok (.istore 4, 2) := by decide +kernel
theorem dX5_countedOf_5 : decode cX5_countedOf 5 = .ok (.iload 4, 2) := by decide +kernel
theorem dX5_countedOf_7 : decode cX5_countedOf 7 = .ok (.iconst 4, 1) := by decide +kernel
theorem dX5_countedOf_8 : decode cX5_countedOf 8 = .ok (.if_icmp .ge 27, 3) := by decide +kernel
theorem dX5_countedOf_11 : decode cX5_countedOf 11 = .ok (.iload_n 3, 1) := by decide +kernel
theorem dX5_countedOf_12 : decode cX5_countedOf 12 = .ok (.aload_n 0, 1) := by decide +kernel
theorem dX5_countedOf_13 : decode cX5_countedOf 13 = .ok (.getfield 15, 3) := by decide +kernel
theorem dX5_countedOf_16 : decode cX5_countedOf 16 = .ok (.iload_n 1, 1) := by decide +kernel
theorem dX5_countedOf_17 : decode cX5_countedOf 17 = .ok (.iconst 5, 1) := by decide +kernel
theorem dX5_countedOf_18 : decode cX5_countedOf 18 = .ok (.imul, 1) := by decide +kernel
theorem dX5_countedOf_19 : decode cX5_countedOf 19 = .ok (.iload_n 2, 1) := by decide +kernel
theorem dX5_countedOf_20 : decode cX5_countedOf 20 = .ok (.iadd, 1) := by decide +kernel
theorem dX5_countedOf_21 : decode cX5_countedOf 21 = .ok (.iconst 4, 1) := by decide +kernel
theorem dX5_countedOf_22 : decode cX5_countedOf 22 = .ok (.imul, 1) := by decide +kernel
theorem dX5_countedOf_23 : decode cX5_countedOf 23 = .ok (.iload 4, 2) := by decide +kernel
theorem dX5_countedOf_25 : decode cX5_countedOf 25 = .ok (.iadd, 1) := by decide +kernel
theorem dX5_countedOf_26 : decode cX5_countedOf 26 = .ok (.iaload, 1) := by decide +kernel
theorem dX5_countedOf_27 : decode cX5_countedOf 27 = .ok (.iadd, 1) := by decide +kernel
theorem dX5_countedOf_28 : decode cX5_countedOf 28 = .ok (.istore_n 3, 1) := by decide +kernel
theorem dX5_countedOf_29 : decode cX5_countedOf 29 = .ok (.iinc 4 1, 3) := by decide +kernel
theorem dX5_countedOf_32 : decode cX5_countedOf 32 = .ok (.goto (-27), 3) := by decide +kernel
theorem dX5_countedOf_35 : decode cX5_countedOf 35 = .ok (.iload_n 3, 1) := by decide +kernel
theorem dX5_countedOf_36 : decode cX5_countedOf 36 = .ok (.ireturn, 1) := by decide +kernel
theorem dX5_counted_0 : decode cX5_counted 0 = .ok (.iconst 0, 1) := by decide +kernel
theorem dX5_counted_1 : decode cX5_counted 1 = .ok (.istore 4, 2) := by decide +kernel
theorem dX5_counted_3 : decode cX5_counted 3 = .ok (.iconst 0, 1) := by decide +kernel
theorem dX5_counted_4 : decode cX5_counted 4 = .ok (.istore 5, 2) := by decide +kernel
theorem dX5_counted_6 : decode cX5_counted 6 = .ok (.iload 5, 2) := by decide +kernel
theorem dX5_counted_8 : decode cX5_counted 8 = .ok (.aload_n 0, 1) := by decide +kernel
theorem dX5_counted_9 : decode cX5_counted 9 = .ok (.getfield 18, 3) := by decide +kernel
theorem dX5_counted_12 : decode cX5_counted 12 = .ok (.getfield 62, 3) := by decide +kernel
theorem dX5_counted_15 : decode cX5_counted 15 = .ok (.if_icmp .ge 39, 3) := by decide +kernel
theorem dX5_counted_18 : decode cX5_counted 18 = .ok (.iload_n 3, 1) := by decide +kernel
theorem dX5_counted_19 : decode cX5_counted 19 = .ok (.iload 5, 2) := by decide +kernel
theorem dX5_counted_21 : decode cX5_counted 21 = .ok (.ishr, 1) := by decide +kernel
theorem dX5_counted_22 : decode cX5_counted 22 = .ok (.iconst 1, 1) := by decide +kernel
theorem dX5_counted_23 : decode cX5_counted 23 = .ok (.iand, 1) := by decide +kernel
theorem dX5_counted_24 : decode cX5_counted 24 = .ok (.iconst 1, 1) := by decide +kernel
theorem dX5_counted_25 : decode cX5_counted 25 = .ok (.if_icmp .ne 23, 3) := by decide +kernel
theorem dX5_counted_28 : decode cX5_counted 28 = .ok (.iload 4, 2) := by decide +kernel
theorem dX5_counted_30 : decode cX5_counted 30 = .ok (.aload_n 0, 1) := by decide +kernel
theorem dX5_counted_31 : decode cX5_counted 31 = .ok (.getfield 15, 3) := by decide +kernel
theorem dX5_counted_34 : decode cX5_counted 34 = .ok (.iload_n 1, 1) := by decide +kernel
theorem dX5_counted_35 : decode cX5_counted 35 = .ok (.iconst 5, 1) := by decide +kernel
theorem dX5_counted_36 : decode cX5_counted 36 = .ok (.imul, 1) := by decide +kernel
theorem dX5_counted_37 : decode cX5_counted 37 = .ok (.iload 5, 2) := by decide +kernel
theorem dX5_counted_39 : decode cX5_counted 39 = .ok (.iadd, 1) := by decide +kernel
theorem dX5_counted_40 : decode cX5_counted 40 = .ok (.iconst 4, 1) := by decide +kernel
theorem dX5_counted_41 : decode cX5_counted 41 = .ok (.imul, 1) := by decide +kernel
theorem dX5_counted_42 : decode cX5_counted 42 = .ok (.iload_n 2, 1) := by decide +kernel
theorem dX5_counted_43 : decode cX5_counted 43 = .ok (.iadd, 1) := by decide +kernel
theorem dX5_counted_44 : decode cX5_counted 44 = .ok (.iaload, 1) := by decide +kernel
theorem dX5_counted_45 : decode cX5_counted 45 = .ok (.iadd, 1) := by decide +kernel
theorem dX5_counted_46 : decode cX5_counted 46 = .ok (.istore 4, 2) := by decide +kernel
theorem dX5_counted_48 : decode cX5_counted 48 = .ok (.iinc 5 1, 3) := by decide +kernel
theorem dX5_counted_51 : decode cX5_counted 51 = .ok (.goto (-45), 3) := by decide +kernel
theorem dX5_counted_54 : decode cX5_counted 54 = .ok (.iload 4, 2) := by decide +kernel
theorem dX5_counted_56 : decode cX5_counted 56 = .ok (.ireturn, 1) := by decide +kernel
theorem dX5_isDone_0 : decode cX5_isDone 0 = .ok (.aload_n 0, 1) := by decide +kernel
theorem dX5_isDone_1 : decode cX5_isDone 1 = .ok (.iload_n 2, 1) := by decide +kernel
theorem dX5_isDone_2 : decode cX5_isDone 2 = .ok (.aload_n 0, 1) := by decide +kernel
theorem dX5_isDone_3 : decode cX5_isDone 3 = .ok (.getfield 18, 3) := by decide +kernel
theorem dX5_isDone_6 : decode cX5_isDone 6 = .ok (.getfield 74, 3) := by decide +kernel
theorem dX5_isDone_9 : decode cX5_isDone 9 = .ok (.iload_n 1, 1) := by decide +kernel
theorem dX5_isDone_10 : decode cX5_isDone 10 = .ok (.iaload, 1) := by decide +kernel
theorem dX5_isDone_11 : decode cX5_isDone 11 = .ok (.iload_n 3, 1) := by decide +kernel
theorem dX5_isDone_12 : decode cX5_isDone 12 = .ok (.invokevirtual 77, 3) := by decide +kernel
theorem dX5_isDone_15 : decode cX5_isDone 15 = .ok (.aload_n 0, 1) := by decide +kernel
theorem dX5_isDone_16 : decode cX5_isDone 16 = .ok (.getfield 18, 3) := by decide +kernel
theorem dX5_isDone_19 : decode cX5_isDone 19 = .ok (.getfield 81, 3) := by decide +kernel
theorem dX5_isDone_22 : decode cX5_isDone 22 = .ok (.iload_n 1, 1) := by decide +kernel
theorem dX5_isDone_23 : decode cX5_isDone 23 = .ok (.iaload, 1) := by decide +kernel
theorem dX5_isDone_24 : decode cX5_isDone 24 = .ok (.if_icmp .lt 7, 3) := by decide +kernel
theorem dX5_isDone_27 : decode cX5_isDone 27 = .ok (.iconst 1, 1) := by decide +kernel
theorem dX5_isDone_28 : decode cX5_isDone 28 = .ok (.goto 4, 3) := by decide +kernel
theorem dX5_isDone_31 : decode cX5_isDone 31 = .ok (.iconst 0, 1) := by decide +kernel
theorem dX5_isDone_32 : decode cX5_isDone 32 = .ok (.ireturn, 1) := by decide +kernel
theorem dX5_deedBits_0 : decode cX5_deedBits 0 = .ok (.iconst 0, 1) := by decide +kernel
theorem dX5_deedBits_1 : decode cX5_deedBits 1 = .ok (.istore_n 3, 1) := by decide +kernel
theorem dX5_deedBits_2 : decode cX5_deedBits 2 = .ok (.iconst 0, 1) := by decide +kernel
theorem dX5_deedBits_3 : decode cX5_deedBits 3 = .ok (.istore 4, 2) := by decide +kernel
theorem dX5_deedBits_5 : decode cX5_deedBits 5 = .ok (.iload 4, 2) := by decide +kernel
theorem dX5_deedBits_7 : decode cX5_deedBits 7 = .ok (.aload_n 0, 1) := by decide +kernel
theorem dX5_deedBits_8 : decode cX5_deedBits 8 = .ok (.getfield 18, 3) := by decide +kernel
theorem dX5_deedBits_11 : decode cX5_deedBits 11 = .ok (.getfield 84, 3) := by decide +kernel
theorem dX5_deedBits_14 : decode cX5_deedBits 14 = .ok (.if_icmp .ge 27, 3) := by decide +kernel
theorem dX5_deedBits_17 : decode cX5_deedBits 17 = .ok (.aload_n 0, 1) := by decide +kernel
theorem dX5_deedBits_18 : decode cX5_deedBits 18 = .ok (.iload 4, 2) := by decide +kernel
theorem dX5_deedBits_20 : decode cX5_deedBits 20 = .ok (.iload_n 1, 1) := by decide +kernel
theorem dX5_deedBits_21 : decode cX5_deedBits 21 = .ok (.iload_n 2, 1) := by decide +kernel
theorem dX5_deedBits_22 : decode cX5_deedBits 22 = .ok (.invokevirtual 87, 3) := by decide +kernel
theorem dX5_deedBits_25 : decode cX5_deedBits 25 = .ok (.ifCond .eq 10, 3) := by decide +kernel
theorem dX5_deedBits_28 : decode cX5_deedBits 28 = .ok (.iload_n 3, 1) := by decide +kernel
theorem dX5_deedBits_29 : decode cX5_deedBits 29 = .ok (.iconst 1, 1) := by decide +kernel
theorem dX5_deedBits_30 : decode cX5_deedBits 30 = .ok (.iload 4, 2) := by decide +kernel
theorem dX5_deedBits_32 : decode cX5_deedBits 32 = .ok (.ishl, 1) := by decide +kernel
theorem dX5_deedBits_33 : decode cX5_deedBits 33 = .ok (.ior, 1) := by decide +kernel
theorem dX5_deedBits_34 : decode cX5_deedBits 34 = .ok (.istore_n 3, 1) := by decide +kernel
theorem dX5_deedBits_35 : decode cX5_deedBits 35 = .ok (.iinc 4 1, 3) := by decide +kernel
theorem dX5_deedBits_38 : decode cX5_deedBits 38 = .ok (.goto (-33), 3) := by decide +kernel
theorem dX5_deedBits_41 : decode cX5_deedBits 41 = .ok (.iload_n 3, 1) := by decide +kernel
theorem dX5_deedBits_42 : decode cX5_deedBits 42 = .ok (.ireturn, 1) := by decide +kernel
theorem dX5_deedCount_0 : decode cX5_deedCount 0 = .ok (.aload_n 0, 1) := by decide +kernel
theorem dX5_deedCount_1 : decode cX5_deedCount 1 = .ok (.iload_n 1, 1) := by decide +kernel
theorem dX5_deedCount_2 : decode cX5_deedCount 2 = .ok (.bipush 31, 2) := by decide +kernel
theorem dX5_deedCount_4 : decode cX5_deedCount 4 = .ok (.invokevirtual 91, 3) := by decide +kernel
theorem dX5_deedCount_7 : decode cX5_deedCount 7 = .ok (.invokestatic 69, 3) := by decide +kernel
theorem dX5_deedCount_10 : decode cX5_deedCount 10 = .ok (.ireturn, 1) := by decide +kernel
theorem dX5_worth_0 : decode cX5_worth 0 = .ok (.iconst 0, 1) := by decide +kernel
theorem dX5_worth_1 : decode cX5_worth 1 = .ok (.istore_n 3, 1) := by decide +kernel
theorem dX5_worth_2 : decode cX5_worth 2 = .ok (.iload_n 2, 1) := by decide +kernel
theorem dX5_worth_3 : decode cX5_worth 3 = .ok (.istore 4, 2) := by decide +kernel
theorem dX5_worth_5 : decode cX5_worth 5 = .ok (.iconst 3, 1) := by decide +kernel
theorem dX5_worth_6 : decode cX5_worth 6 = .ok (.istore 5, 2) := by decide +kernel
theorem dX5_worth_8 : decode cX5_worth 8 = .ok (.iload 5, 2) := by decide +kernel
theorem dX5_worth_10 : decode cX5_worth 10 = .ok (.ifCond .lt 34, 3) := by decide +kernel
theorem dX5_worth_13 : decode cX5_worth 13 = .ok (.iload_n 3, 1) := by decide +kernel
theorem dX5_worth_14 : decode cX5_worth 14 = .ok (.iload 4, 2) := by decide +kernel
theorem dX5_worth_16 : decode cX5_worth 16 = .ok (.bipush 10, 2) := by decide +kernel
theorem dX5_worth_18 : decode cX5_worth 18 = .ok (.irem, 1) := by decide +kernel
theorem dX5_worth_19 : decode cX5_worth 19 = .ok (.aload_n 0, 1) := by decide +kernel
theorem dX5_worth_20 : decode cX5_worth 20 = .ok (.iload_n 1, 1) := by decide +kernel
theorem dX5_worth_21 : decode cX5_worth 21 = .ok (.iload 5, 2) := by decide +kernel
theorem dX5_worth_23 : decode cX5_worth 23 = .ok (.bipush 31, 2) := by decide +kernel
theorem dX5_worth_25 : decode cX5_worth 25 = .ok (.invokevirtual 77, 3) := by decide +kernel
theorem dX5_worth_28 : decode cX5_worth 28 = .ok (.imul, 1) := by decide +kernel
theorem dX5_worth_29 : decode cX5_worth 29 = .ok (.iadd, 1) := by decide +kernel
theorem dX5_worth_30 : decode cX5_worth 30 = .ok (.istore_n 3, 1) := by decide +kernel
theorem dX5_worth_31 : decode cX5_worth 31 = .ok (.iload 4, 2) := by decide +kernel
theorem dX5_worth_33 : decode cX5_worth 33 = .ok (.bipush 10, 2) := by decide +kernel
theorem dX5_worth_35 : decode cX5_worth 35 = .ok (.idiv, 1) := by decide +kernel
theorem dX5_worth_36 : decode cX5_worth 36 = .ok (.istore 4, 2) := by decide +kernel
theorem dX5_worth_38 : decode cX5_worth 38 = .ok (.iinc 5 (-1), 3) := by decide +kernel
theorem dX5_worth_41 : decode cX5_worth 41 = .ok (.goto (-33), 3) := by decide +kernel
theorem dX5_worth_44 : decode cX5_worth 44 = .ok (.iload_n 3, 1) := by decide +kernel
theorem dX5_worth_45 : decode cX5_worth 45 = .ok (.ireturn, 1) := by decide +kernel
theorem dX6_init_0 : decode cX6_init 0 = .ok (.aload_n 0, 1) := by decide +kernel
theorem dX6_init_1 : decode cX6_init 1 = .ok (.invokespecial 3, 3) := by decide +kernel
theorem dX6_init_4 : decode cX6_init 4 = .ok (.aload_n 0, 1) := by decide +kernel
theorem dX6_init_5 : decode cX6_init 5 = .ok (.bipush 56, 2) := by decide +kernel
theorem dX6_init_7 : decode cX6_init 7 = .ok (.newarray .int, 2) := by decide +kernel
theorem dX6_init_9 : decode cX6_init 9 = .ok (.putfield 9, 3) := by decide +kernel
theorem dX6_init_12 : decode cX6_init 12 = .ok (.return_, 1) := by decide +kernel
theorem dX6_append_0 : decode cX6_append 0 = .ok (.aload_n 0, 1) := by decide +kernel
theorem dX6_append_1 : decode cX6_append 1 = .ok (.getfield 15, 3) := by decide +kernel
theorem dX6_append_4 : decode cX6_append 4 = .ok (.bipush 56, 2) := by decide +kernel
theorem dX6_append_6 : decode cX6_append 6 = .ok (.if_icmp .lt 5, 3) := by decide +kernel
theorem dX6_append_9 : decode cX6_append 9 = .ok (.iconst 0, 1) := by decide +kernel
theorem dX6_append_10 : decode cX6_append 10 = .ok (.ireturn, 1) := by decide +kernel
theorem dX6_append_11 : decode cX6_append 11 = .ok (.aload_n 0, 1) := by decide +kernel
theorem dX6_append_12 : decode cX6_append 12 = .ok (.getfield 9, 3) := by decide +kernel
theorem dX6_append_15 : decode cX6_append 15 = .ok (.aload_n 0, 1) := by decide +kernel
theorem dX6_append_16 : decode cX6_append 16 = .ok (.getfield 15, 3) := by decide +kernel
theorem dX6_append_19 : decode cX6_append 19 = .ok (.iload_n 1, 1) := by decide +kernel
theorem dX6_append_20 : decode cX6_append 20 = .ok (.iastore, 1) := by decide +kernel
theorem dX6_append_21 : decode cX6_append 21 = .ok (.aload_n 0, 1) := by decide +kernel
theorem dX6_append_22 : decode cX6_append 22 = .ok (.dup, 1) := by decide +kernel
theorem dX6_append_23 : decode cX6_append 23 = .ok (.getfield 15, 3) := by decide +kernel
theorem dX6_append_26 : decode cX6_append 26 = .ok (.iconst 1, 1) := by decide +kernel
theorem dX6_append_27 : decode cX6_append 27 = .ok (.iadd, 1) := by decide +kernel
theorem dX6_append_28 : decode cX6_append 28 = .ok (.putfield 15, 3) := by decide +kernel
theorem dX6_append_31 : decode cX6_append 31 = .ok (.iconst 1, 1) := by decide +kernel
theorem dX6_append_32 : decode cX6_append 32 = .ok (.ireturn, 1) := by decide +kernel
theorem dX6_readInto_0 : decode cX6_readInto 0 = .ok (.aload_n 1, 1) := by decide +kernel
theorem dX6_readInto_1 : decode cX6_readInto 1 = .ok (.invokevirtual 19, 3) := by decide +kernel
theorem dX6_readInto_4 : decode cX6_readInto 4 = .ok (.iconst 0, 1) := by decide +kernel
theorem dX6_readInto_5 : decode cX6_readInto 5 = .ok (.istore_n 2, 1) := by decide +kernel
theorem dX6_readInto_6 : decode cX6_readInto 6 = .ok (.iload_n 2, 1) := by decide +kernel
theorem dX6_readInto_7 : decode cX6_readInto 7 = .ok (.aload_n 0, 1) := by decide +kernel
theorem dX6_readInto_8 : decode cX6_readInto 8 = .ok (.getfield 15, 3) := by decide +kernel
theorem dX6_readInto_11 : decode cX6_readInto 11 = .ok (.if_icmp .ge 24, 3) := by decide +kernel
theorem dX6_readInto_14 : decode cX6_readInto 14 = .ok (.aload_n 1, 1) := by decide +kernel
theorem dX6_readInto_15 : decode cX6_readInto 15 = .ok (.aload_n 0, 1) := by decide +kernel
theorem dX6_readInto_16 : decode cX6_readInto 16 = .ok (.getfield 9, 3) := by decide +kernel
theorem dX6_readInto_19 : decode cX6_readInto 19 = .ok (.iload_n 2, 1) := by decide +kernel
theorem dX6_readInto_20 : decode cX6_readInto 20 = .ok (.iaload, 1) := by decide +kernel
theorem dX6_readInto_21 : decode cX6_readInto 21 = .ok (.invokevirtual 24, 3) := by decide +kernel
theorem dX6_readInto_24 : decode cX6_readInto 24 = .ok (.ifCond .ne 5, 3) := by decide +kernel
theorem dX6_readInto_27 : decode cX6_readInto 27 = .ok (.iload_n 2, 1) := by decide +kernel
theorem dX6_readInto_28 : decode cX6_readInto 28 = .ok (.ireturn, 1) := by decide +kernel
theorem dX6_readInto_29 : decode cX6_readInto 29 = .ok (.iinc 2 1, 3) := by decide +kernel
theorem dX6_readInto_32 : decode cX6_readInto 32 = .ok (.goto (-26), 3) := by decide +kernel
theorem dX6_readInto_35 : decode cX6_readInto 35 = .ok (.aload_n 1, 1) := by decide +kernel
theorem dX6_readInto_36 : decode cX6_readInto 36 = .ok (.invokevirtual 28, 3) := by decide +kernel
theorem dX6_readInto_39 : decode cX6_readInto 39 = .ok (.ifCond .eq 8, 3) := by decide +kernel
theorem dX6_readInto_42 : decode cX6_readInto 42 = .ok (.bipush (-9), 2) := by decide +kernel
theorem dX6_readInto_44 : decode cX6_readInto 44 = .ok (.goto 7, 3) := by decide +kernel
theorem dX6_readInto_47 : decode cX6_readInto 47 = .ok (.aload_n 0, 1) := by decide +kernel
theorem dX6_readInto_48 : decode cX6_readInto 48 = .ok (.getfield 15, 3) := by decide +kernel
theorem dX6_readInto_51 : decode cX6_readInto 51 = .ok (.ireturn, 1) := by decide +kernel
theorem dX7_init_0 : decode cX7_init 0 = .ok (.aload_n 0, 1) := by decide +kernel
theorem dX7_init_1 : decode cX7_init 1 = .ok (.invokespecial 3, 3) := by decide +kernel
theorem dX7_init_4 : decode cX7_init 4 = .ok (.aload_n 0, 1) := by decide +kernel
theorem dX7_init_5 : decode cX7_init 5 = .ok (.iconst 5, 1) := by decide +kernel
theorem dX7_init_6 : decode cX7_init 6 = .ok (.newarray .int, 2) := by decide +kernel
theorem dX7_init_8 : decode cX7_init 8 = .ok (.putfield 9, 3) := by decide +kernel
theorem dX7_init_11 : decode cX7_init 11 = .ok (.return_, 1) := by decide +kernel
theorem dX7_begin_0 : decode cX7_begin 0 = .ok (.aload_n 0, 1) := by decide +kernel
theorem dX7_begin_1 : decode cX7_begin 1 = .ok (.iconst 5, 1) := by decide +kernel
theorem dX7_begin_2 : decode cX7_begin 2 = .ok (.iload_n 1, 1) := by decide +kernel
theorem dX7_begin_3 : decode cX7_begin 3 = .ok (.invokestatic 15, 3) := by decide +kernel
theorem dX7_begin_6 : decode cX7_begin 6 = .ok (.putfield 21, 3) := by decide +kernel
theorem dX7_begin_9 : decode cX7_begin 9 = .ok (.aload_n 0, 1) := by decide +kernel
theorem dX7_begin_10 : decode cX7_begin 10 = .ok (.getfield 9, 3) := by decide +kernel
theorem dX7_begin_13 : decode cX7_begin 13 = .ok (.iconst 0, 1) := by decide +kernel
theorem dX7_begin_14 : decode cX7_begin 14 = .ok (.invokestatic 25, 3) := by decide +kernel
theorem dX7_begin_17 : decode cX7_begin 17 = .ok (.aload_n 0, 1) := by decide +kernel
theorem dX7_begin_18 : decode cX7_begin 18 = .ok (.iconst 1, 1) := by decide +kernel
theorem dX7_begin_19 : decode cX7_begin 19 = .ok (.putfield 31, 3) := by decide +kernel
theorem dX7_begin_22 : decode cX7_begin 22 = .ok (.return_, 1) := by decide +kernel
theorem dX7_figures_0 : decode cX7_figures 0 = .ok (.aload_n 0, 1) := by decide +kernel
theorem dX7_figures_1 : decode cX7_figures 1 = .ok (.getfield 9, 3) := by decide +kernel
theorem dX7_figures_4 : decode cX7_figures 4 = .ok (.aload_n 0, 1) := by decide +kernel
theorem dX7_figures_5 : decode cX7_figures 5 = .ok (.getfield 21, 3) := by decide +kernel
theorem dX7_figures_8 : decode cX7_figures 8 = .ok (.invokestatic 35, 3) := by decide +kernel
theorem dX7_figures_11 : decode cX7_figures 11 = .ok (.ireturn, 1) := by decide +kernel
theorem dX7_advance_0 : decode cX7_advance 0 = .ok (.aload_n 0, 1) := by decide +kernel
theorem dX7_advance_1 : decode cX7_advance 1 = .ok (.getfield 21, 3) := by decide +kernel
theorem dX7_advance_4 : decode cX7_advance 4 = .ok (.iconst 1, 1) := by decide +kernel
theorem dX7_advance_5 : decode cX7_advance 5 = .ok (.isub, 1) := by decide +kernel
theorem dX7_advance_6 : decode cX7_advance 6 = .ok (.istore_n 1, 1) := by decide +kernel
theorem dX7_advance_7 : decode cX7_advance 7 = .ok (.iload_n 1, 1) := by decide +kernel
theorem dX7_advance_8 : decode cX7_advance 8 = .ok (.ifCond .lt 56, 3) := by decide +kernel
theorem dX7_advance_11 : decode cX7_advance 11 = .ok (.aload_n 0, 1) := by decide +kernel
theorem dX7_advance_12 : decode cX7_advance 12 = .ok (.getfield 9, 3) := by decide +kernel
theorem dX7_advance_15 : decode cX7_advance 15 = .ok (.iload_n 1, 1) := by decide +kernel
theorem dX7_advance_16 : decode cX7_advance 16 = .ok (.iaload, 1) := by decide +kernel
theorem dX7_advance_17 : decode cX7_advance 17 = .ok (.iconst 5, 1) := by decide +kernel
theorem dX7_advance_18 : decode cX7_advance 18 = .ok (.if_icmp .ge 40, 3) := by decide +kernel
theorem dX7_advance_21 : decode cX7_advance 21 = .ok (.iload_n 1, 1) := by decide +kernel
theorem dX7_advance_22 : decode cX7_advance 22 = .ok (.ifCond .eq 20, 3) := by decide +kernel
theorem dX7_advance_25 : decode cX7_advance 25 = .ok (.aload_n 0, 1) := by decide +kernel
theorem dX7_advance_26 : decode cX7_advance 26 = .ok (.getfield 9, 3) := by decide +kernel
theorem dX7_advance_29 : decode cX7_advance 29 = .ok (.iload_n 1, 1) := by decide +kernel
theorem dX7_advance_30 : decode cX7_advance 30 = .ok (.iaload, 1) := by decide +kernel
theorem dX7_advance_31 : decode cX7_advance 31 = .ok (.aload_n 0, 1) := by decide +kernel
theorem dX7_advance_32 : decode cX7_advance 32 = .ok (.getfield 9, 3) := by decide +kernel
theorem dX7_advance_35 : decode cX7_advance 35 = .ok (.iload_n 1, 1) := by decide +kernel
theorem dX7_advance_36 : decode cX7_advance 36 = .ok (.iconst 1, 1) := by decide +kernel
theorem dX7_advance_37 : decode cX7_advance 37 = .ok (.isub, 1) := by decide +kernel
theorem dX7_advance_38 : decode cX7_advance 38 = .ok (.iaload, 1) := by decide +kernel
theorem dX7_advance_39 : decode cX7_advance 39 = .ok (.if_icmp .gt 19, 3) := by decide +kernel
theorem dX7_advance_42 : decode cX7_advance 42 = .ok (.aload_n 0, 1) := by decide +kernel
theorem dX7_advance_43 : decode cX7_advance 43 = .ok (.getfield 9, 3) := by decide +kernel
theorem dX7_advance_46 : decode cX7_advance 46 = .ok (.iload_n 1, 1) := by decide +kernel
theorem dX7_advance_47 : decode cX7_advance 47 = .ok (.dup2, 1) := by decide +kernel
theorem dX7_advance_48 : decode cX7_advance 48 = .ok (.iaload, 1) := by decide +kernel
theorem dX7_advance_49 : decode cX7_advance 49 = .ok (.iconst 1, 1) := by decide +kernel
theorem dX7_advance_50 : decode cX7_advance 50 = .ok (.iadd, 1) := by decide +kernel
theorem dX7_advance_51 : decode cX7_advance 51 = .ok (.iastore, 1) := by decide +kernel
theorem dX7_advance_52 : decode cX7_advance 52 = .ok (.aload_n 0, 1) := by decide +kernel
theorem dX7_advance_53 : decode cX7_advance 53 = .ok (.iload_n 1, 1) := by decide +kernel
theorem dX7_advance_54 : decode cX7_advance 54 = .ok (.invokevirtual 39, 3) := by decide +kernel
theorem dX7_advance_57 : decode cX7_advance 57 = .ok (.return_, 1) := by decide +kernel
theorem dX7_advance_58 : decode cX7_advance 58 = .ok (.iinc 1 (-1), 3) := by decide +kernel
theorem dX7_advance_61 : decode cX7_advance 61 = .ok (.goto (-54), 3) := by decide +kernel
theorem dX7_advance_64 : decode cX7_advance 64 = .ok (.aload_n 0, 1) := by decide +kernel
theorem dX7_advance_65 : decode cX7_advance 65 = .ok (.iconst 0, 1) := by decide +kernel
theorem dX7_advance_66 : decode cX7_advance 66 = .ok (.putfield 31, 3) := by decide +kernel
theorem dX7_advance_69 : decode cX7_advance 69 = .ok (.return_, 1) := by decide +kernel
theorem dX7_putLeastBehind_0 : decode cX7_putLeastBehind 0 = .ok (.iload_n 1, 1) := by decide +kernel
theorem dX7_putLeastBehind_1 : decode cX7_putLeastBehind 1 = .ok (.iconst 1, 1) := by decide +kernel
theorem dX7_putLeastBehind_2 : decode cX7_putLeastBehind 2 = .ok (.iadd, 1) := by decide +kernel
theorem dX7_putLeastBehind_3 : decode cX7_putLeastBehind 3 = .ok (.istore_n 2, 1) := by decide +kernel
theorem dX7_putLeastBehind_4 : decode cX7_putLeastBehind 4 = .ok (.iload_n 2, 1) := by decide +kernel
theorem dX7_putLeastBehind_5 : decode cX7_putLeastBehind 5 = .ok (.aload_n 0, 1) := by decide +kernel
theorem dX7_putLeastBehind_6 : decode cX7_putLeastBehind 6 = .ok (.getfield 21, 3) := by decide +kernel
theorem dX7_putLeastBehind_9 : decode cX7_putLeastBehind 9 = .ok (.if_icmp .ge 29, 3) := by decide +kernel
theorem dX7_putLeastBehind_12 : decode cX7_putLeastBehind 12 = .ok (.aload_n 0, 1) := by decide +kernel
theorem dX7_putLeastBehind_13 : decode cX7_putLeastBehind 13 = .ok (.getfield 9, 3) := by decide +kernel
theorem dX7_putLeastBehind_16 : decode cX7_putLeastBehind 16 = .ok (.iload_n 2, 1) := by decide +kernel
theorem dX7_putLeastBehind_17 : decode cX7_putLeastBehind 17 = .ok (.iconst 0, 1) := by decide +kernel
theorem dX7_putLeastBehind_18 : decode cX7_putLeastBehind 18 = .ok (.aload_n 0, 1) := by decide +kernel
theorem dX7_putLeastBehind_19 : decode cX7_putLeastBehind 19 = .ok (.getfield 9, 3) := by decide +kernel
theorem dX7_putLeastBehind_22 : decode cX7_putLeastBehind 22 = .ok (.iload_n 2, 1) := by decide +kernel
theorem dX7_putLeastBehind_23 : decode cX7_putLeastBehind 23 = .ok (.iconst 1, 1) := by decide +kernel
theorem dX7_putLeastBehind_24 : decode cX7_putLeastBehind 24 = .ok (.isub, 1) := by decide +kernel
theorem dX7_putLeastBehind_25 : decode cX7_putLeastBehind 25 = .ok (.iaload, 1) := by decide +kernel
theorem dX7_putLeastBehind_26 : decode cX7_putLeastBehind 26 = .ok (.iconst 1, 1) := by decide +kernel
theorem dX7_putLeastBehind_27 : decode cX7_putLeastBehind 27 = .ok (.isub, 1) := by decide +kernel
theorem dX7_putLeastBehind_28 : decode cX7_putLeastBehind 28 = .ok (.invokestatic 43, 3) := by decide +kernel
theorem dX7_putLeastBehind_31 : decode cX7_putLeastBehind 31 = .ok (.iastore, 1) := by decide +kernel
theorem dX7_putLeastBehind_32 : decode cX7_putLeastBehind 32 = .ok (.iinc 2 1, 3) := by decide +kernel
theorem dX7_putLeastBehind_35 : decode cX7_putLeastBehind 35 = .ok (.goto (-31), 3) := by decide +kernel
theorem dX7_putLeastBehind_38 : decode cX7_putLeastBehind 38 = .ok (.return_, 1) := by decide +kernel
theorem dX8_init_0 : decode cX8_init 0 = .ok (.aload_n 0, 1) := by decide +kernel
theorem dX8_init_1 : decode cX8_init 1 = .ok (.invokespecial 3, 3) := by decide +kernel
theorem dX8_init_4 : decode cX8_init 4 = .ok (.aload_n 0, 1) := by decide +kernel
theorem dX8_init_5 : decode cX8_init 5 = .ok (.new 9, 3) := by decide +kernel
theorem dX8_init_8 : decode cX8_init 8 = .ok (.dup, 1) := by decide +kernel
theorem dX8_init_9 : decode cX8_init 9 = .ok (.invokespecial 11, 3) := by decide +kernel
theorem dX8_init_12 : decode cX8_init 12 = .ok (.putfield 12, 3) := by decide +kernel
theorem dX8_init_15 : decode cX8_init 15 = .ok (.aload_n 0, 1) := by decide +kernel
theorem dX8_init_16 : decode cX8_init 16 = .ok (.new 16, 3) := by decide +kernel
theorem dX8_init_19 : decode cX8_init 19 = .ok (.dup, 1) := by decide +kernel
theorem dX8_init_20 : decode cX8_init 20 = .ok (.invokespecial 18, 3) := by decide +kernel
theorem dX8_init_23 : decode cX8_init 23 = .ok (.putfield 19, 3) := by decide +kernel
theorem dX8_init_26 : decode cX8_init 26 = .ok (.aload_n 0, 1) := by decide +kernel
theorem dX8_init_27 : decode cX8_init 27 = .ok (.new 16, 3) := by decide +kernel
theorem dX8_init_30 : decode cX8_init 30 = .ok (.dup, 1) := by decide +kernel
theorem dX8_init_31 : decode cX8_init 31 = .ok (.invokespecial 18, 3) := by decide +kernel
theorem dX8_init_34 : decode cX8_init 34 = .ok (.putfield 23, 3) := by decide +kernel
theorem dX8_init_37 : decode cX8_init 37 = .ok (.aload_n 0, 1) := by decide +kernel
theorem dX8_init_38 : decode cX8_init 38 = .ok (.new 26, 3) := by decide +kernel
theorem dX8_init_41 : decode cX8_init 41 = .ok (.dup, 1) := by decide +kernel
theorem dX8_init_42 : decode cX8_init 42 = .ok (.aload_n 0, 1) := by decide +kernel
theorem dX8_init_43 : decode cX8_init 43 = .ok (.getfield 19, 3) := by decide +kernel
theorem dX8_init_46 : decode cX8_init 46 = .ok (.invokespecial 28, 3) := by decide +kernel
theorem dX8_init_49 : decode cX8_init 49 = .ok (.putfield 31, 3) := by decide +kernel
theorem dX8_init_52 : decode cX8_init 52 = .ok (.aload_n 0, 1) := by decide +kernel
theorem dX8_init_53 : decode cX8_init 53 = .ok (.new 26, 3) := by decide +kernel
theorem dX8_init_56 : decode cX8_init 56 = .ok (.dup, 1) := by decide +kernel
theorem dX8_init_57 : decode cX8_init 57 = .ok (.aload_n 0, 1) := by decide +kernel
theorem dX8_init_58 : decode cX8_init 58 = .ok (.getfield 19, 3) := by decide +kernel
theorem dX8_init_61 : decode cX8_init 61 = .ok (.invokespecial 28, 3) := by decide +kernel
theorem dX8_init_64 : decode cX8_init 64 = .ok (.putfield 35, 3) := by decide +kernel
theorem dX8_init_67 : decode cX8_init 67 = .ok (.aload_n 0, 1) := by decide +kernel
theorem dX8_init_68 : decode cX8_init 68 = .ok (.iconst 2, 1) := by decide +kernel
theorem dX8_init_69 : decode cX8_init 69 = .ok (.anewarray 26, 3) := by decide +kernel
theorem dX8_init_72 : decode cX8_init 72 = .ok (.putfield 38, 3) := by decide +kernel
theorem dX8_init_75 : decode cX8_init 75 = .ok (.iconst 0, 1) := by decide +kernel
theorem dX8_init_76 : decode cX8_init 76 = .ok (.istore_n 1, 1) := by decide +kernel
theorem dX8_init_77 : decode cX8_init 77 = .ok (.iload_n 1, 1) := by decide +kernel
theorem dX8_init_78 : decode cX8_init 78 = .ok (.iconst 2, 1) := by decide +kernel
theorem dX8_init_79 : decode cX8_init 79 = .ok (.if_icmp .ge 26, 3) := by decide +kernel
theorem dX8_init_82 : decode cX8_init 82 = .ok (.aload_n 0, 1) := by decide +kernel
theorem dX8_init_83 : decode cX8_init 83 = .ok (.getfield 38, 3) := by decide +kernel
theorem dX8_init_86 : decode cX8_init 86 = .ok (.iload_n 1, 1) := by decide +kernel
theorem dX8_init_87 : decode cX8_init 87 = .ok (.new 26, 3) := by decide +kernel
theorem dX8_init_90 : decode cX8_init 90 = .ok (.dup, 1) := by decide +kernel
theorem dX8_init_91 : decode cX8_init 91 = .ok (.aload_n 0, 1) := by decide +kernel
theorem dX8_init_92 : decode cX8_init 92 = .ok (.getfield 19, 3) := by decide +kernel
theorem dX8_init_95 : decode cX8_init 95 = .ok (.invokespecial 28, 3) := by decide +kernel
theorem dX8_init_98 : decode cX8_init 98 = .ok (.aastore, 1) := by decide +kernel
theorem dX8_init_99 : decode cX8_init 99 = .ok (.iinc 1 1, 3) := by decide +kernel
theorem dX8_init_102 : decode cX8_init 102 = .ok (.goto (-25), 3) := by decide +kernel
theorem dX8_init_105 : decode cX8_init 105 = .ok (.aload_n 0, 1) := by decide +kernel
theorem dX8_init_106 : decode cX8_init 106 = .ok (.iconst 2, 1) := by decide +kernel
theorem dX8_init_107 : decode cX8_init 107 = .ok (.newarray .boolean, 2) := by decide +kernel
theorem dX8_init_109 : decode cX8_init 109 = .ok (.putfield 42, 3) := by decide +kernel
theorem dX8_init_112 : decode cX8_init 112 = .ok (.aload_n 0, 1) := by decide +kernel
theorem dX8_init_113 : decode cX8_init 113 = .ok (.new 46, 3) := by decide +kernel
theorem dX8_init_116 : decode cX8_init 116 = .ok (.dup, 1) := by decide +kernel
theorem dX8_init_117 : decode cX8_init 117 = .ok (.invokespecial 48, 3) := by decide +kernel
theorem dX8_init_120 : decode cX8_init 120 = .ok (.putfield 49, 3) := by decide +kernel
theorem dX8_init_123 : decode cX8_init 123 = .ok (.aload_n 0, 1) := by decide +kernel
theorem dX8_init_124 : decode cX8_init 124 = .ok (.new 53, 3) := by decide +kernel
theorem dX8_init_127 : decode cX8_init 127 = .ok (.dup, 1) := by decide +kernel
theorem dX8_init_128 : decode cX8_init 128 = .ok (.aload_n 0, 1) := by decide +kernel
theorem dX8_init_129 : decode cX8_init 129 = .ok (.getfield 19, 3) := by decide +kernel
theorem dX8_init_132 : decode cX8_init 132 = .ok (.invokespecial 55, 3) := by decide +kernel
theorem dX8_init_135 : decode cX8_init 135 = .ok (.putfield 56, 3) := by decide +kernel
theorem dX8_init_138 : decode cX8_init 138 = .ok (.aload_n 0, 1) := by decide +kernel
theorem dX8_init_139 : decode cX8_init 139 = .ok (.new 60, 3) := by decide +kernel
theorem dX8_init_142 : decode cX8_init 142 = .ok (.dup, 1) := by decide +kernel
theorem dX8_init_143 : decode cX8_init 143 = .ok (.invokespecial 62, 3) := by decide +kernel
theorem dX8_init_146 : decode cX8_init 146 = .ok (.putfield 63, 3) := by decide +kernel
theorem dX8_init_149 : decode cX8_init 149 = .ok (.aload_n 0, 1) := by decide +kernel
theorem dX8_init_150 : decode cX8_init 150 = .ok (.new 67, 3) := by decide +kernel
theorem dX8_init_153 : decode cX8_init 153 = .ok (.dup, 1) := by decide +kernel
theorem dX8_init_154 : decode cX8_init 154 = .ok (.invokespecial 69, 3) := by decide +kernel
theorem dX8_init_157 : decode cX8_init 157 = .ok (.putfield 70, 3) := by decide +kernel
theorem dX8_init_160 : decode cX8_init 160 = .ok (.aload_n 0, 1) := by decide +kernel
theorem dX8_init_161 : decode cX8_init 161 = .ok (.new 74, 3) := by decide +kernel
theorem dX8_init_164 : decode cX8_init 164 = .ok (.dup, 1) := by decide +kernel
theorem dX8_init_165 : decode cX8_init 165 = .ok (.invokespecial 76, 3) := by decide +kernel
theorem dX8_init_168 : decode cX8_init 168 = .ok (.putfield 77, 3) := by decide +kernel
theorem dX8_init_171 : decode cX8_init 171 = .ok (.aload_n 0, 1) := by decide +kernel
theorem dX8_init_172 : decode cX8_init 172 = .ok (.lconst 0, 1) := by decide +kernel
theorem dX8_init_173 : decode cX8_init 173 = .ok (.putfield 81, 3) := by decide +kernel
theorem dX8_init_176 : decode cX8_init 176 = .ok (.return_, 1) := by decide +kernel
theorem dX8_write_0 : decode cX8_write 0 = .ok (.iload_n 1, 1) := by decide +kernel
theorem dX8_write_1 : decode cX8_write 1 = .ok (.ifCond .lt 10, 3) := by decide +kernel
theorem dX8_write_4 : decode cX8_write 4 = .ok (.iload_n 1, 1) := by decide +kernel
theorem dX8_write_5 : decode cX8_write 5 = .ok (.sipush 255, 3) := by decide +kernel
theorem dX8_write_8 : decode cX8_write 8 = .ok (.if_icmp .le 6, 3) := by decide +kernel
theorem dX8_write_11 : decode cX8_write 11 = .ok (.bipush (-2), 2) := by decide +kernel
theorem dX8_write_13 : decode cX8_write 13 = .ok (.ireturn, 1) := by decide +kernel
theorem dX8_write_14 : decode cX8_write 14 = .ok (.aload_n 0, 1) := by decide +kernel
theorem dX8_write_15 : decode cX8_write 15 = .ok (.getfield 12, 3) := by decide +kernel
theorem dX8_write_18 : decode cX8_write 18 = .ok (.iload_n 1, 1) := by decide +kernel
theorem dX8_write_19 : decode cX8_write 19 = .ok (.invokevirtual 85, 3) := by decide +kernel
theorem dX8_write_22 : decode cX8_write 22 = .ok (.ifCond .eq 13, 3) := by decide +kernel
theorem dX8_write_25 : decode cX8_write 25 = .ok (.aload_n 0, 1) := by decide +kernel
theorem dX8_write_26 : decode cX8_write 26 = .ok (.getfield 12, 3) := by decide +kernel
theorem dX8_write_29 : decode cX8_write 29 = .ok (.getfield 89, 3) := by decide +kernel
theorem dX8_write_32 : decode cX8_write 32 = .ok (.goto 5, 3) := by decide +kernel
theorem dX8_write_35 : decode cX8_write 35 = .ok (.bipush (-4), 2) := by decide +kernel
theorem dX8_write_37 : decode cX8_write 37 = .ok (.ireturn, 1) := by decide +kernel
theorem dX8_wipe_0 : decode cX8_wipe 0 = .ok (.aload_n 0, 1) := by decide +kernel
theorem dX8_wipe_1 : decode cX8_wipe 1 = .ok (.getfield 12, 3) := by decide +kernel
theorem dX8_wipe_4 : decode cX8_wipe 4 = .ok (.getfield 89, 3) := by decide +kernel
theorem dX8_wipe_7 : decode cX8_wipe 7 = .ok (.istore_n 1, 1) := by decide +kernel
theorem dX8_wipe_8 : decode cX8_wipe 8 = .ok (.aload_n 0, 1) := by decide +kernel
theorem dX8_wipe_9 : decode cX8_wipe 9 = .ok (.getfield 12, 3) := by decide +kernel
theorem dX8_wipe_12 : decode cX8_wipe 12 = .ok (.iconst 0, 1) := by decide +kernel
theorem dX8_wipe_13 : decode cX8_wipe 13 = .ok (.putfield 89, 3) := by decide +kernel
theorem dX8_wipe_16 : decode cX8_wipe 16 = .ok (.iload_n 1, 1) := by decide +kernel
theorem dX8_wipe_17 : decode cX8_wipe 17 = .ok (.ireturn, 1) := by decide +kernel
theorem dX8_fault_0 : decode cX8_fault 0 = .ok (.aload_n 0, 1) := by decide +kernel
theorem dX8_fault_1 : decode cX8_fault 1 = .ok (.getfield 12, 3) := by decide +kernel
theorem dX8_fault_4 : decode cX8_fault 4 = .ok (.aload_n 0, 1) := by decide +kernel
theorem dX8_fault_5 : decode cX8_fault 5 = .ok (.getfield 23, 3) := by decide +kernel
theorem dX8_fault_8 : decode cX8_fault 8 = .ok (.invokevirtual 93, 3) := by decide +kernel
theorem dX8_fault_11 : decode cX8_fault 11 = .ok (.ireturn, 1) := by decide +kernel
theorem dX8_family_0 : decode cX8_family 0 = .ok (.aload_n 0, 1) := by decide +kernel
theorem dX8_family_1 : decode cX8_family 1 = .ok (.getfield 12, 3) := by decide +kernel
theorem dX8_family_4 : decode cX8_family 4 = .ok (.aload_n 0, 1) := by decide +kernel
theorem dX8_family_5 : decode cX8_family 5 = .ok (.getfield 23, 3) := by decide +kernel
theorem dX8_family_8 : decode cX8_family 8 = .ok (.invokevirtual 93, 3) := by decide +kernel
theorem dX8_family_11 : decode cX8_family 11 = .ok (.bipush (-9), 2) := by decide +kernel
theorem dX8_family_13 : decode cX8_family 13 = .ok (.if_icmp .eq 6, 3) := by decide +kernel
theorem dX8_family_16 : decode cX8_family 16 = .ok (.bipush (-3), 2) := by decide +kernel
theorem dX8_family_18 : decode cX8_family 18 = .ok (.ireturn, 1) := by decide +kernel
theorem dX8_family_19 : decode cX8_family 19 = .ok (.aload_n 0, 1) := by decide +kernel
theorem dX8_family_20 : decode cX8_family 20 = .ok (.getfield 12, 3) := by decide +kernel
theorem dX8_family_23 : decode cX8_family 23 = .ok (.aload_n 0, 1) := by decide +kernel
theorem dX8_family_24 : decode cX8_family 24 = .ok (.getfield 19, 3) := by decide +kernel
theorem dX8_family_27 : decode cX8_family 27 = .ok (.invokevirtual 93, 3) := by decide +kernel
theorem dX8_family_30 : decode cX8_family 30 = .ok (.pop, 1) := by decide +kernel
theorem dX8_family_31 : decode cX8_family 31 = .ok (.aload_n 0, 1) := by decide +kernel
theorem dX8_family_32 : decode cX8_family 32 = .ok (.getfield 31, 3) := by decide +kernel
theorem dX8_family_35 : decode cX8_family 35 = .ok (.invokevirtual 97, 3) := by decide +kernel
theorem dX8_family_38 : decode cX8_family 38 = .ok (.aload_n 0, 1) := by decide +kernel
theorem dX8_family_39 : decode cX8_family 39 = .ok (.getfield 49, 3) := by decide +kernel
theorem dX8_family_42 : decode cX8_family 42 = .ok (.invokevirtual 100, 3) := by decide +kernel
theorem dX8_family_45 : decode cX8_family 45 = .ok (.iconst 0, 1) := by decide +kernel
theorem dX8_family_46 : decode cX8_family 46 = .ok (.istore_n 1, 1) := by decide +kernel
theorem dX8_family_47 : decode cX8_family 47 = .ok (.iload_n 1, 1) := by decide +kernel
theorem dX8_family_48 : decode cX8_family 48 = .ok (.iconst 2, 1) := by decide +kernel
theorem dX8_family_49 : decode cX8_family 49 = .ok (.if_icmp .ge 16, 3) := by decide +kernel
theorem dX8_family_52 : decode cX8_family 52 = .ok (.aload_n 0, 1) := by decide +kernel
theorem dX8_family_53 : decode cX8_family 53 = .ok (.getfield 42, 3) := by decide +kernel
theorem dX8_family_56 : decode cX8_family 56 = .ok (.iload_n 1, 1) := by decide +kernel
theorem dX8_family_57 : decode cX8_family 57 = .ok (.iconst 0, 1) := by decide +kernel
theorem dX8_family_58 : decode cX8_family 58 = .ok (.bastore, 1) := by decide +kernel
theorem dX8_family_59 : decode cX8_family 59 = .ok (.iinc 1 1, 3) := by decide +kernel
theorem dX8_family_62 : decode cX8_family 62 = .ok (.goto (-15), 3) := by decide +kernel
theorem dX8_family_65 : decode cX8_family 65 = .ok (.bipush 100, 2) := by decide +kernel
theorem dX8_family_67 : decode cX8_family 67 = .ok (.aload_n 0, 1) := by decide +kernel
theorem dX8_family_68 : decode cX8_family 68 = .ok (.getfield 19, 3) := by decide +kernel
theorem dX8_family_71 : decode cX8_family 71 = .ok (.getfield 103, 3) := by decide +kernel
theorem dX8_family_74 : decode cX8_family 74 = .ok (.imul, 1) := by decide +kernel
theorem dX8_family_75 : decode cX8_family 75 = .ok (.bipush 10, 2) := by decide +kernel
theorem dX8_family_77 : decode cX8_family 77 = .ok (.aload_n 0, 1) := by decide +kernel
theorem dX8_family_78 : decode cX8_family 78 = .ok (.getfield 19, 3) := by decide +kernel
theorem dX8_family_81 : decode cX8_family 81 = .ok (.getfield 106, 3) := by decide +kernel
theorem dX8_family_84 : decode cX8_family 84 = .ok (.imul, 1) := by decide +kernel
theorem dX8_family_85 : decode cX8_family 85 = .ok (.iadd, 1) := by decide +kernel
theorem dX8_family_86 : decode cX8_family 86 = .ok (.aload_n 0, 1) := by decide +kernel
theorem dX8_family_87 : decode cX8_family 87 = .ok (.getfield 19, 3) := by decide +kernel
theorem dX8_family_90 : decode cX8_family 90 = .ok (.getfield 109, 3) := by decide +kernel
theorem dX8_family_93 : decode cX8_family 93 = .ok (.iadd, 1) := by decide +kernel
theorem dX8_family_94 : decode cX8_family 94 = .ok (.ireturn, 1) := by decide +kernel
theorem dX8_about_0 : decode cX8_about 0 = .ok (.iload_n 1, 1) := by decide +kernel
theorem dX8_about_1 : decode cX8_about 1 = .ok (.tableswitch 144 0 10 #[59, 67, 75, 83, 91, 99, 107, 115, 120, 128, 136], 59) := by decide +kernel
theorem dX8_about_60 : decode cX8_about 60 = .ok (.aload_n 0, 1) := by decide +kernel
theorem dX8_about_61 : decode cX8_about 61 = .ok (.getfield 19, 3) := by decide +kernel
theorem dX8_about_64 : decode cX8_about 64 = .ok (.getfield 103, 3) := by decide +kernel
theorem dX8_about_67 : decode cX8_about 67 = .ok (.ireturn, 1) := by decide +kernel
theorem dX8_about_68 : decode cX8_about 68 = .ok (.aload_n 0, 1) := by decide +kernel
theorem dX8_about_69 : decode cX8_about 69 = .ok (.getfield 19, 3) := by decide +kernel
theorem dX8_about_72 : decode cX8_about 72 = .ok (.getfield 106, 3) := by decide +kernel
theorem dX8_about_75 : decode cX8_about 75 = .ok (.ireturn, 1) := by decide +kernel
theorem dX8_about_76 : decode cX8_about 76 = .ok (.aload_n 0, 1) := by decide +kernel
theorem dX8_about_77 : decode cX8_about 77 = .ok (.getfield 19, 3) := by decide +kernel
theorem dX8_about_80 : decode cX8_about 80 = .ok (.getfield 109, 3) := by decide +kernel
theorem dX8_about_83 : decode cX8_about 83 = .ok (.ireturn, 1) := by decide +kernel
theorem dX8_about_84 : decode cX8_about 84 = .ok (.aload_n 0, 1) := by decide +kernel
theorem dX8_about_85 : decode cX8_about 85 = .ok (.getfield 31, 3) := by decide +kernel
theorem dX8_about_88 : decode cX8_about 88 = .ok (.getfield 112, 3) := by decide +kernel
theorem dX8_about_91 : decode cX8_about 91 = .ok (.ireturn, 1) := by decide +kernel
theorem dX8_about_92 : decode cX8_about 92 = .ok (.aload_n 0, 1) := by decide +kernel
theorem dX8_about_93 : decode cX8_about 93 = .ok (.getfield 31, 3) := by decide +kernel
theorem dX8_about_96 : decode cX8_about 96 = .ok (.invokevirtual 115, 3) := by decide +kernel
theorem dX8_about_99 : decode cX8_about 99 = .ok (.ireturn, 1) := by decide +kernel
theorem dX8_about_100 : decode cX8_about 100 = .ok (.aload_n 0, 1) := by decide +kernel
theorem dX8_about_101 : decode cX8_about 101 = .ok (.getfield 31, 3) := by decide +kernel
theorem dX8_about_104 : decode cX8_about 104 = .ok (.invokevirtual 119, 3) := by decide +kernel
theorem dX8_about_107 : decode cX8_about 107 = .ok (.ireturn, 1) := by decide +kernel
theorem dX8_about_108 : decode cX8_about 108 = .ok (.aload_n 0, 1) := by decide +kernel
theorem dX8_about_109 : decode cX8_about 109 = .ok (.invokevirtual 122, 3) := by decide +kernel
theorem dX8_about_112 : decode cX8_about 112 = .ok (.invokevirtual 126, 3) := by decide +kernel
theorem dX8_about_115 : decode cX8_about 115 = .ok (.ireturn, 1) := by decide +kernel
theorem dX8_about_116 : decode cX8_about 116 = .ok (.aload_n 0, 1) := by decide +kernel
theorem dX8_about_117 : decode cX8_about 117 = .ok (.invokevirtual 129, 3) := by decide +kernel
theorem dX8_about_120 : decode cX8_about 120 = .ok (.ireturn, 1) := by decide +kernel
theorem dX8_about_121 : decode cX8_about 121 = .ok (.aload_n 0, 1) := by decide +kernel
theorem dX8_about_122 : decode cX8_about 122 = .ok (.getfield 49, 3) := by decide +kernel
theorem dX8_about_125 : decode cX8_about 125 = .ok (.getfield 132, 3) := by decide +kernel
theorem dX8_about_128 : decode cX8_about 128 = .ok (.ireturn, 1) := by decide +kernel
theorem dX8_about_129 : decode cX8_about 129 = .ok (.aload_n 0, 1) := by decide +kernel
theorem dX8_about_130 : decode cX8_about 130 = .ok (.getfield 63, 3) := by decide +kernel
theorem dX8_about_133 : decode cX8_about 133 = .ok (.getfield 135, 3) := by decide +kernel
theorem dX8_about_136 : decode cX8_about 136 = .ok (.ireturn, 1) := by decide +kernel
theorem dX8_about_137 : decode cX8_about 137 = .ok (.aload_n 0, 1) := by decide +kernel
theorem dX8_about_138 : decode cX8_about 138 = .ok (.getfield 12, 3) := by decide +kernel
theorem dX8_about_141 : decode cX8_about 141 = .ok (.getfield 89, 3) := by decide +kernel
theorem dX8_about_144 : decode cX8_about 144 = .ok (.ireturn, 1) := by decide +kernel
theorem dX8_about_145 : decode cX8_about 145 = .ok (.bipush (-2), 2) := by decide +kernel
theorem dX8_about_147 : decode cX8_about 147 = .ok (.ireturn, 1) := by decide +kernel
theorem dX8_cell_0 : decode cX8_cell 0 = .ok (.aload_n 0, 1) := by decide +kernel
theorem dX8_cell_1 : decode cX8_cell 1 = .ok (.iload_n 1, 1) := by decide +kernel
theorem dX8_cell_2 : decode cX8_cell 2 = .ok (.invokevirtual 136, 3) := by decide +kernel
theorem dX8_cell_5 : decode cX8_cell 5 = .ok (.ifCond .ne 5, 3) := by decide +kernel
theorem dX8_cell_8 : decode cX8_cell 8 = .ok (.iconst (-1), 1) := by decide +kernel
theorem dX8_cell_9 : decode cX8_cell 9 = .ok (.ireturn, 1) := by decide +kernel
theorem dX8_cell_10 : decode cX8_cell 10 = .ok (.iload_n 2, 1) := by decide +kernel
theorem dX8_cell_11 : decode cX8_cell 11 = .ok (.ifCond .lt 8, 3) := by decide +kernel
theorem dX8_cell_14 : decode cX8_cell 14 = .ok (.iload_n 2, 1) := by decide +kernel
theorem dX8_cell_15 : decode cX8_cell 15 = .ok (.iconst 5, 1) := by decide +kernel
theorem dX8_cell_16 : decode cX8_cell 16 = .ok (.if_icmp .lt 6, 3) := by decide +kernel
theorem dX8_cell_19 : decode cX8_cell 19 = .ok (.bipush (-2), 2) := by decide +kernel
theorem dX8_cell_21 : decode cX8_cell 21 = .ok (.ireturn, 1) := by decide +kernel
theorem dX8_cell_22 : decode cX8_cell 22 = .ok (.aload_n 0, 1) := by decide +kernel
theorem dX8_cell_23 : decode cX8_cell 23 = .ok (.getfield 31, 3) := by decide +kernel
theorem dX8_cell_26 : decode cX8_cell 26 = .ok (.getfield 139, 3) := by decide +kernel
theorem dX8_cell_29 : decode cX8_cell 29 = .ok (.iload_n 1, 1) := by decide +kernel
theorem dX8_cell_30 : decode cX8_cell 30 = .ok (.iconst 5, 1) := by decide +kernel
theorem dX8_cell_31 : decode cX8_cell 31 = .ok (.imul, 1) := by decide +kernel
theorem dX8_cell_32 : decode cX8_cell 32 = .ok (.iload_n 2, 1) := by decide +kernel
theorem dX8_cell_33 : decode cX8_cell 33 = .ok (.iadd, 1) := by decide +kernel
theorem dX8_cell_34 : decode cX8_cell 34 = .ok (.iaload, 1) := by decide +kernel
theorem dX8_cell_35 : decode cX8_cell 35 = .ok (.istore 4, 2) := by decide +kernel
theorem dX8_cell_37 : decode cX8_cell 37 = .ok (.iload_n 2, 1) := by decide +kernel
theorem dX8_cell_38 : decode cX8_cell 38 = .ok (.aload_n 0, 1) := by decide +kernel
theorem dX8_cell_39 : decode cX8_cell 39 = .ok (.getfield 31, 3) := by decide +kernel
theorem dX8_cell_42 : decode cX8_cell 42 = .ok (.getfield 143, 3) := by decide +kernel
theorem dX8_cell_45 : decode cX8_cell 45 = .ok (.iload_n 1, 1) := by decide +kernel
theorem dX8_cell_46 : decode cX8_cell 46 = .ok (.iaload, 1) := by decide +kernel
theorem dX8_cell_47 : decode cX8_cell 47 = .ok (.invokestatic 146, 3) := by decide +kernel
theorem dX8_cell_50 : decode cX8_cell 50 = .ok (.istore 5, 2) := by decide +kernel
theorem dX8_cell_52 : decode cX8_cell 52 = .ok (.iload_n 3, 1) := by decide +kernel
theorem dX8_cell_53 : decode cX8_cell 53 = .ok (.tableswitch 58 0 3 #[31, 37, 43, 46], 31) := by decide +kernel
theorem dX8_cell_84 : decode cX8_cell 84 = .ok (.iload 4, 2) := by decide +kernel
theorem dX8_cell_86 : decode cX8_cell 86 = .ok (.invokestatic 150, 3) := by decide +kernel
theorem dX8_cell_89 : decode cX8_cell 89 = .ok (.ireturn, 1) := by decide +kernel
theorem dX8_cell_90 : decode cX8_cell 90 = .ok (.iload 4, 2) := by decide +kernel
theorem dX8_cell_92 : decode cX8_cell 92 = .ok (.invokestatic 154, 3) := by decide +kernel
theorem dX8_cell_95 : decode cX8_cell 95 = .ok (.ireturn, 1) := by decide +kernel
theorem dX8_cell_96 : decode cX8_cell 96 = .ok (.iload 5, 2) := by decide +kernel
theorem dX8_cell_98 : decode cX8_cell 98 = .ok (.ireturn, 1) := by decide +kernel
theorem dX8_cell_99 : decode cX8_cell 99 = .ok (.aload_n 0, 1) := by decide +kernel
theorem dX8_cell_100 : decode cX8_cell 100 = .ok (.invokevirtual 122, 3) := by decide +kernel
theorem dX8_cell_103 : decode cX8_cell 103 = .ok (.iload 4, 2) := by decide +kernel
theorem dX8_cell_105 : decode cX8_cell 105 = .ok (.iload 5, 2) := by decide +kernel
theorem dX8_cell_107 : decode cX8_cell 107 = .ok (.invokevirtual 157, 3) := by decide +kernel
theorem dX8_cell_110 : decode cX8_cell 110 = .ok (.ireturn, 1) := by decide +kernel
theorem dX8_cell_111 : decode cX8_cell 111 = .ok (.bipush (-2), 2) := by decide +kernel
theorem dX8_cell_113 : decode cX8_cell 113 = .ok (.ireturn, 1) := by decide +kernel
theorem dX8_kin_0 : decode cX8_kin 0 = .ok (.aload_n 0, 1) := by decide +kernel
theorem dX8_kin_1 : decode cX8_kin 1 = .ok (.iload_n 1, 1) := by decide +kernel
theorem dX8_kin_2 : decode cX8_kin 2 = .ok (.invokevirtual 160, 3) := by decide +kernel
theorem dX8_kin_5 : decode cX8_kin 5 = .ok (.ifCond .ne 5, 3) := by decide +kernel
theorem dX8_kin_8 : decode cX8_kin 8 = .ok (.iconst (-1), 1) := by decide +kernel
theorem dX8_kin_9 : decode cX8_kin 9 = .ok (.ireturn, 1) := by decide +kernel
theorem dX8_kin_10 : decode cX8_kin 10 = .ok (.iload_n 2, 1) := by decide +kernel
theorem dX8_kin_11 : decode cX8_kin 11 = .ok (.tableswitch 83 0 4 #[33, 43, 53, 63, 73], 33) := by decide +kernel
theorem dX8_kin_44 : decode cX8_kin 44 = .ok (.aload_n 0, 1) := by decide +kernel
theorem dX8_kin_45 : decode cX8_kin 45 = .ok (.getfield 19, 3) := by decide +kernel
theorem dX8_kin_48 : decode cX8_kin 48 = .ok (.getfield 163, 3) := by decide +kernel
theorem dX8_kin_51 : decode cX8_kin 51 = .ok (.iload_n 1, 1) := by decide +kernel
theorem dX8_kin_52 : decode cX8_kin 52 = .ok (.iaload, 1) := by decide +kernel
theorem dX8_kin_53 : decode cX8_kin 53 = .ok (.ireturn, 1) := by decide +kernel
theorem dX8_kin_54 : decode cX8_kin 54 = .ok (.aload_n 0, 1) := by decide +kernel
theorem dX8_kin_55 : decode cX8_kin 55 = .ok (.invokevirtual 122, 3) := by decide +kernel
theorem dX8_kin_58 : decode cX8_kin 58 = .ok (.iconst 0, 1) := by decide +kernel
theorem dX8_kin_59 : decode cX8_kin 59 = .ok (.iload_n 1, 1) := by decide +kernel
theorem dX8_kin_60 : decode cX8_kin 60 = .ok (.invokevirtual 166, 3) := by decide +kernel
theorem dX8_kin_63 : decode cX8_kin 63 = .ok (.ireturn, 1) := by decide +kernel
theorem dX8_kin_64 : decode cX8_kin 64 = .ok (.aload_n 0, 1) := by decide +kernel
theorem dX8_kin_65 : decode cX8_kin 65 = .ok (.invokevirtual 122, 3) := by decide +kernel
theorem dX8_kin_68 : decode cX8_kin 68 = .ok (.iconst 1, 1) := by decide +kernel
theorem dX8_kin_69 : decode cX8_kin 69 = .ok (.iload_n 1, 1) := by decide +kernel
theorem dX8_kin_70 : decode cX8_kin 70 = .ok (.invokevirtual 166, 3) := by decide +kernel
theorem dX8_kin_73 : decode cX8_kin 73 = .ok (.ireturn, 1) := by decide +kernel
theorem dX8_kin_74 : decode cX8_kin 74 = .ok (.aload_n 0, 1) := by decide +kernel
theorem dX8_kin_75 : decode cX8_kin 75 = .ok (.invokevirtual 122, 3) := by decide +kernel
theorem dX8_kin_78 : decode cX8_kin 78 = .ok (.iconst 0, 1) := by decide +kernel
theorem dX8_kin_79 : decode cX8_kin 79 = .ok (.iload_n 1, 1) := by decide +kernel
theorem dX8_kin_80 : decode cX8_kin 80 = .ok (.invokevirtual 169, 3) := by decide +kernel
theorem dX8_kin_83 : decode cX8_kin 83 = .ok (.ireturn, 1) := by decide +kernel
theorem dX8_kin_84 : decode cX8_kin 84 = .ok (.aload_n 0, 1) := by decide +kernel
theorem dX8_kin_85 : decode cX8_kin 85 = .ok (.invokevirtual 122, 3) := by decide +kernel
theorem dX8_kin_88 : decode cX8_kin 88 = .ok (.iconst 1, 1) := by decide +kernel
theorem dX8_kin_89 : decode cX8_kin 89 = .ok (.iload_n 1, 1) := by decide +kernel
theorem dX8_kin_90 : decode cX8_kin 90 = .ok (.invokevirtual 169, 3) := by decide +kernel
theorem dX8_kin_93 : decode cX8_kin 93 = .ok (.ireturn, 1) := by decide +kernel
theorem dX8_kin_94 : decode cX8_kin 94 = .ok (.bipush (-2), 2) := by decide +kernel
theorem dX8_kin_96 : decode cX8_kin 96 = .ok (.ireturn, 1) := by decide +kernel
theorem dX8_has_0 : decode cX8_has 0 = .ok (.iload_n 1, 1) := by decide +kernel
theorem dX8_has_1 : decode cX8_has 1 = .ok (.invokestatic 172, 3) := by decide +kernel
theorem dX8_has_4 : decode cX8_has 4 = .ok (.ifCond .eq 12, 3) := by decide +kernel
theorem dX8_has_7 : decode cX8_has 7 = .ok (.iload_n 2, 1) := by decide +kernel
theorem dX8_has_8 : decode cX8_has 8 = .ok (.ifCond .lt 8, 3) := by decide +kernel
theorem dX8_has_11 : decode cX8_has 11 = .ok (.iload_n 2, 1) := by decide +kernel
theorem dX8_has_12 : decode cX8_has 12 = .ok (.iconst 4, 1) := by decide +kernel
theorem dX8_has_13 : decode cX8_has 13 = .ok (.if_icmp .lt 6, 3) := by decide +kernel
theorem dX8_has_16 : decode cX8_has 16 = .ok (.bipush (-2), 2) := by decide +kernel
theorem dX8_has_18 : decode cX8_has 18 = .ok (.ireturn, 1) := by decide +kernel
theorem dX8_has_19 : decode cX8_has 19 = .ok (.aload_n 0, 1) := by decide +kernel
theorem dX8_has_20 : decode cX8_has 20 = .ok (.invokevirtual 122, 3) := by decide +kernel
theorem dX8_has_23 : decode cX8_has 23 = .ok (.iload_n 1, 1) := by decide +kernel
theorem dX8_has_24 : decode cX8_has 24 = .ok (.iload_n 2, 1) := by decide +kernel
theorem dX8_has_25 : decode cX8_has 25 = .ok (.bipush 31, 2) := by decide +kernel
theorem dX8_has_27 : decode cX8_has 27 = .ok (.invokevirtual 175, 3) := by decide +kernel
theorem dX8_has_30 : decode cX8_has 30 = .ok (.ireturn, 1) := by decide +kernel
theorem dX8_can_0 : decode cX8_can 0 = .ok (.iload_n 1, 1) := by decide +kernel
theorem dX8_can_1 : decode cX8_can 1 = .ok (.invokestatic 172, 3) := by decide +kernel
theorem dX8_can_4 : decode cX8_can 4 = .ok (.ifCond .ne 6, 3) := by decide +kernel
theorem dX8_can_7 : decode cX8_can 7 = .ok (.bipush (-2), 2) := by decide +kernel
theorem dX8_can_9 : decode cX8_can 9 = .ok (.ireturn, 1) := by decide +kernel
theorem dX8_can_10 : decode cX8_can 10 = .ok (.aload_n 0, 1) := by decide +kernel
theorem dX8_can_11 : decode cX8_can 11 = .ok (.invokevirtual 122, 3) := by decide +kernel
theorem dX8_can_14 : decode cX8_can 14 = .ok (.iload_n 1, 1) := by decide +kernel
theorem dX8_can_15 : decode cX8_can 15 = .ok (.bipush 31, 2) := by decide +kernel
theorem dX8_can_17 : decode cX8_can 17 = .ok (.invokevirtual 179, 3) := by decide +kernel
theorem dX8_can_20 : decode cX8_can 20 = .ok (.ireturn, 1) := by decide +kernel
theorem dX8_draw_0 : decode cX8_draw 0 = .ok (.aload_n 0, 1) := by decide +kernel
theorem dX8_draw_1 : decode cX8_draw 1 = .ok (.iload_n 1, 1) := by decide +kernel
theorem dX8_draw_2 : decode cX8_draw 2 = .ok (.invokevirtual 136, 3) := by decide +kernel
theorem dX8_draw_5 : decode cX8_draw 5 = .ok (.ifCond .ne 5, 3) := by decide +kernel
theorem dX8_draw_8 : decode cX8_draw 8 = .ok (.iconst (-1), 1) := by decide +kernel
theorem dX8_draw_9 : decode cX8_draw 9 = .ok (.ireturn, 1) := by decide +kernel
theorem dX8_draw_10 : decode cX8_draw 10 = .ok (.iload_n 2, 1) := by decide +kernel
theorem dX8_draw_11 : decode cX8_draw 11 = .ok (.ifCond .eq 11, 3) := by decide +kernel
theorem dX8_draw_14 : decode cX8_draw 14 = .ok (.iload_n 2, 1) := by decide +kernel
theorem dX8_draw_15 : decode cX8_draw 15 = .ok (.iconst 1, 1) := by decide +kernel
theorem dX8_draw_16 : decode cX8_draw 16 = .ok (.if_icmp .eq 6, 3) := by decide +kernel
theorem dX8_draw_19 : decode cX8_draw 19 = .ok (.bipush (-2), 2) := by decide +kernel
theorem dX8_draw_21 : decode cX8_draw 21 = .ok (.ireturn, 1) := by decide +kernel
theorem dX8_draw_22 : decode cX8_draw 22 = .ok (.aload_n 0, 1) := by decide +kernel
theorem dX8_draw_23 : decode cX8_draw 23 = .ok (.getfield 31, 3) := by decide +kernel
theorem dX8_draw_26 : decode cX8_draw 26 = .ok (.invokevirtual 115, 3) := by decide +kernel
theorem dX8_draw_29 : decode cX8_draw 29 = .ok (.istore_n 3, 1) := by decide +kernel
theorem dX8_draw_30 : decode cX8_draw 30 = .ok (.aload_n 0, 1) := by decide +kernel
theorem dX8_draw_31 : decode cX8_draw 31 = .ok (.getfield 31, 3) := by decide +kernel
theorem dX8_draw_34 : decode cX8_draw 34 = .ok (.iload_n 1, 1) := by decide +kernel
theorem dX8_draw_35 : decode cX8_draw 35 = .ok (.iload_n 2, 1) := by decide +kernel
theorem dX8_draw_36 : decode cX8_draw 36 = .ok (.invokevirtual 182, 3) := by decide +kernel
theorem dX8_draw_39 : decode cX8_draw 39 = .ok (.ifCond .ne 6, 3) := by decide +kernel
theorem dX8_draw_42 : decode cX8_draw 42 = .ok (.bipush (-3), 2) := by decide +kernel
theorem dX8_draw_44 : decode cX8_draw 44 = .ok (.ireturn, 1) := by decide +kernel
theorem dX8_draw_45 : decode cX8_draw 45 = .ok (.aload_n 0, 1) := by decide +kernel
theorem dX8_draw_46 : decode cX8_draw 46 = .ok (.getfield 49, 3) := by decide +kernel
theorem dX8_draw_49 : decode cX8_draw 49 = .ok (.bipush (-9), 2) := by decide +kernel
theorem dX8_draw_51 : decode cX8_draw 51 = .ok (.iload_n 3, 1) := by decide +kernel
theorem dX8_draw_52 : decode cX8_draw 52 = .ok (.aload_n 0, 1) := by decide +kernel
theorem dX8_draw_53 : decode cX8_draw 53 = .ok (.getfield 31, 3) := by decide +kernel
theorem dX8_draw_56 : decode cX8_draw 56 = .ok (.getfield 112, 3) := by decide +kernel
theorem dX8_draw_59 : decode cX8_draw 59 = .ok (.invokevirtual 186, 3) := by decide +kernel
theorem dX8_draw_62 : decode cX8_draw 62 = .ok (.aload_n 0, 1) := by decide +kernel
theorem dX8_draw_63 : decode cX8_draw 63 = .ok (.getfield 31, 3) := by decide +kernel
theorem dX8_draw_66 : decode cX8_draw 66 = .ok (.getfield 143, 3) := by decide +kernel
theorem dX8_draw_69 : decode cX8_draw 69 = .ok (.iload_n 1, 1) := by decide +kernel
theorem dX8_draw_70 : decode cX8_draw 70 = .ok (.iaload, 1) := by decide +kernel
theorem dX8_draw_71 : decode cX8_draw 71 = .ok (.ireturn, 1) := by decide +kernel
theorem dX8_change_0 : decode cX8_change 0 = .ok (.aload_n 0, 1) := by decide +kernel
theorem dX8_change_1 : decode cX8_change 1 = .ok (.iload_n 1, 1) := by decide +kernel
theorem dX8_change_2 : decode cX8_change 2 = .ok (.invokevirtual 136, 3) := by decide +kernel
theorem dX8_change_5 : decode cX8_change 5 = .ok (.ifCond .ne 5, 3) := by decide +kernel
theorem dX8_change_8 : decode cX8_change 8 = .ok (.iconst (-1), 1) := by decide +kernel
theorem dX8_change_9 : decode cX8_change 9 = .ok (.ireturn, 1) := by decide +kernel
theorem dX8_change_10 : decode cX8_change 10 = .ok (.aload_n 0, 1) := by decide +kernel
theorem dX8_change_11 : decode cX8_change 11 = .ok (.getfield 31, 3) := by decide +kernel
theorem dX8_change_14 : decode cX8_change 14 = .ok (.iload_n 1, 1) := by decide +kernel
theorem dX8_change_15 : decode cX8_change 15 = .ok (.invokevirtual 190, 3) := by decide +kernel
theorem dX8_change_18 : decode cX8_change 18 = .ok (.ifCond .ne 6, 3) := by decide +kernel
theorem dX8_change_21 : decode cX8_change 21 = .ok (.bipush (-3), 2) := by decide +kernel
theorem dX8_change_23 : decode cX8_change 23 = .ok (.ireturn, 1) := by decide +kernel
theorem dX8_change_24 : decode cX8_change 24 = .ok (.aload_n 0, 1) := by decide +kernel
theorem dX8_change_25 : decode cX8_change 25 = .ok (.getfield 49, 3) := by decide +kernel
theorem dX8_change_28 : decode cX8_change 28 = .ok (.iload_n 1, 1) := by decide +kernel
theorem dX8_change_29 : decode cX8_change 29 = .ok (.aload_n 0, 1) := by decide +kernel
theorem dX8_change_30 : decode cX8_change 30 = .ok (.getfield 31, 3) := by decide +kernel
theorem dX8_change_33 : decode cX8_change 33 = .ok (.invokevirtual 115, 3) := by decide +kernel
theorem dX8_change_36 : decode cX8_change 36 = .ok (.aload_n 0, 1) := by decide +kernel
theorem dX8_change_37 : decode cX8_change 37 = .ok (.getfield 31, 3) := by decide +kernel
theorem dX8_change_40 : decode cX8_change 40 = .ok (.getfield 112, 3) := by decide +kernel
theorem dX8_change_43 : decode cX8_change 43 = .ok (.invokevirtual 186, 3) := by decide +kernel
theorem dX8_change_46 : decode cX8_change 46 = .ok (.aload_n 0, 1) := by decide +kernel
theorem dX8_change_47 : decode cX8_change 47 = .ok (.getfield 31, 3) := by decide +kernel
theorem dX8_change_50 : decode cX8_change 50 = .ok (.getfield 139, 3) := by decide +kernel
theorem dX8_change_53 : decode cX8_change 53 = .ok (.iload_n 1, 1) := by decide +kernel
theorem dX8_change_54 : decode cX8_change 54 = .ok (.iconst 5, 1) := by decide +kernel
theorem dX8_change_55 : decode cX8_change 55 = .ok (.imul, 1) := by decide +kernel
theorem dX8_change_56 : decode cX8_change 56 = .ok (.aload_n 0, 1) := by decide +kernel
theorem dX8_change_57 : decode cX8_change 57 = .ok (.getfield 31, 3) := by decide +kernel
theorem dX8_change_60 : decode cX8_change 60 = .ok (.getfield 143, 3) := by decide +kernel
theorem dX8_change_63 : decode cX8_change 63 = .ok (.iload_n 1, 1) := by decide +kernel
theorem dX8_change_64 : decode cX8_change 64 = .ok (.iaload, 1) := by decide +kernel
theorem dX8_change_65 : decode cX8_change 65 = .ok (.iadd, 1) := by decide +kernel
theorem dX8_change_66 : decode cX8_change 66 = .ok (.iconst 1, 1) := by decide +kernel
theorem dX8_change_67 : decode cX8_change 67 = .ok (.isub, 1) := by decide +kernel
theorem dX8_change_68 : decode cX8_change 68 = .ok (.iaload, 1) := by decide +kernel
theorem dX8_change_69 : decode cX8_change 69 = .ok (.invokestatic 150, 3) := by decide +kernel
theorem dX8_change_72 : decode cX8_change 72 = .ok (.ireturn, 1) := by decide +kernel
theorem dX8_join_0 : decode cX8_join 0 = .ok (.aload_n 0, 1) := by decide +kernel
theorem dX8_join_1 : decode cX8_join 1 = .ok (.getfield 49, 3) := by decide +kernel
theorem dX8_join_4 : decode cX8_join 4 = .ok (.bipush (-9), 2) := by decide +kernel
theorem dX8_join_6 : decode cX8_join 6 = .ok (.aload_n 0, 1) := by decide +kernel
theorem dX8_join_7 : decode cX8_join 7 = .ok (.getfield 31, 3) := by decide +kernel
theorem dX8_join_10 : decode cX8_join 10 = .ok (.invokevirtual 115, 3) := by decide +kernel
theorem dX8_join_13 : decode cX8_join 13 = .ok (.aload_n 0, 1) := by decide +kernel
theorem dX8_join_14 : decode cX8_join 14 = .ok (.getfield 31, 3) := by decide +kernel
theorem dX8_join_17 : decode cX8_join 17 = .ok (.getfield 112, 3) := by decide +kernel
theorem dX8_join_20 : decode cX8_join 20 = .ok (.invokevirtual 186, 3) := by decide +kernel
theorem dX8_join_23 : decode cX8_join 23 = .ok (.aload_n 0, 1) := by decide +kernel
theorem dX8_join_24 : decode cX8_join 24 = .ok (.getfield 31, 3) := by decide +kernel
theorem dX8_join_27 : decode cX8_join 27 = .ok (.invokevirtual 193, 3) := by decide +kernel
theorem dX8_join_30 : decode cX8_join 30 = .ok (.aload_n 0, 1) := by decide +kernel
theorem dX8_join_31 : decode cX8_join 31 = .ok (.getfield 31, 3) := by decide +kernel
theorem dX8_join_34 : decode cX8_join 34 = .ok (.getfield 112, 3) := by decide +kernel
theorem dX8_join_37 : decode cX8_join 37 = .ok (.ireturn, 1) := by decide +kernel
theorem dX8_undo_0 : decode cX8_undo 0 = .ok (.aload_n 0, 1) := by decide +kernel
theorem dX8_undo_1 : decode cX8_undo 1 = .ok (.getfield 49, 3) := by decide +kernel
theorem dX8_undo_4 : decode cX8_undo 4 = .ok (.getfield 132, 3) := by decide +kernel
theorem dX8_undo_7 : decode cX8_undo 7 = .ok (.ifCond .ne 6, 3) := by decide +kernel
theorem dX8_undo_10 : decode cX8_undo 10 = .ok (.bipush (-3), 2) := by decide +kernel
theorem dX8_undo_12 : decode cX8_undo 12 = .ok (.ireturn, 1) := by decide +kernel
theorem dX8_undo_13 : decode cX8_undo 13 = .ok (.aload_n 0, 1) := by decide +kernel
theorem dX8_undo_14 : decode cX8_undo 14 = .ok (.getfield 49, 3) := by decide +kernel
theorem dX8_undo_17 : decode cX8_undo 17 = .ok (.aload_n 0, 1) := by decide +kernel
theorem dX8_undo_18 : decode cX8_undo 18 = .ok (.getfield 31, 3) := by decide +kernel
theorem dX8_undo_21 : decode cX8_undo 21 = .ok (.invokevirtual 196, 3) := by decide +kernel
theorem dX8_undo_24 : decode cX8_undo 24 = .ok (.aload_n 0, 1) := by decide +kernel
theorem dX8_undo_25 : decode cX8_undo 25 = .ok (.getfield 49, 3) := by decide +kernel
theorem dX8_undo_28 : decode cX8_undo 28 = .ok (.getfield 132, 3) := by decide +kernel
theorem dX8_undo_31 : decode cX8_undo 31 = .ok (.ireturn, 1) := by decide +kernel
theorem dX8_best_0 : decode cX8_best 0 = .ok (.iload_n 1, 1) := by decide +kernel
theorem dX8_best_1 : decode cX8_best 1 = .ok (.ifCond .eq 11, 3) := by decide +kernel
theorem dX8_best_4 : decode cX8_best 4 = .ok (.iload_n 1, 1) := by decide +kernel
theorem dX8_best_5 : decode cX8_best 5 = .ok (.iconst 1, 1) := by decide +kernel
theorem dX8_best_6 : decode cX8_best 6 = .ok (.if_icmp .eq 6, 3) := by decide +kernel
theorem dX8_best_9 : decode cX8_best 9 = .ok (.bipush (-2), 2) := by decide +kernel
theorem dX8_best_11 : decode cX8_best 11 = .ok (.ireturn, 1) := by decide +kernel
theorem dX8_best_12 : decode cX8_best 12 = .ok (.iconst 2, 1) := by decide +kernel
theorem dX8_best_13 : decode cX8_best 13 = .ok (.aload_n 0, 1) := by decide +kernel
theorem dX8_best_14 : decode cX8_best 14 = .ok (.getfield 19, 3) := by decide +kernel
theorem dX8_best_17 : decode cX8_best 17 = .ok (.getfield 109, 3) := by decide +kernel
theorem dX8_best_20 : decode cX8_best 20 = .ok (.imul, 1) := by decide +kernel
theorem dX8_best_21 : decode cX8_best 21 = .ok (.istore_n 2, 1) := by decide +kernel
theorem dX8_best_22 : decode cX8_best 22 = .ok (.aload_n 0, 1) := by decide +kernel
theorem dX8_best_23 : decode cX8_best 23 = .ok (.getfield 77, 3) := by decide +kernel
theorem dX8_best_26 : decode cX8_best 26 = .ok (.invokevirtual 200, 3) := by decide +kernel
theorem dX8_best_29 : decode cX8_best 29 = .ok (.aload_n 0, 1) := by decide +kernel
theorem dX8_best_30 : decode cX8_best 30 = .ok (.getfield 70, 3) := by decide +kernel
theorem dX8_best_33 : decode cX8_best 33 = .ok (.aload_n 0, 1) := by decide +kernel
theorem dX8_best_34 : decode cX8_best 34 = .ok (.getfield 19, 3) := by decide +kernel
theorem dX8_best_37 : decode cX8_best 37 = .ok (.getfield 103, 3) := by decide +kernel
theorem dX8_best_40 : decode cX8_best 40 = .ok (.invokevirtual 201, 3) := by decide +kernel
theorem dX8_best_43 : decode cX8_best 43 = .ok (.iconst 0, 1) := by decide +kernel
theorem dX8_best_44 : decode cX8_best 44 = .ok (.istore_n 3, 1) := by decide +kernel
theorem dX8_best_45 : decode cX8_best 45 = .ok (.iload_n 3, 1) := by decide +kernel
theorem dX8_best_46 : decode cX8_best 46 = .ok (.sipush 7776, 3) := by decide +kernel
theorem dX8_best_49 : decode cX8_best 49 = .ok (.if_icmp .ge 95, 3) := by decide +kernel
theorem dX8_best_52 : decode cX8_best 52 = .ok (.aload_n 0, 1) := by decide +kernel
theorem dX8_best_53 : decode cX8_best 53 = .ok (.getfield 70, 3) := by decide +kernel
theorem dX8_best_56 : decode cX8_best 56 = .ok (.getfield 204, 3) := by decide +kernel
theorem dX8_best_59 : decode cX8_best 59 = .ok (.ifCond .eq 85, 3) := by decide +kernel
theorem dX8_best_62 : decode cX8_best 62 = .ok (.aload_n 0, 1) := by decide +kernel
theorem dX8_best_63 : decode cX8_best 63 = .ok (.getfield 56, 3) := by decide +kernel
theorem dX8_best_66 : decode cX8_best 66 = .ok (.aload_n 0, 1) := by decide +kernel
theorem dX8_best_67 : decode cX8_best 67 = .ok (.getfield 31, 3) := by decide +kernel
theorem dX8_best_70 : decode cX8_best 70 = .ok (.getfield 139, 3) := by decide +kernel
theorem dX8_best_73 : decode cX8_best 73 = .ok (.aload_n 0, 1) := by decide +kernel
theorem dX8_best_74 : decode cX8_best 74 = .ok (.getfield 70, 3) := by decide +kernel
theorem dX8_best_77 : decode cX8_best 77 = .ok (.getfield 208, 3) := by decide +kernel
theorem dX8_best_80 : decode cX8_best 80 = .ok (.invokevirtual 209, 3) := by decide +kernel
theorem dX8_best_83 : decode cX8_best 83 = .ok (.iload_n 2, 1) := by decide +kernel
theorem dX8_best_84 : decode cX8_best 84 = .ok (.aload_n 0, 1) := by decide +kernel
theorem dX8_best_85 : decode cX8_best 85 = .ok (.getfield 56, 3) := by decide +kernel
theorem dX8_best_88 : decode cX8_best 88 = .ok (.iconst 0, 1) := by decide +kernel
theorem dX8_best_89 : decode cX8_best 89 = .ok (.invokevirtual 213, 3) := by decide +kernel
theorem dX8_best_92 : decode cX8_best 92 = .ok (.isub, 1) := by decide +kernel
theorem dX8_best_93 : decode cX8_best 93 = .ok (.aload_n 0, 1) := by decide +kernel
theorem dX8_best_94 : decode cX8_best 94 = .ok (.getfield 56, 3) := by decide +kernel
theorem dX8_best_97 : decode cX8_best 97 = .ok (.iconst 1, 1) := by decide +kernel
theorem dX8_best_98 : decode cX8_best 98 = .ok (.invokevirtual 213, 3) := by decide +kernel
theorem dX8_best_101 : decode cX8_best 101 = .ok (.isub, 1) := by decide +kernel
theorem dX8_best_102 : decode cX8_best 102 = .ok (.istore 4, 2) := by decide +kernel
theorem dX8_best_104 : decode cX8_best 104 = .ok (.aload_n 0, 1) := by decide +kernel
theorem dX8_best_105 : decode cX8_best 105 = .ok (.getfield 77, 3) := by decide +kernel
theorem dX8_best_108 : decode cX8_best 108 = .ok (.iload 4, 2) := by decide +kernel
theorem dX8_best_110 : decode cX8_best 110 = .ok (.bipush 6, 2) := by decide +kernel
theorem dX8_best_112 : decode cX8_best 112 = .ok (.imul, 1) := by decide +kernel
theorem dX8_best_113 : decode cX8_best 113 = .ok (.aload_n 0, 1) := by decide +kernel
theorem dX8_best_114 : decode cX8_best 114 = .ok (.getfield 56, 3) := by decide +kernel
theorem dX8_best_117 : decode cX8_best 117 = .ok (.invokevirtual 216, 3) := by decide +kernel
theorem dX8_best_120 : decode cX8_best 120 = .ok (.iadd, 1) := by decide +kernel
theorem dX8_best_121 : decode cX8_best 121 = .ok (.aload_n 0, 1) := by decide +kernel
theorem dX8_best_122 : decode cX8_best 122 = .ok (.getfield 70, 3) := by decide +kernel
theorem dX8_best_125 : decode cX8_best 125 = .ok (.invokevirtual 219, 3) := by decide +kernel
theorem dX8_best_128 : decode cX8_best 128 = .ok (.invokevirtual 222, 3) := by decide +kernel
theorem dX8_best_131 : decode cX8_best 131 = .ok (.aload_n 0, 1) := by decide +kernel
theorem dX8_best_132 : decode cX8_best 132 = .ok (.getfield 70, 3) := by decide +kernel
theorem dX8_best_135 : decode cX8_best 135 = .ok (.invokevirtual 226, 3) := by decide +kernel
theorem dX8_best_138 : decode cX8_best 138 = .ok (.iinc 3 1, 3) := by decide +kernel
theorem dX8_best_141 : decode cX8_best 141 = .ok (.goto (-96), 3) := by decide +kernel
theorem dX8_best_144 : decode cX8_best 144 = .ok (.iload_n 1, 1) := by decide +kernel
theorem dX8_best_145 : decode cX8_best 145 = .ok (.ifCond .ne 13, 3) := by decide +kernel
theorem dX8_best_148 : decode cX8_best 148 = .ok (.aload_n 0, 1) := by decide +kernel
theorem dX8_best_149 : decode cX8_best 149 = .ok (.getfield 77, 3) := by decide +kernel
theorem dX8_best_152 : decode cX8_best 152 = .ok (.getfield 229, 3) := by decide +kernel
theorem dX8_best_155 : decode cX8_best 155 = .ok (.goto 15, 3) := by decide +kernel
theorem dX8_best_158 : decode cX8_best 158 = .ok (.iload_n 2, 1) := by decide +kernel
theorem dX8_best_159 : decode cX8_best 159 = .ok (.aload_n 0, 1) := by decide +kernel
theorem dX8_best_160 : decode cX8_best 160 = .ok (.getfield 77, 3) := by decide +kernel
theorem dX8_best_163 : decode cX8_best 163 = .ok (.getfield 232, 3) := by decide +kernel
theorem dX8_best_166 : decode cX8_best 166 = .ok (.bipush 6, 2) := by decide +kernel
theorem dX8_best_168 : decode cX8_best 168 = .ok (.idiv, 1) := by decide +kernel
theorem dX8_best_169 : decode cX8_best 169 = .ok (.isub, 1) := by decide +kernel
theorem dX8_best_170 : decode cX8_best 170 = .ok (.ireturn, 1) := by decide +kernel
theorem dX8_fewest_0 : decode cX8_fewest 0 = .ok (.aload_n 0, 1) := by decide +kernel
theorem dX8_fewest_1 : decode cX8_fewest 1 = .ok (.iload_n 1, 1) := by decide +kernel
theorem dX8_fewest_2 : decode cX8_fewest 2 = .ok (.invokevirtual 235, 3) := by decide +kernel
theorem dX8_fewest_5 : decode cX8_fewest 5 = .ok (.ifCond .ne 5, 3) := by decide +kernel
theorem dX8_fewest_8 : decode cX8_fewest 8 = .ok (.iconst (-1), 1) := by decide +kernel
theorem dX8_fewest_9 : decode cX8_fewest 9 = .ok (.ireturn, 1) := by decide +kernel
theorem dX8_fewest_10 : decode cX8_fewest 10 = .ok (.iload_n 2, 1) := by decide +kernel
theorem dX8_fewest_11 : decode cX8_fewest 11 = .ok (.ifCond .eq 11, 3) := by decide +kernel
theorem dX8_fewest_14 : decode cX8_fewest 14 = .ok (.iload_n 2, 1) := by decide +kernel
theorem dX8_fewest_15 : decode cX8_fewest 15 = .ok (.iconst 1, 1) := by decide +kernel
theorem dX8_fewest_16 : decode cX8_fewest 16 = .ok (.if_icmp .eq 6, 3) := by decide +kernel
theorem dX8_fewest_19 : decode cX8_fewest 19 = .ok (.bipush (-2), 2) := by decide +kernel
theorem dX8_fewest_21 : decode cX8_fewest 21 = .ok (.ireturn, 1) := by decide +kernel
theorem dX8_fewest_22 : decode cX8_fewest 22 = .ok (.aload_n 0, 1) := by decide +kernel
theorem dX8_fewest_23 : decode cX8_fewest 23 = .ok (.getfield 77, 3) := by decide +kernel
theorem dX8_fewest_26 : decode cX8_fewest 26 = .ok (.invokevirtual 200, 3) := by decide +kernel
theorem dX8_fewest_29 : decode cX8_fewest 29 = .ok (.aload_n 0, 1) := by decide +kernel
theorem dX8_fewest_30 : decode cX8_fewest 30 = .ok (.getfield 70, 3) := by decide +kernel
theorem dX8_fewest_33 : decode cX8_fewest 33 = .ok (.aload_n 0, 1) := by decide +kernel
theorem dX8_fewest_34 : decode cX8_fewest 34 = .ok (.getfield 19, 3) := by decide +kernel
theorem dX8_fewest_37 : decode cX8_fewest 37 = .ok (.getfield 103, 3) := by decide +kernel
theorem dX8_fewest_40 : decode cX8_fewest 40 = .ok (.invokevirtual 201, 3) := by decide +kernel
theorem dX8_fewest_43 : decode cX8_fewest 43 = .ok (.iconst 0, 1) := by decide +kernel
theorem dX8_fewest_44 : decode cX8_fewest 44 = .ok (.istore_n 3, 1) := by decide +kernel
theorem dX8_fewest_45 : decode cX8_fewest 45 = .ok (.iload_n 3, 1) := by decide +kernel
theorem dX8_fewest_46 : decode cX8_fewest 46 = .ok (.sipush 7776, 3) := by decide +kernel
theorem dX8_fewest_49 : decode cX8_fewest 49 = .ok (.if_icmp .ge 96, 3) := by decide +kernel
theorem dX8_fewest_52 : decode cX8_fewest 52 = .ok (.aload_n 0, 1) := by decide +kernel
theorem dX8_fewest_53 : decode cX8_fewest 53 = .ok (.getfield 70, 3) := by decide +kernel
theorem dX8_fewest_56 : decode cX8_fewest 56 = .ok (.getfield 204, 3) := by decide +kernel
theorem dX8_fewest_59 : decode cX8_fewest 59 = .ok (.ifCond .eq 86, 3) := by decide +kernel
theorem dX8_fewest_62 : decode cX8_fewest 62 = .ok (.aload_n 0, 1) := by decide +kernel
theorem dX8_fewest_63 : decode cX8_fewest 63 = .ok (.getfield 56, 3) := by decide +kernel
theorem dX8_fewest_66 : decode cX8_fewest 66 = .ok (.aload_n 0, 1) := by decide +kernel
theorem dX8_fewest_67 : decode cX8_fewest 67 = .ok (.getfield 31, 3) := by decide +kernel
theorem dX8_fewest_70 : decode cX8_fewest 70 = .ok (.getfield 139, 3) := by decide +kernel
theorem dX8_fewest_73 : decode cX8_fewest 73 = .ok (.aload_n 0, 1) := by decide +kernel
theorem dX8_fewest_74 : decode cX8_fewest 74 = .ok (.getfield 70, 3) := by decide +kernel
theorem dX8_fewest_77 : decode cX8_fewest 77 = .ok (.getfield 208, 3) := by decide +kernel
theorem dX8_fewest_80 : decode cX8_fewest 80 = .ok (.invokevirtual 209, 3) := by decide +kernel
theorem dX8_fewest_83 : decode cX8_fewest 83 = .ok (.aload_n 0, 1) := by decide +kernel
theorem dX8_fewest_84 : decode cX8_fewest 84 = .ok (.getfield 56, 3) := by decide +kernel
theorem dX8_fewest_87 : decode cX8_fewest 87 = .ok (.iload_n 1, 1) := by decide +kernel
theorem dX8_fewest_88 : decode cX8_fewest 88 = .ok (.iconst 0, 1) := by decide +kernel
theorem dX8_fewest_89 : decode cX8_fewest 89 = .ok (.bipush 31, 2) := by decide +kernel
theorem dX8_fewest_91 : decode cX8_fewest 91 = .ok (.invokevirtual 238, 3) := by decide +kernel
theorem dX8_fewest_94 : decode cX8_fewest 94 = .ok (.ifCond .eq 38, 3) := by decide +kernel
theorem dX8_fewest_97 : decode cX8_fewest 97 = .ok (.aload_n 0, 1) := by decide +kernel
theorem dX8_fewest_98 : decode cX8_fewest 98 = .ok (.getfield 56, 3) := by decide +kernel
theorem dX8_fewest_101 : decode cX8_fewest 101 = .ok (.iload_n 1, 1) := by decide +kernel
theorem dX8_fewest_102 : decode cX8_fewest 102 = .ok (.iconst 1, 1) := by decide +kernel
theorem dX8_fewest_103 : decode cX8_fewest 103 = .ok (.bipush 31, 2) := by decide +kernel
theorem dX8_fewest_105 : decode cX8_fewest 105 = .ok (.invokevirtual 238, 3) := by decide +kernel
theorem dX8_fewest_108 : decode cX8_fewest 108 = .ok (.ifCond .eq 24, 3) := by decide +kernel
theorem dX8_fewest_111 : decode cX8_fewest 111 = .ok (.aload_n 0, 1) := by decide +kernel
theorem dX8_fewest_112 : decode cX8_fewest 112 = .ok (.getfield 77, 3) := by decide +kernel
theorem dX8_fewest_115 : decode cX8_fewest 115 = .ok (.aload_n 0, 1) := by decide +kernel
theorem dX8_fewest_116 : decode cX8_fewest 116 = .ok (.getfield 56, 3) := by decide +kernel
theorem dX8_fewest_119 : decode cX8_fewest 119 = .ok (.invokevirtual 216, 3) := by decide +kernel
theorem dX8_fewest_122 : decode cX8_fewest 122 = .ok (.aload_n 0, 1) := by decide +kernel
theorem dX8_fewest_123 : decode cX8_fewest 123 = .ok (.getfield 70, 3) := by decide +kernel
theorem dX8_fewest_126 : decode cX8_fewest 126 = .ok (.invokevirtual 219, 3) := by decide +kernel
theorem dX8_fewest_129 : decode cX8_fewest 129 = .ok (.invokevirtual 222, 3) := by decide +kernel
theorem dX8_fewest_132 : decode cX8_fewest 132 = .ok (.aload_n 0, 1) := by decide +kernel
theorem dX8_fewest_133 : decode cX8_fewest 133 = .ok (.getfield 70, 3) := by decide +kernel
theorem dX8_fewest_136 : decode cX8_fewest 136 = .ok (.invokevirtual 226, 3) := by decide +kernel
theorem dX8_fewest_139 : decode cX8_fewest 139 = .ok (.iinc 3 1, 3) := by decide +kernel
theorem dX8_fewest_142 : decode cX8_fewest 142 = .ok (.goto (-97), 3) := by decide +kernel
theorem dX8_fewest_145 : decode cX8_fewest 145 = .ok (.iload_n 2, 1) := by decide +kernel
theorem dX8_fewest_146 : decode cX8_fewest 146 = .ok (.ifCond .ne 13, 3) := by decide +kernel
theorem dX8_fewest_149 : decode cX8_fewest 149 = .ok (.aload_n 0, 1) := by decide +kernel
theorem dX8_fewest_150 : decode cX8_fewest 150 = .ok (.getfield 77, 3) := by decide +kernel
theorem dX8_fewest_153 : decode cX8_fewest 153 = .ok (.getfield 229, 3) := by decide +kernel
theorem dX8_fewest_156 : decode cX8_fewest 156 = .ok (.goto 10, 3) := by decide +kernel
theorem dX8_fewest_159 : decode cX8_fewest 159 = .ok (.aload_n 0, 1) := by decide +kernel
theorem dX8_fewest_160 : decode cX8_fewest 160 = .ok (.getfield 77, 3) := by decide +kernel
theorem dX8_fewest_163 : decode cX8_fewest 163 = .ok (.getfield 232, 3) := by decide +kernel
theorem dX8_fewest_166 : decode cX8_fewest 166 = .ok (.ireturn, 1) := by decide +kernel
theorem dX8_fair_0 : decode cX8_fair 0 = .ok (.iload_n 1, 1) := by decide +kernel
theorem dX8_fair_1 : decode cX8_fair 1 = .ok (.invokestatic 242, 3) := by decide +kernel
theorem dX8_fair_4 : decode cX8_fair 4 = .ok (.ifCond .eq 19, 3) := by decide +kernel
theorem dX8_fair_7 : decode cX8_fair 7 = .ok (.iload_n 2, 1) := by decide +kernel
theorem dX8_fair_8 : decode cX8_fair 8 = .ok (.invokestatic 242, 3) := by decide +kernel
theorem dX8_fair_11 : decode cX8_fair 11 = .ok (.ifCond .eq 12, 3) := by decide +kernel
theorem dX8_fair_14 : decode cX8_fair 14 = .ok (.iload_n 3, 1) := by decide +kernel
theorem dX8_fair_15 : decode cX8_fair 15 = .ok (.ifCond .eq 11, 3) := by decide +kernel
theorem dX8_fair_18 : decode cX8_fair 18 = .ok (.iload_n 3, 1) := by decide +kernel
theorem dX8_fair_19 : decode cX8_fair 19 = .ok (.iconst 1, 1) := by decide +kernel
theorem dX8_fair_20 : decode cX8_fair 20 = .ok (.if_icmp .eq 6, 3) := by decide +kernel
theorem dX8_fair_23 : decode cX8_fair 23 = .ok (.bipush (-2), 2) := by decide +kernel
theorem dX8_fair_25 : decode cX8_fair 25 = .ok (.ireturn, 1) := by decide +kernel
theorem dX8_fair_26 : decode cX8_fair 26 = .ok (.aload_n 0, 1) := by decide +kernel
theorem dX8_fair_27 : decode cX8_fair 27 = .ok (.getfield 77, 3) := by decide +kernel
theorem dX8_fair_30 : decode cX8_fair 30 = .ok (.invokevirtual 200, 3) := by decide +kernel
theorem dX8_fair_33 : decode cX8_fair 33 = .ok (.aload_n 0, 1) := by decide +kernel
theorem dX8_fair_34 : decode cX8_fair 34 = .ok (.getfield 70, 3) := by decide +kernel
theorem dX8_fair_37 : decode cX8_fair 37 = .ok (.aload_n 0, 1) := by decide +kernel
theorem dX8_fair_38 : decode cX8_fair 38 = .ok (.getfield 19, 3) := by decide +kernel
theorem dX8_fair_41 : decode cX8_fair 41 = .ok (.getfield 103, 3) := by decide +kernel
theorem dX8_fair_44 : decode cX8_fair 44 = .ok (.invokevirtual 201, 3) := by decide +kernel
theorem dX8_fair_47 : decode cX8_fair 47 = .ok (.iconst 0, 1) := by decide +kernel
theorem dX8_fair_48 : decode cX8_fair 48 = .ok (.istore 4, 2) := by decide +kernel
theorem dX8_fair_50 : decode cX8_fair 50 = .ok (.iload 4, 2) := by decide +kernel
theorem dX8_fair_52 : decode cX8_fair 52 = .ok (.sipush 7776, 3) := by decide +kernel
theorem dX8_fair_55 : decode cX8_fair 55 = .ok (.if_icmp .ge 104, 3) := by decide +kernel
theorem dX8_fair_58 : decode cX8_fair 58 = .ok (.aload_n 0, 1) := by decide +kernel
theorem dX8_fair_59 : decode cX8_fair 59 = .ok (.getfield 70, 3) := by decide +kernel
theorem dX8_fair_62 : decode cX8_fair 62 = .ok (.getfield 204, 3) := by decide +kernel
theorem dX8_fair_65 : decode cX8_fair 65 = .ok (.ifCond .eq 94, 3) := by decide +kernel
theorem dX8_fair_68 : decode cX8_fair 68 = .ok (.aload_n 0, 1) := by decide +kernel
theorem dX8_fair_69 : decode cX8_fair 69 = .ok (.getfield 56, 3) := by decide +kernel
theorem dX8_fair_72 : decode cX8_fair 72 = .ok (.aload_n 0, 1) := by decide +kernel
theorem dX8_fair_73 : decode cX8_fair 73 = .ok (.getfield 31, 3) := by decide +kernel
theorem dX8_fair_76 : decode cX8_fair 76 = .ok (.getfield 139, 3) := by decide +kernel
theorem dX8_fair_79 : decode cX8_fair 79 = .ok (.aload_n 0, 1) := by decide +kernel
theorem dX8_fair_80 : decode cX8_fair 80 = .ok (.getfield 70, 3) := by decide +kernel
theorem dX8_fair_83 : decode cX8_fair 83 = .ok (.getfield 208, 3) := by decide +kernel
theorem dX8_fair_86 : decode cX8_fair 86 = .ok (.invokevirtual 209, 3) := by decide +kernel
theorem dX8_fair_89 : decode cX8_fair 89 = .ok (.aload_n 0, 1) := by decide +kernel
theorem dX8_fair_90 : decode cX8_fair 90 = .ok (.getfield 56, 3) := by decide +kernel
theorem dX8_fair_93 : decode cX8_fair 93 = .ok (.iconst 0, 1) := by decide +kernel
theorem dX8_fair_94 : decode cX8_fair 94 = .ok (.iload_n 1, 1) := by decide +kernel
theorem dX8_fair_95 : decode cX8_fair 95 = .ok (.invokevirtual 245, 3) := by decide +kernel
theorem dX8_fair_98 : decode cX8_fair 98 = .ok (.aload_n 0, 1) := by decide +kernel
theorem dX8_fair_99 : decode cX8_fair 99 = .ok (.getfield 56, 3) := by decide +kernel
theorem dX8_fair_102 : decode cX8_fair 102 = .ok (.iconst 1, 1) := by decide +kernel
theorem dX8_fair_103 : decode cX8_fair 103 = .ok (.iload_n 1, 1) := by decide +kernel
theorem dX8_fair_104 : decode cX8_fair 104 = .ok (.invokevirtual 245, 3) := by decide +kernel
theorem dX8_fair_107 : decode cX8_fair 107 = .ok (.if_icmp .lt 39, 3) := by decide +kernel
theorem dX8_fair_110 : decode cX8_fair 110 = .ok (.aload_n 0, 1) := by decide +kernel
theorem dX8_fair_111 : decode cX8_fair 111 = .ok (.getfield 56, 3) := by decide +kernel
theorem dX8_fair_114 : decode cX8_fair 114 = .ok (.iconst 1, 1) := by decide +kernel
theorem dX8_fair_115 : decode cX8_fair 115 = .ok (.iload_n 2, 1) := by decide +kernel
theorem dX8_fair_116 : decode cX8_fair 116 = .ok (.invokevirtual 245, 3) := by decide +kernel
theorem dX8_fair_119 : decode cX8_fair 119 = .ok (.aload_n 0, 1) := by decide +kernel
theorem dX8_fair_120 : decode cX8_fair 120 = .ok (.getfield 56, 3) := by decide +kernel
theorem dX8_fair_123 : decode cX8_fair 123 = .ok (.iconst 0, 1) := by decide +kernel
theorem dX8_fair_124 : decode cX8_fair 124 = .ok (.iload_n 2, 1) := by decide +kernel
theorem dX8_fair_125 : decode cX8_fair 125 = .ok (.invokevirtual 245, 3) := by decide +kernel
theorem dX8_fair_128 : decode cX8_fair 128 = .ok (.if_icmp .lt 18, 3) := by decide +kernel
theorem dX8_fair_131 : decode cX8_fair 131 = .ok (.aload_n 0, 1) := by decide +kernel
theorem dX8_fair_132 : decode cX8_fair 132 = .ok (.getfield 77, 3) := by decide +kernel
theorem dX8_fair_135 : decode cX8_fair 135 = .ok (.iconst 0, 1) := by decide +kernel
theorem dX8_fair_136 : decode cX8_fair 136 = .ok (.aload_n 0, 1) := by decide +kernel
theorem dX8_fair_137 : decode cX8_fair 137 = .ok (.getfield 70, 3) := by decide +kernel
theorem dX8_fair_140 : decode cX8_fair 140 = .ok (.invokevirtual 219, 3) := by decide +kernel
theorem dX8_fair_143 : decode cX8_fair 143 = .ok (.invokevirtual 222, 3) := by decide +kernel
theorem dX8_fair_146 : decode cX8_fair 146 = .ok (.aload_n 0, 1) := by decide +kernel
theorem dX8_fair_147 : decode cX8_fair 147 = .ok (.getfield 70, 3) := by decide +kernel
theorem dX8_fair_150 : decode cX8_fair 150 = .ok (.invokevirtual 226, 3) := by decide +kernel
theorem dX8_fair_153 : decode cX8_fair 153 = .ok (.iinc 4 1, 3) := by decide +kernel
theorem dX8_fair_156 : decode cX8_fair 156 = .ok (.goto (-106), 3) := by decide +kernel
theorem dX8_fair_159 : decode cX8_fair 159 = .ok (.iload_n 3, 1) := by decide +kernel
theorem dX8_fair_160 : decode cX8_fair 160 = .ok (.ifCond .ne 13, 3) := by decide +kernel
theorem dX8_fair_163 : decode cX8_fair 163 = .ok (.aload_n 0, 1) := by decide +kernel
theorem dX8_fair_164 : decode cX8_fair 164 = .ok (.getfield 77, 3) := by decide +kernel
theorem dX8_fair_167 : decode cX8_fair 167 = .ok (.getfield 248, 3) := by decide +kernel
theorem dX8_fair_170 : decode cX8_fair 170 = .ok (.goto 10, 3) := by decide +kernel
theorem dX8_fair_173 : decode cX8_fair 173 = .ok (.aload_n 0, 1) := by decide +kernel
theorem dX8_fair_174 : decode cX8_fair 174 = .ok (.getfield 77, 3) := by decide +kernel
theorem dX8_fair_177 : decode cX8_fair 177 = .ok (.getfield 229, 3) := by decide +kernel
theorem dX8_fair_180 : decode cX8_fair 180 = .ok (.ireturn, 1) := by decide +kernel
theorem dX8_judge_0 : decode cX8_judge 0 = .ok (.iload_n 1, 1) := by decide +kernel
theorem dX8_judge_1 : decode cX8_judge 1 = .ok (.iconst 1, 1) := by decide +kernel
theorem dX8_judge_2 : decode cX8_judge 2 = .ok (.if_icmp .lt 8, 3) := by decide +kernel
theorem dX8_judge_5 : decode cX8_judge 5 = .ok (.iload_n 1, 1) := by decide +kernel
theorem dX8_judge_6 : decode cX8_judge 6 = .ok (.iconst 4, 1) := by decide +kernel
theorem dX8_judge_7 : decode cX8_judge 7 = .ok (.if_icmp .le 6, 3) := by decide +kernel
theorem dX8_judge_10 : decode cX8_judge 10 = .ok (.bipush (-2), 2) := by decide +kernel
theorem dX8_judge_12 : decode cX8_judge 12 = .ok (.ireturn, 1) := by decide +kernel
theorem dX8_judge_13 : decode cX8_judge 13 = .ok (.iconst 1, 1) := by decide +kernel
theorem dX8_judge_14 : decode cX8_judge 14 = .ok (.istore_n 3, 1) := by decide +kernel
theorem dX8_judge_15 : decode cX8_judge 15 = .ok (.iconst 1, 1) := by decide +kernel
theorem dX8_judge_16 : decode cX8_judge 16 = .ok (.istore 4, 2) := by decide +kernel
theorem dX8_judge_18 : decode cX8_judge 18 = .ok (.iload 4, 2) := by decide +kernel
theorem dX8_judge_20 : decode cX8_judge 20 = .ok (.iload_n 1, 1) := by decide +kernel
theorem dX8_judge_21 : decode cX8_judge 21 = .ok (.if_icmp .ge 14, 3) := by decide +kernel
theorem dX8_judge_24 : decode cX8_judge 24 = .ok (.iload_n 3, 1) := by decide +kernel
theorem dX8_judge_25 : decode cX8_judge 25 = .ok (.bipush 100, 2) := by decide +kernel
theorem dX8_judge_27 : decode cX8_judge 27 = .ok (.imul, 1) := by decide +kernel
theorem dX8_judge_28 : decode cX8_judge 28 = .ok (.istore_n 3, 1) := by decide +kernel
theorem dX8_judge_29 : decode cX8_judge 29 = .ok (.iinc 4 1, 3) := by decide +kernel
theorem dX8_judge_32 : decode cX8_judge 32 = .ok (.goto (-14), 3) := by decide +kernel
theorem dX8_judge_35 : decode cX8_judge 35 = .ok (.iload_n 2, 1) := by decide +kernel
theorem dX8_judge_36 : decode cX8_judge 36 = .ok (.ifCond .lt 11, 3) := by decide +kernel
theorem dX8_judge_39 : decode cX8_judge 39 = .ok (.iload_n 2, 1) := by decide +kernel
theorem dX8_judge_40 : decode cX8_judge 40 = .ok (.iload_n 3, 1) := by decide +kernel
theorem dX8_judge_41 : decode cX8_judge 41 = .ok (.idiv, 1) := by decide +kernel
theorem dX8_judge_42 : decode cX8_judge 42 = .ok (.bipush 99, 2) := by decide +kernel
theorem dX8_judge_44 : decode cX8_judge 44 = .ok (.if_icmp .le 6, 3) := by decide +kernel
theorem dX8_judge_47 : decode cX8_judge 47 = .ok (.bipush (-2), 2) := by decide +kernel
theorem dX8_judge_49 : decode cX8_judge 49 = .ok (.ireturn, 1) := by decide +kernel
theorem dX8_judge_50 : decode cX8_judge 50 = .ok (.aload_n 0, 1) := by decide +kernel
theorem dX8_judge_51 : decode cX8_judge 51 = .ok (.getfield 35, 3) := by decide +kernel
theorem dX8_judge_54 : decode cX8_judge 54 = .ok (.aload_n 0, 1) := by decide +kernel
theorem dX8_judge_55 : decode cX8_judge 55 = .ok (.getfield 31, 3) := by decide +kernel
theorem dX8_judge_58 : decode cX8_judge 58 = .ok (.invokevirtual 249, 3) := by decide +kernel
theorem dX8_judge_61 : decode cX8_judge 61 = .ok (.iconst 0, 1) := by decide +kernel
theorem dX8_judge_62 : decode cX8_judge 62 = .ok (.istore 4, 2) := by decide +kernel
theorem dX8_judge_64 : decode cX8_judge 64 = .ok (.iload 4, 2) := by decide +kernel
theorem dX8_judge_66 : decode cX8_judge 66 = .ok (.iload_n 1, 1) := by decide +kernel
theorem dX8_judge_67 : decode cX8_judge 67 = .ok (.if_icmp .ge 49, 3) := by decide +kernel
theorem dX8_judge_70 : decode cX8_judge 70 = .ok (.iload_n 3, 1) := by decide +kernel
theorem dX8_judge_71 : decode cX8_judge 71 = .ok (.ifCond .le 45, 3) := by decide +kernel
theorem dX8_judge_74 : decode cX8_judge 74 = .ok (.iload_n 2, 1) := by decide +kernel
theorem dX8_judge_75 : decode cX8_judge 75 = .ok (.iload_n 3, 1) := by decide +kernel
theorem dX8_judge_76 : decode cX8_judge 76 = .ok (.idiv, 1) := by decide +kernel
theorem dX8_judge_77 : decode cX8_judge 77 = .ok (.bipush 100, 2) := by decide +kernel
theorem dX8_judge_79 : decode cX8_judge 79 = .ok (.irem, 1) := by decide +kernel
theorem dX8_judge_80 : decode cX8_judge 80 = .ok (.istore 5, 2) := by decide +kernel
theorem dX8_judge_82 : decode cX8_judge 82 = .ok (.aload_n 0, 1) := by decide +kernel
theorem dX8_judge_83 : decode cX8_judge 83 = .ok (.getfield 35, 3) := by decide +kernel
theorem dX8_judge_86 : decode cX8_judge 86 = .ok (.iload 5, 2) := by decide +kernel
theorem dX8_judge_88 : decode cX8_judge 88 = .ok (.bipush 10, 2) := by decide +kernel
theorem dX8_judge_90 : decode cX8_judge 90 = .ok (.idiv, 1) := by decide +kernel
theorem dX8_judge_91 : decode cX8_judge 91 = .ok (.iload 5, 2) := by decide +kernel
theorem dX8_judge_93 : decode cX8_judge 93 = .ok (.bipush 10, 2) := by decide +kernel
theorem dX8_judge_95 : decode cX8_judge 95 = .ok (.irem, 1) := by decide +kernel
theorem dX8_judge_96 : decode cX8_judge 96 = .ok (.invokevirtual 252, 3) := by decide +kernel
theorem dX8_judge_99 : decode cX8_judge 99 = .ok (.ifCond .ne 6, 3) := by decide +kernel
theorem dX8_judge_102 : decode cX8_judge 102 = .ok (.iload 4, 2) := by decide +kernel
theorem dX8_judge_104 : decode cX8_judge 104 = .ok (.ireturn, 1) := by decide +kernel
theorem dX8_judge_105 : decode cX8_judge 105 = .ok (.iload_n 3, 1) := by decide +kernel
theorem dX8_judge_106 : decode cX8_judge 106 = .ok (.bipush 100, 2) := by decide +kernel
theorem dX8_judge_108 : decode cX8_judge 108 = .ok (.idiv, 1) := by decide +kernel
theorem dX8_judge_109 : decode cX8_judge 109 = .ok (.istore_n 3, 1) := by decide +kernel
theorem dX8_judge_110 : decode cX8_judge 110 = .ok (.iinc 4 1, 3) := by decide +kernel
theorem dX8_judge_113 : decode cX8_judge 113 = .ok (.goto (-49), 3) := by decide +kernel
theorem dX8_judge_116 : decode cX8_judge 116 = .ok (.bipush (-9), 2) := by decide +kernel
theorem dX8_judge_118 : decode cX8_judge 118 = .ok (.ireturn, 1) := by decide +kernel
theorem dX8_share_0 : decode cX8_share 0 = .ok (.aload_n 0, 1) := by decide +kernel
theorem dX8_share_1 : decode cX8_share 1 = .ok (.iload_n 1, 1) := by decide +kernel
theorem dX8_share_2 : decode cX8_share 2 = .ok (.invokevirtual 160, 3) := by decide +kernel
theorem dX8_share_5 : decode cX8_share 5 = .ok (.ifCond .ne 5, 3) := by decide +kernel
theorem dX8_share_8 : decode cX8_share 8 = .ok (.iconst (-1), 1) := by decide +kernel
theorem dX8_share_9 : decode cX8_share 9 = .ok (.ireturn, 1) := by decide +kernel
theorem dX8_share_10 : decode cX8_share 10 = .ok (.iload_n 2, 1) := by decide +kernel
theorem dX8_share_11 : decode cX8_share 11 = .ok (.invokestatic 172, 3) := by decide +kernel
theorem dX8_share_14 : decode cX8_share 14 = .ok (.ifCond .ne 6, 3) := by decide +kernel
theorem dX8_share_17 : decode cX8_share 17 = .ok (.bipush (-2), 2) := by decide +kernel
theorem dX8_share_19 : decode cX8_share 19 = .ok (.ireturn, 1) := by decide +kernel
theorem dX8_share_20 : decode cX8_share 20 = .ok (.aload_n 0, 1) := by decide +kernel
theorem dX8_share_21 : decode cX8_share 21 = .ok (.invokevirtual 122, 3) := by decide +kernel
theorem dX8_share_24 : decode cX8_share 24 = .ok (.pop, 1) := by decide +kernel
theorem dX8_share_25 : decode cX8_share 25 = .ok (.iconst 0, 1) := by decide +kernel
theorem dX8_share_26 : decode cX8_share 26 = .ok (.istore 4, 2) := by decide +kernel
theorem dX8_share_28 : decode cX8_share 28 = .ok (.iconst 0, 1) := by decide +kernel
theorem dX8_share_29 : decode cX8_share 29 = .ok (.istore 5, 2) := by decide +kernel
theorem dX8_share_31 : decode cX8_share 31 = .ok (.iload 5, 2) := by decide +kernel
theorem dX8_share_33 : decode cX8_share 33 = .ok (.iconst 1, 1) := by decide +kernel
theorem dX8_share_34 : decode cX8_share 34 = .ok (.aload_n 0, 1) := by decide +kernel
theorem dX8_share_35 : decode cX8_share 35 = .ok (.getfield 19, 3) := by decide +kernel
theorem dX8_share_38 : decode cX8_share 38 = .ok (.getfield 106, 3) := by decide +kernel
theorem dX8_share_41 : decode cX8_share 41 = .ok (.ishl, 1) := by decide +kernel
theorem dX8_share_42 : decode cX8_share 42 = .ok (.if_icmp .ge 68, 3) := by decide +kernel
theorem dX8_share_45 : decode cX8_share 45 = .ok (.iload 5, 2) := by decide +kernel
theorem dX8_share_47 : decode cX8_share 47 = .ok (.iload_n 1, 1) := by decide +kernel
theorem dX8_share_48 : decode cX8_share 48 = .ok (.ishr, 1) := by decide +kernel
theorem dX8_share_49 : decode cX8_share 49 = .ok (.iconst 1, 1) := by decide +kernel
theorem dX8_share_50 : decode cX8_share 50 = .ok (.iand, 1) := by decide +kernel
theorem dX8_share_51 : decode cX8_share 51 = .ok (.ifCond .ne 53, 3) := by decide +kernel
theorem dX8_share_54 : decode cX8_share 54 = .ok (.aload_n 0, 1) := by decide +kernel
theorem dX8_share_55 : decode cX8_share 55 = .ok (.getfield 56, 3) := by decide +kernel
theorem dX8_share_58 : decode cX8_share 58 = .ok (.iload_n 2, 1) := by decide +kernel
theorem dX8_share_59 : decode cX8_share 59 = .ok (.iload 5, 2) := by decide +kernel
theorem dX8_share_61 : decode cX8_share 61 = .ok (.iconst 1, 1) := by decide +kernel
theorem dX8_share_62 : decode cX8_share 62 = .ok (.iload_n 1, 1) := by decide +kernel
theorem dX8_share_63 : decode cX8_share 63 = .ok (.ishl, 1) := by decide +kernel
theorem dX8_share_64 : decode cX8_share 64 = .ok (.ior, 1) := by decide +kernel
theorem dX8_share_65 : decode cX8_share 65 = .ok (.invokevirtual 179, 3) := by decide +kernel
theorem dX8_share_68 : decode cX8_share 68 = .ok (.invokestatic 255, 3) := by decide +kernel
theorem dX8_share_71 : decode cX8_share 71 = .ok (.aload_n 0, 1) := by decide +kernel
theorem dX8_share_72 : decode cX8_share 72 = .ok (.getfield 56, 3) := by decide +kernel
theorem dX8_share_75 : decode cX8_share 75 = .ok (.iload_n 2, 1) := by decide +kernel
theorem dX8_share_76 : decode cX8_share 76 = .ok (.iload 5, 2) := by decide +kernel
theorem dX8_share_78 : decode cX8_share 78 = .ok (.invokevirtual 179, 3) := by decide +kernel
theorem dX8_share_81 : decode cX8_share 81 = .ok (.invokestatic 255, 3) := by decide +kernel
theorem dX8_share_84 : decode cX8_share 84 = .ok (.isub, 1) := by decide +kernel
theorem dX8_share_85 : decode cX8_share 85 = .ok (.istore 6, 2) := by decide +kernel
theorem dX8_share_87 : decode cX8_share 87 = .ok (.iload 4, 2) := by decide +kernel
theorem dX8_share_89 : decode cX8_share 89 = .ok (.iload 6, 2) := by decide +kernel
theorem dX8_share_91 : decode cX8_share 91 = .ok (.aload_n 0, 1) := by decide +kernel
theorem dX8_share_92 : decode cX8_share 92 = .ok (.iload 5, 2) := by decide +kernel
theorem dX8_share_94 : decode cX8_share 94 = .ok (.invokestatic 255, 3) := by decide +kernel
theorem dX8_share_97 : decode cX8_share 97 = .ok (.invokevirtual 260, 3) := by decide +kernel
theorem dX8_share_100 : decode cX8_share 100 = .ok (.imul, 1) := by decide +kernel
theorem dX8_share_101 : decode cX8_share 101 = .ok (.iadd, 1) := by decide +kernel
theorem dX8_share_102 : decode cX8_share 102 = .ok (.istore 4, 2) := by decide +kernel
theorem dX8_share_104 : decode cX8_share 104 = .ok (.iinc 5 1, 3) := by decide +kernel
theorem dX8_share_107 : decode cX8_share 107 = .ok (.goto (-76), 3) := by decide +kernel
theorem dX8_share_110 : decode cX8_share 110 = .ok (.iload 4, 2) := by decide +kernel
theorem dX8_share_112 : decode cX8_share 112 = .ok (.getstatic 263, 3) := by decide +kernel
theorem dX8_share_115 : decode cX8_share 115 = .ok (.aload_n 0, 1) := by decide +kernel
theorem dX8_share_116 : decode cX8_share 116 = .ok (.getfield 19, 3) := by decide +kernel
theorem dX8_share_119 : decode cX8_share 119 = .ok (.getfield 106, 3) := by decide +kernel
theorem dX8_share_122 : decode cX8_share 122 = .ok (.iaload, 1) := by decide +kernel
theorem dX8_share_123 : decode cX8_share 123 = .ok (.iload_n 3, 1) := by decide +kernel
theorem dX8_share_124 : decode cX8_share 124 = .ok (.invokestatic 266, 3) := by decide +kernel
theorem dX8_share_127 : decode cX8_share 127 = .ok (.ireturn, 1) := by decide +kernel
theorem dX8_see_0 : decode cX8_see 0 = .ok (.aload_n 0, 1) := by decide +kernel
theorem dX8_see_1 : decode cX8_see 1 = .ok (.iload_n 1, 1) := by decide +kernel
theorem dX8_see_2 : decode cX8_see 2 = .ok (.invokevirtual 160, 3) := by decide +kernel
theorem dX8_see_5 : decode cX8_see 5 = .ok (.ifCond .ne 5, 3) := by decide +kernel
theorem dX8_see_8 : decode cX8_see 8 = .ok (.iconst (-1), 1) := by decide +kernel
theorem dX8_see_9 : decode cX8_see 9 = .ok (.ireturn, 1) := by decide +kernel
theorem dX8_see_10 : decode cX8_see 10 = .ok (.iload_n 2, 1) := by decide +kernel
theorem dX8_see_11 : decode cX8_see 11 = .ok (.ifCond .lt 8, 3) := by decide +kernel
theorem dX8_see_14 : decode cX8_see 14 = .ok (.iload_n 2, 1) := by decide +kernel
theorem dX8_see_15 : decode cX8_see 15 = .ok (.iconst 2, 1) := by decide +kernel
theorem dX8_see_16 : decode cX8_see 16 = .ok (.if_icmp .le 6, 3) := by decide +kernel
theorem dX8_see_19 : decode cX8_see 19 = .ok (.bipush (-2), 2) := by decide +kernel
theorem dX8_see_21 : decode cX8_see 21 = .ok (.ireturn, 1) := by decide +kernel
theorem dX8_see_22 : decode cX8_see 22 = .ok (.aload_n 0, 1) := by decide +kernel
theorem dX8_see_23 : decode cX8_see 23 = .ok (.getfield 63, 3) := by decide +kernel
theorem dX8_see_26 : decode cX8_see 26 = .ok (.iload_n 1, 1) := by decide +kernel
theorem dX8_see_27 : decode cX8_see 27 = .ok (.iload_n 2, 1) := by decide +kernel
theorem dX8_see_28 : decode cX8_see 28 = .ok (.invokevirtual 270, 3) := by decide +kernel
theorem dX8_see_31 : decode cX8_see 31 = .ok (.ifCond .eq 13, 3) := by decide +kernel
theorem dX8_see_34 : decode cX8_see 34 = .ok (.aload_n 0, 1) := by decide +kernel
theorem dX8_see_35 : decode cX8_see 35 = .ok (.getfield 63, 3) := by decide +kernel
theorem dX8_see_38 : decode cX8_see 38 = .ok (.getfield 135, 3) := by decide +kernel
theorem dX8_see_41 : decode cX8_see 41 = .ok (.goto 5, 3) := by decide +kernel
theorem dX8_see_44 : decode cX8_see 44 = .ok (.bipush (-4), 2) := by decide +kernel
theorem dX8_see_46 : decode cX8_see 46 = .ok (.ireturn, 1) := by decide +kernel
theorem dX8_unsee_0 : decode cX8_unsee 0 = .ok (.aload_n 0, 1) := by decide +kernel
theorem dX8_unsee_1 : decode cX8_unsee 1 = .ok (.getfield 63, 3) := by decide +kernel
theorem dX8_unsee_4 : decode cX8_unsee 4 = .ok (.getfield 135, 3) := by decide +kernel
theorem dX8_unsee_7 : decode cX8_unsee 7 = .ok (.istore_n 1, 1) := by decide +kernel
theorem dX8_unsee_8 : decode cX8_unsee 8 = .ok (.aload_n 0, 1) := by decide +kernel
theorem dX8_unsee_9 : decode cX8_unsee 9 = .ok (.getfield 63, 3) := by decide +kernel
theorem dX8_unsee_12 : decode cX8_unsee 12 = .ok (.iconst 0, 1) := by decide +kernel
theorem dX8_unsee_13 : decode cX8_unsee 13 = .ok (.putfield 135, 3) := by decide +kernel
theorem dX8_unsee_16 : decode cX8_unsee 16 = .ok (.iload_n 1, 1) := by decide +kernel
theorem dX8_unsee_17 : decode cX8_unsee 17 = .ok (.ireturn, 1) := by decide +kernel
theorem dX8_traces_0 : decode cX8_traces 0 = .ok (.iload_n 1, 1) := by decide +kernel
theorem dX8_traces_1 : decode cX8_traces 1 = .ok (.ifCond .eq 11, 3) := by decide +kernel
theorem dX8_traces_4 : decode cX8_traces 4 = .ok (.iload_n 1, 1) := by decide +kernel
theorem dX8_traces_5 : decode cX8_traces 5 = .ok (.iconst 1, 1) := by decide +kernel
theorem dX8_traces_6 : decode cX8_traces 6 = .ok (.if_icmp .eq 6, 3) := by decide +kernel
theorem dX8_traces_9 : decode cX8_traces 9 = .ok (.bipush (-2), 2) := by decide +kernel
theorem dX8_traces_11 : decode cX8_traces 11 = .ok (.ireturn, 1) := by decide +kernel
theorem dX8_traces_12 : decode cX8_traces 12 = .ok (.aload_n 0, 1) := by decide +kernel
theorem dX8_traces_13 : decode cX8_traces 13 = .ok (.getfield 77, 3) := by decide +kernel
theorem dX8_traces_16 : decode cX8_traces 16 = .ok (.invokevirtual 200, 3) := by decide +kernel
theorem dX8_traces_19 : decode cX8_traces 19 = .ok (.aload_n 0, 1) := by decide +kernel
theorem dX8_traces_20 : decode cX8_traces 20 = .ok (.getfield 70, 3) := by decide +kernel
theorem dX8_traces_23 : decode cX8_traces 23 = .ok (.aload_n 0, 1) := by decide +kernel
theorem dX8_traces_24 : decode cX8_traces 24 = .ok (.getfield 19, 3) := by decide +kernel
theorem dX8_traces_27 : decode cX8_traces 27 = .ok (.getfield 103, 3) := by decide +kernel
theorem dX8_traces_30 : decode cX8_traces 30 = .ok (.invokevirtual 201, 3) := by decide +kernel
theorem dX8_traces_33 : decode cX8_traces 33 = .ok (.iconst 0, 1) := by decide +kernel
theorem dX8_traces_34 : decode cX8_traces 34 = .ok (.istore_n 2, 1) := by decide +kernel
theorem dX8_traces_35 : decode cX8_traces 35 = .ok (.iload_n 2, 1) := by decide +kernel
theorem dX8_traces_36 : decode cX8_traces 36 = .ok (.sipush 7776, 3) := by decide +kernel
theorem dX8_traces_39 : decode cX8_traces 39 = .ok (.if_icmp .ge 83, 3) := by decide +kernel
theorem dX8_traces_42 : decode cX8_traces 42 = .ok (.aload_n 0, 1) := by decide +kernel
theorem dX8_traces_43 : decode cX8_traces 43 = .ok (.getfield 70, 3) := by decide +kernel
theorem dX8_traces_46 : decode cX8_traces 46 = .ok (.getfield 204, 3) := by decide +kernel
theorem dX8_traces_49 : decode cX8_traces 49 = .ok (.ifCond .eq 73, 3) := by decide +kernel
theorem dX8_traces_52 : decode cX8_traces 52 = .ok (.aload_n 0, 1) := by decide +kernel
theorem dX8_traces_53 : decode cX8_traces 53 = .ok (.getfield 56, 3) := by decide +kernel
theorem dX8_traces_56 : decode cX8_traces 56 = .ok (.aload_n 0, 1) := by decide +kernel
theorem dX8_traces_57 : decode cX8_traces 57 = .ok (.getfield 31, 3) := by decide +kernel
theorem dX8_traces_60 : decode cX8_traces 60 = .ok (.getfield 139, 3) := by decide +kernel
theorem dX8_traces_63 : decode cX8_traces 63 = .ok (.aload_n 0, 1) := by decide +kernel
theorem dX8_traces_64 : decode cX8_traces 64 = .ok (.getfield 70, 3) := by decide +kernel
theorem dX8_traces_67 : decode cX8_traces 67 = .ok (.getfield 208, 3) := by decide +kernel
theorem dX8_traces_70 : decode cX8_traces 70 = .ok (.invokevirtual 209, 3) := by decide +kernel
theorem dX8_traces_73 : decode cX8_traces 73 = .ok (.aload_n 0, 1) := by decide +kernel
theorem dX8_traces_74 : decode cX8_traces 74 = .ok (.getfield 63, 3) := by decide +kernel
theorem dX8_traces_77 : decode cX8_traces 77 = .ok (.aload_n 0, 1) := by decide +kernel
theorem dX8_traces_78 : decode cX8_traces 78 = .ok (.getfield 56, 3) := by decide +kernel
theorem dX8_traces_81 : decode cX8_traces 81 = .ok (.aload_n 0, 1) := by decide +kernel
theorem dX8_traces_82 : decode cX8_traces 82 = .ok (.getfield 19, 3) := by decide +kernel
theorem dX8_traces_85 : decode cX8_traces 85 = .ok (.getfield 106, 3) := by decide +kernel
theorem dX8_traces_88 : decode cX8_traces 88 = .ok (.invokevirtual 272, 3) := by decide +kernel
theorem dX8_traces_91 : decode cX8_traces 91 = .ok (.ifCond .eq 18, 3) := by decide +kernel
theorem dX8_traces_94 : decode cX8_traces 94 = .ok (.aload_n 0, 1) := by decide +kernel
theorem dX8_traces_95 : decode cX8_traces 95 = .ok (.getfield 77, 3) := by decide +kernel
theorem dX8_traces_98 : decode cX8_traces 98 = .ok (.iconst 0, 1) := by decide +kernel
theorem dX8_traces_99 : decode cX8_traces 99 = .ok (.aload_n 0, 1) := by decide +kernel
theorem dX8_traces_100 : decode cX8_traces 100 = .ok (.getfield 70, 3) := by decide +kernel
theorem dX8_traces_103 : decode cX8_traces 103 = .ok (.invokevirtual 219, 3) := by decide +kernel
theorem dX8_traces_106 : decode cX8_traces 106 = .ok (.invokevirtual 222, 3) := by decide +kernel
theorem dX8_traces_109 : decode cX8_traces 109 = .ok (.aload_n 0, 1) := by decide +kernel
theorem dX8_traces_110 : decode cX8_traces 110 = .ok (.getfield 70, 3) := by decide +kernel
theorem dX8_traces_113 : decode cX8_traces 113 = .ok (.invokevirtual 226, 3) := by decide +kernel
theorem dX8_traces_116 : decode cX8_traces 116 = .ok (.iinc 2 1, 3) := by decide +kernel
theorem dX8_traces_119 : decode cX8_traces 119 = .ok (.goto (-84), 3) := by decide +kernel
theorem dX8_traces_122 : decode cX8_traces 122 = .ok (.iload_n 1, 1) := by decide +kernel
theorem dX8_traces_123 : decode cX8_traces 123 = .ok (.ifCond .ne 13, 3) := by decide +kernel
theorem dX8_traces_126 : decode cX8_traces 126 = .ok (.aload_n 0, 1) := by decide +kernel
theorem dX8_traces_127 : decode cX8_traces 127 = .ok (.getfield 77, 3) := by decide +kernel
theorem dX8_traces_130 : decode cX8_traces 130 = .ok (.getfield 248, 3) := by decide +kernel
theorem dX8_traces_133 : decode cX8_traces 133 = .ok (.goto 10, 3) := by decide +kernel
theorem dX8_traces_136 : decode cX8_traces 136 = .ok (.aload_n 0, 1) := by decide +kernel
theorem dX8_traces_137 : decode cX8_traces 137 = .ok (.getfield 77, 3) := by decide +kernel
theorem dX8_traces_140 : decode cX8_traces 140 = .ok (.getfield 229, 3) := by decide +kernel
theorem dX8_traces_143 : decode cX8_traces 143 = .ok (.ireturn, 1) := by decide +kernel
theorem dX8_rests_0 : decode cX8_rests 0 = .ok (.iload_n 1, 1) := by decide +kernel
theorem dX8_rests_1 : decode cX8_rests 1 = .ok (.ifCond .eq 11, 3) := by decide +kernel
theorem dX8_rests_4 : decode cX8_rests 4 = .ok (.iload_n 1, 1) := by decide +kernel
theorem dX8_rests_5 : decode cX8_rests 5 = .ok (.iconst 1, 1) := by decide +kernel
theorem dX8_rests_6 : decode cX8_rests 6 = .ok (.if_icmp .eq 6, 3) := by decide +kernel
theorem dX8_rests_9 : decode cX8_rests 9 = .ok (.bipush (-2), 2) := by decide +kernel
theorem dX8_rests_11 : decode cX8_rests 11 = .ok (.ireturn, 1) := by decide +kernel
theorem dX8_rests_12 : decode cX8_rests 12 = .ok (.aload_n 0, 1) := by decide +kernel
theorem dX8_rests_13 : decode cX8_rests 13 = .ok (.getfield 77, 3) := by decide +kernel
theorem dX8_rests_16 : decode cX8_rests 16 = .ok (.invokevirtual 200, 3) := by decide +kernel
theorem dX8_rests_19 : decode cX8_rests 19 = .ok (.iconst 0, 1) := by decide +kernel
theorem dX8_rests_20 : decode cX8_rests 20 = .ok (.istore_n 2, 1) := by decide +kernel
theorem dX8_rests_21 : decode cX8_rests 21 = .ok (.iload_n 2, 1) := by decide +kernel
theorem dX8_rests_22 : decode cX8_rests 22 = .ok (.iconst 1, 1) := by decide +kernel
theorem dX8_rests_23 : decode cX8_rests 23 = .ok (.if_icmp .gt 45, 3) := by decide +kernel
theorem dX8_rests_26 : decode cX8_rests 26 = .ok (.iconst 0, 1) := by decide +kernel
theorem dX8_rests_27 : decode cX8_rests 27 = .ok (.istore_n 3, 1) := by decide +kernel
theorem dX8_rests_28 : decode cX8_rests 28 = .ok (.iload_n 3, 1) := by decide +kernel
theorem dX8_rests_29 : decode cX8_rests 29 = .ok (.iconst 1, 1) := by decide +kernel
theorem dX8_rests_30 : decode cX8_rests 30 = .ok (.if_icmp .gt 32, 3) := by decide +kernel
theorem dX8_rests_33 : decode cX8_rests 33 = .ok (.aload_n 0, 1) := by decide +kernel
theorem dX8_rests_34 : decode cX8_rests 34 = .ok (.iload_n 2, 1) := by decide +kernel
theorem dX8_rests_35 : decode cX8_rests 35 = .ok (.iload_n 3, 1) := by decide +kernel
theorem dX8_rests_36 : decode cX8_rests 36 = .ok (.invokevirtual 276, 3) := by decide +kernel
theorem dX8_rests_39 : decode cX8_rests 39 = .ok (.ifCond .eq 17, 3) := by decide +kernel
theorem dX8_rests_42 : decode cX8_rests 42 = .ok (.aload_n 0, 1) := by decide +kernel
theorem dX8_rests_43 : decode cX8_rests 43 = .ok (.getfield 77, 3) := by decide +kernel
theorem dX8_rests_46 : decode cX8_rests 46 = .ok (.iconst 0, 1) := by decide +kernel
theorem dX8_rests_47 : decode cX8_rests 47 = .ok (.bipush 10, 2) := by decide +kernel
theorem dX8_rests_49 : decode cX8_rests 49 = .ok (.iload_n 2, 1) := by decide +kernel
theorem dX8_rests_50 : decode cX8_rests 50 = .ok (.imul, 1) := by decide +kernel
theorem dX8_rests_51 : decode cX8_rests 51 = .ok (.iload_n 3, 1) := by decide +kernel
theorem dX8_rests_52 : decode cX8_rests 52 = .ok (.iadd, 1) := by decide +kernel
theorem dX8_rests_53 : decode cX8_rests 53 = .ok (.invokevirtual 222, 3) := by decide +kernel
theorem dX8_rests_56 : decode cX8_rests 56 = .ok (.iinc 3 1, 3) := by decide +kernel
theorem dX8_rests_59 : decode cX8_rests 59 = .ok (.goto (-31), 3) := by decide +kernel
theorem dX8_rests_62 : decode cX8_rests 62 = .ok (.iinc 2 1, 3) := by decide +kernel
theorem dX8_rests_65 : decode cX8_rests 65 = .ok (.goto (-44), 3) := by decide +kernel
theorem dX8_rests_68 : decode cX8_rests 68 = .ok (.iload_n 1, 1) := by decide +kernel
theorem dX8_rests_69 : decode cX8_rests 69 = .ok (.ifCond .ne 13, 3) := by decide +kernel
theorem dX8_rests_72 : decode cX8_rests 72 = .ok (.aload_n 0, 1) := by decide +kernel
theorem dX8_rests_73 : decode cX8_rests 73 = .ok (.getfield 77, 3) := by decide +kernel
theorem dX8_rests_76 : decode cX8_rests 76 = .ok (.getfield 248, 3) := by decide +kernel
theorem dX8_rests_79 : decode cX8_rests 79 = .ok (.goto 10, 3) := by decide +kernel
theorem dX8_rests_82 : decode cX8_rests 82 = .ok (.aload_n 0, 1) := by decide +kernel
theorem dX8_rests_83 : decode cX8_rests 83 = .ok (.getfield 77, 3) := by decide +kernel
theorem dX8_rests_86 : decode cX8_rests 86 = .ok (.getfield 229, 3) := by decide +kernel
theorem dX8_rests_89 : decode cX8_rests 89 = .ok (.ireturn, 1) := by decide +kernel
theorem dX8_slips_0 : decode cX8_slips 0 = .ok (.aload_n 0, 1) := by decide +kernel
theorem dX8_slips_1 : decode cX8_slips 1 = .ok (.iload_n 1, 1) := by decide +kernel
theorem dX8_slips_2 : decode cX8_slips 2 = .ok (.invokevirtual 235, 3) := by decide +kernel
theorem dX8_slips_5 : decode cX8_slips 5 = .ok (.ifCond .ne 5, 3) := by decide +kernel
theorem dX8_slips_8 : decode cX8_slips 8 = .ok (.iconst (-1), 1) := by decide +kernel
theorem dX8_slips_9 : decode cX8_slips 9 = .ok (.ireturn, 1) := by decide +kernel
theorem dX8_slips_10 : decode cX8_slips 10 = .ok (.iload_n 2, 1) := by decide +kernel
theorem dX8_slips_11 : decode cX8_slips 11 = .ok (.invokestatic 172, 3) := by decide +kernel
theorem dX8_slips_14 : decode cX8_slips 14 = .ok (.ifCond .eq 13, 3) := by decide +kernel
theorem dX8_slips_17 : decode cX8_slips 17 = .ok (.iload_n 3, 1) := by decide +kernel
theorem dX8_slips_18 : decode cX8_slips 18 = .ok (.ifCond .lt 9, 3) := by decide +kernel
theorem dX8_slips_21 : decode cX8_slips 21 = .ok (.iload_n 3, 1) := by decide +kernel
theorem dX8_slips_22 : decode cX8_slips 22 = .ok (.bipush 10, 2) := by decide +kernel
theorem dX8_slips_24 : decode cX8_slips 24 = .ok (.if_icmp .le 6, 3) := by decide +kernel
theorem dX8_slips_27 : decode cX8_slips 27 = .ok (.bipush (-2), 2) := by decide +kernel
theorem dX8_slips_29 : decode cX8_slips 29 = .ok (.ireturn, 1) := by decide +kernel
theorem dX8_slips_30 : decode cX8_slips 30 = .ok (.aload_n 0, 1) := by decide +kernel
theorem dX8_slips_31 : decode cX8_slips 31 = .ok (.getfield 35, 3) := by decide +kernel
theorem dX8_slips_34 : decode cX8_slips 34 = .ok (.aload_n 0, 1) := by decide +kernel
theorem dX8_slips_35 : decode cX8_slips 35 = .ok (.getfield 31, 3) := by decide +kernel
theorem dX8_slips_38 : decode cX8_slips 38 = .ok (.invokevirtual 249, 3) := by decide +kernel
theorem dX8_slips_41 : decode cX8_slips 41 = .ok (.iconst 0, 1) := by decide +kernel
theorem dX8_slips_42 : decode cX8_slips 42 = .ok (.istore 5, 2) := by decide +kernel
theorem dX8_slips_44 : decode cX8_slips 44 = .ok (.iconst 1, 1) := by decide +kernel
theorem dX8_slips_45 : decode cX8_slips 45 = .ok (.istore 6, 2) := by decide +kernel
theorem dX8_slips_47 : decode cX8_slips 47 = .ok (.iconst 0, 1) := by decide +kernel
theorem dX8_slips_48 : decode cX8_slips 48 = .ok (.istore 7, 2) := by decide +kernel
theorem dX8_slips_50 : decode cX8_slips 50 = .ok (.iload 7, 2) := by decide +kernel
theorem dX8_slips_52 : decode cX8_slips 52 = .ok (.aload_n 0, 1) := by decide +kernel
theorem dX8_slips_53 : decode cX8_slips 53 = .ok (.getfield 19, 3) := by decide +kernel
theorem dX8_slips_56 : decode cX8_slips 56 = .ok (.getfield 103, 3) := by decide +kernel
theorem dX8_slips_59 : decode cX8_slips 59 = .ok (.if_icmp .ge 16, 3) := by decide +kernel
theorem dX8_slips_62 : decode cX8_slips 62 = .ok (.iload 6, 2) := by decide +kernel
theorem dX8_slips_64 : decode cX8_slips 64 = .ok (.bipush 10, 2) := by decide +kernel
theorem dX8_slips_66 : decode cX8_slips 66 = .ok (.imul, 1) := by decide +kernel
theorem dX8_slips_67 : decode cX8_slips 67 = .ok (.istore 6, 2) := by decide +kernel
theorem dX8_slips_69 : decode cX8_slips 69 = .ok (.iinc 7 1, 3) := by decide +kernel
theorem dX8_slips_72 : decode cX8_slips 72 = .ok (.goto (-22), 3) := by decide +kernel
theorem dX8_slips_75 : decode cX8_slips 75 = .ok (.iconst 0, 1) := by decide +kernel
theorem dX8_slips_76 : decode cX8_slips 76 = .ok (.istore 7, 2) := by decide +kernel
theorem dX8_slips_78 : decode cX8_slips 78 = .ok (.iload 7, 2) := by decide +kernel
theorem dX8_slips_80 : decode cX8_slips 80 = .ok (.iconst 1, 1) := by decide +kernel
theorem dX8_slips_81 : decode cX8_slips 81 = .ok (.aload_n 0, 1) := by decide +kernel
theorem dX8_slips_82 : decode cX8_slips 82 = .ok (.getfield 19, 3) := by decide +kernel
theorem dX8_slips_85 : decode cX8_slips 85 = .ok (.getfield 103, 3) := by decide +kernel
theorem dX8_slips_88 : decode cX8_slips 88 = .ok (.ishl, 1) := by decide +kernel
theorem dX8_slips_89 : decode cX8_slips 89 = .ok (.if_icmp .ge 130, 3) := by decide +kernel
theorem dX8_slips_92 : decode cX8_slips 92 = .ok (.iconst 1, 1) := by decide +kernel
theorem dX8_slips_93 : decode cX8_slips 93 = .ok (.istore 8, 2) := by decide +kernel
theorem dX8_slips_95 : decode cX8_slips 95 = .ok (.iconst 0, 1) := by decide +kernel
theorem dX8_slips_96 : decode cX8_slips 96 = .ok (.istore 9, 2) := by decide +kernel
theorem dX8_slips_98 : decode cX8_slips 98 = .ok (.iload 9, 2) := by decide +kernel
theorem dX8_slips_100 : decode cX8_slips 100 = .ok (.aload_n 0, 1) := by decide +kernel
theorem dX8_slips_101 : decode cX8_slips 101 = .ok (.getfield 19, 3) := by decide +kernel
theorem dX8_slips_104 : decode cX8_slips 104 = .ok (.getfield 103, 3) := by decide +kernel
theorem dX8_slips_107 : decode cX8_slips 107 = .ok (.if_icmp .ge 64, 3) := by decide +kernel
theorem dX8_slips_110 : decode cX8_slips 110 = .ok (.iload 7, 2) := by decide +kernel
theorem dX8_slips_112 : decode cX8_slips 112 = .ok (.iload 9, 2) := by decide +kernel
theorem dX8_slips_114 : decode cX8_slips 114 = .ok (.ishr, 1) := by decide +kernel
theorem dX8_slips_115 : decode cX8_slips 115 = .ok (.iconst 1, 1) := by decide +kernel
theorem dX8_slips_116 : decode cX8_slips 116 = .ok (.iand, 1) := by decide +kernel
theorem dX8_slips_117 : decode cX8_slips 117 = .ok (.istore 10, 2) := by decide +kernel
theorem dX8_slips_119 : decode cX8_slips 119 = .ok (.aload_n 0, 1) := by decide +kernel
theorem dX8_slips_120 : decode cX8_slips 120 = .ok (.getfield 35, 3) := by decide +kernel
theorem dX8_slips_123 : decode cX8_slips 123 = .ok (.getfield 143, 3) := by decide +kernel
theorem dX8_slips_126 : decode cX8_slips 126 = .ok (.iload 9, 2) := by decide +kernel
theorem dX8_slips_128 : decode cX8_slips 128 = .ok (.iconst 5, 1) := by decide +kernel
theorem dX8_slips_129 : decode cX8_slips 129 = .ok (.aload_n 0, 1) := by decide +kernel
theorem dX8_slips_130 : decode cX8_slips 130 = .ok (.getfield 31, 3) := by decide +kernel
theorem dX8_slips_133 : decode cX8_slips 133 = .ok (.getfield 143, 3) := by decide +kernel
theorem dX8_slips_136 : decode cX8_slips 136 = .ok (.iload 9, 2) := by decide +kernel
theorem dX8_slips_138 : decode cX8_slips 138 = .ok (.iaload, 1) := by decide +kernel
theorem dX8_slips_139 : decode cX8_slips 139 = .ok (.iload 10, 2) := by decide +kernel
theorem dX8_slips_141 : decode cX8_slips 141 = .ok (.iadd, 1) := by decide +kernel
theorem dX8_slips_142 : decode cX8_slips 142 = .ok (.invokestatic 279, 3) := by decide +kernel
theorem dX8_slips_145 : decode cX8_slips 145 = .ok (.iastore, 1) := by decide +kernel
theorem dX8_slips_146 : decode cX8_slips 146 = .ok (.iload 8, 2) := by decide +kernel
theorem dX8_slips_148 : decode cX8_slips 148 = .ok (.iload 10, 2) := by decide +kernel
theorem dX8_slips_150 : decode cX8_slips 150 = .ok (.iconst 1, 1) := by decide +kernel
theorem dX8_slips_151 : decode cX8_slips 151 = .ok (.if_icmp .ne 7, 3) := by decide +kernel
theorem dX8_slips_154 : decode cX8_slips 154 = .ok (.iload_n 3, 1) := by decide +kernel
theorem dX8_slips_155 : decode cX8_slips 155 = .ok (.goto 7, 3) := by decide +kernel
theorem dX8_slips_158 : decode cX8_slips 158 = .ok (.bipush 10, 2) := by decide +kernel
theorem dX8_slips_160 : decode cX8_slips 160 = .ok (.iload_n 3, 1) := by decide +kernel
theorem dX8_slips_161 : decode cX8_slips 161 = .ok (.isub, 1) := by decide +kernel
theorem dX8_slips_162 : decode cX8_slips 162 = .ok (.imul, 1) := by decide +kernel
theorem dX8_slips_163 : decode cX8_slips 163 = .ok (.istore 8, 2) := by decide +kernel
theorem dX8_slips_165 : decode cX8_slips 165 = .ok (.iinc 9 1, 3) := by decide +kernel
theorem dX8_slips_168 : decode cX8_slips 168 = .ok (.goto (-70), 3) := by decide +kernel
theorem dX8_slips_171 : decode cX8_slips 171 = .ok (.aload_n 0, 1) := by decide +kernel
theorem dX8_slips_172 : decode cX8_slips 172 = .ok (.getfield 56, 3) := by decide +kernel
theorem dX8_slips_175 : decode cX8_slips 175 = .ok (.aload_n 0, 1) := by decide +kernel
theorem dX8_slips_176 : decode cX8_slips 176 = .ok (.getfield 35, 3) := by decide +kernel
theorem dX8_slips_179 : decode cX8_slips 179 = .ok (.getfield 139, 3) := by decide +kernel
theorem dX8_slips_182 : decode cX8_slips 182 = .ok (.aload_n 0, 1) := by decide +kernel
theorem dX8_slips_183 : decode cX8_slips 183 = .ok (.getfield 35, 3) := by decide +kernel
theorem dX8_slips_186 : decode cX8_slips 186 = .ok (.getfield 143, 3) := by decide +kernel
theorem dX8_slips_189 : decode cX8_slips 189 = .ok (.invokevirtual 209, 3) := by decide +kernel
theorem dX8_slips_192 : decode cX8_slips 192 = .ok (.aload_n 0, 1) := by decide +kernel
theorem dX8_slips_193 : decode cX8_slips 193 = .ok (.getfield 56, 3) := by decide +kernel
theorem dX8_slips_196 : decode cX8_slips 196 = .ok (.iload_n 1, 1) := by decide +kernel
theorem dX8_slips_197 : decode cX8_slips 197 = .ok (.iload_n 2, 1) := by decide +kernel
theorem dX8_slips_198 : decode cX8_slips 198 = .ok (.bipush 31, 2) := by decide +kernel
theorem dX8_slips_200 : decode cX8_slips 200 = .ok (.invokevirtual 238, 3) := by decide +kernel
theorem dX8_slips_203 : decode cX8_slips 203 = .ok (.ifCond .eq 10, 3) := by decide +kernel
theorem dX8_slips_206 : decode cX8_slips 206 = .ok (.iload 5, 2) := by decide +kernel
theorem dX8_slips_208 : decode cX8_slips 208 = .ok (.iload 8, 2) := by decide +kernel
theorem dX8_slips_210 : decode cX8_slips 210 = .ok (.iadd, 1) := by decide +kernel
theorem dX8_slips_211 : decode cX8_slips 211 = .ok (.istore 5, 2) := by decide +kernel
theorem dX8_slips_213 : decode cX8_slips 213 = .ok (.iinc 7 1, 3) := by decide +kernel
theorem dX8_slips_216 : decode cX8_slips 216 = .ok (.goto (-138), 3) := by decide +kernel
theorem dX8_slips_219 : decode cX8_slips 219 = .ok (.iload 5, 2) := by decide +kernel
theorem dX8_slips_221 : decode cX8_slips 221 = .ok (.iload 6, 2) := by decide +kernel
theorem dX8_slips_223 : decode cX8_slips 223 = .ok (.iload 4, 2) := by decide +kernel
theorem dX8_slips_225 : decode cX8_slips 225 = .ok (.invokestatic 266, 3) := by decide +kernel
theorem dX8_slips_228 : decode cX8_slips 228 = .ok (.ireturn, 1) := by decide +kernel
theorem dX8_seed_0 : decode cX8_seed 0 = .ok (.aload_n 0, 1) := by decide +kernel
theorem dX8_seed_1 : decode cX8_seed 1 = .ok (.getfield 81, 3) := by decide +kernel
theorem dX8_seed_4 : decode cX8_seed 4 = .ok (.lstore_n 3, 1) := by decide +kernel
theorem dX8_seed_5 : decode cX8_seed 5 = .ok (.aload_n 0, 1) := by decide +kernel
theorem dX8_seed_6 : decode cX8_seed 6 = .ok (.lload_n 1, 1) := by decide +kernel
theorem dX8_seed_7 : decode cX8_seed 7 = .ok (.putfield 81, 3) := by decide +kernel
theorem dX8_seed_10 : decode cX8_seed 10 = .ok (.lload_n 3, 1) := by decide +kernel
theorem dX8_seed_11 : decode cX8_seed 11 = .ok (.lreturn, 1) := by decide +kernel
theorem dX8_years_0 : decode cX8_years 0 = .ok (.iload_n 1, 1) := by decide +kernel
theorem dX8_years_1 : decode cX8_years 1 = .ok (.iconst 1, 1) := by decide +kernel
theorem dX8_years_2 : decode cX8_years 2 = .ok (.if_icmp .lt 9, 3) := by decide +kernel
theorem dX8_years_5 : decode cX8_years 5 = .ok (.iload_n 1, 1) := by decide +kernel
theorem dX8_years_6 : decode cX8_years 6 = .ok (.bipush 30, 2) := by decide +kernel
theorem dX8_years_8 : decode cX8_years 8 = .ok (.if_icmp .le 6, 3) := by decide +kernel
theorem dX8_years_11 : decode cX8_years 11 = .ok (.bipush (-2), 2) := by decide +kernel
theorem dX8_years_13 : decode cX8_years 13 = .ok (.ireturn, 1) := by decide +kernel
theorem dX8_years_14 : decode cX8_years 14 = .ok (.aload_n 0, 1) := by decide +kernel
theorem dX8_years_15 : decode cX8_years 15 = .ok (.getfield 35, 3) := by decide +kernel
theorem dX8_years_18 : decode cX8_years 18 = .ok (.aload_n 0, 1) := by decide +kernel
theorem dX8_years_19 : decode cX8_years 19 = .ok (.getfield 31, 3) := by decide +kernel
theorem dX8_years_22 : decode cX8_years 22 = .ok (.invokevirtual 249, 3) := by decide +kernel
theorem dX8_years_25 : decode cX8_years 25 = .ok (.iconst 0, 1) := by decide +kernel
theorem dX8_years_26 : decode cX8_years 26 = .ok (.istore_n 2, 1) := by decide +kernel
theorem dX8_years_27 : decode cX8_years 27 = .ok (.iconst 0, 1) := by decide +kernel
theorem dX8_years_28 : decode cX8_years 28 = .ok (.istore_n 3, 1) := by decide +kernel
theorem dX8_years_29 : decode cX8_years 29 = .ok (.iload_n 3, 1) := by decide +kernel
theorem dX8_years_30 : decode cX8_years 30 = .ok (.iload_n 1, 1) := by decide +kernel
theorem dX8_years_31 : decode cX8_years 31 = .ok (.if_icmp .ge 103, 3) := by decide +kernel
theorem dX8_years_34 : decode cX8_years 34 = .ok (.aload_n 0, 1) := by decide +kernel
theorem dX8_years_35 : decode cX8_years 35 = .ok (.aload_n 0, 1) := by decide +kernel
theorem dX8_years_36 : decode cX8_years 36 = .ok (.getfield 81, 3) := by decide +kernel
theorem dX8_years_39 : decode cX8_years 39 = .ok (.ldc2_w 284, 3) := by decide +kernel
theorem dX8_years_42 : decode cX8_years 42 = .ok (.lmul, 1) := by decide +kernel
theorem dX8_years_43 : decode cX8_years 43 = .ok (.ldc2_w 286, 3) := by decide +kernel
theorem dX8_years_46 : decode cX8_years 46 = .ok (.ladd, 1) := by decide +kernel
theorem dX8_years_47 : decode cX8_years 47 = .ok (.putfield 81, 3) := by decide +kernel
theorem dX8_years_50 : decode cX8_years 50 = .ok (.aload_n 0, 1) := by decide +kernel
theorem dX8_years_51 : decode cX8_years 51 = .ok (.getfield 81, 3) := by decide +kernel
theorem dX8_years_54 : decode cX8_years 54 = .ok (.bipush 33, 2) := by decide +kernel
theorem dX8_years_56 : decode cX8_years 56 = .ok (.lushr, 1) := by decide +kernel
theorem dX8_years_57 : decode cX8_years 57 = .ok (.ldc2_w 288, 3) := by decide +kernel
theorem dX8_years_60 : decode cX8_years 60 = .ok (.lrem, 1) := by decide +kernel
theorem dX8_years_61 : decode cX8_years 61 = .ok (.l2i, 1) := by decide +kernel
theorem dX8_years_62 : decode cX8_years 62 = .ok (.istore 4, 2) := by decide +kernel
theorem dX8_years_64 : decode cX8_years 64 = .ok (.iload 4, 2) := by decide +kernel
theorem dX8_years_66 : decode cX8_years 66 = .ok (.bipush 15, 2) := by decide +kernel
theorem dX8_years_68 : decode cX8_years 68 = .ok (.if_icmp .ne 13, 3) := by decide +kernel
theorem dX8_years_71 : decode cX8_years 71 = .ok (.aload_n 0, 1) := by decide +kernel
theorem dX8_years_72 : decode cX8_years 72 = .ok (.getfield 35, 3) := by decide +kernel
theorem dX8_years_75 : decode cX8_years 75 = .ok (.invokevirtual 193, 3) := by decide +kernel
theorem dX8_years_78 : decode cX8_years 78 = .ok (.goto 19, 3) := by decide +kernel
theorem dX8_years_81 : decode cX8_years 81 = .ok (.aload_n 0, 1) := by decide +kernel
theorem dX8_years_82 : decode cX8_years 82 = .ok (.getfield 35, 3) := by decide +kernel
theorem dX8_years_85 : decode cX8_years 85 = .ok (.iload 4, 2) := by decide +kernel
theorem dX8_years_87 : decode cX8_years 87 = .ok (.iconst 5, 1) := by decide +kernel
theorem dX8_years_88 : decode cX8_years 88 = .ok (.idiv, 1) := by decide +kernel
theorem dX8_years_89 : decode cX8_years 89 = .ok (.iload 4, 2) := by decide +kernel
theorem dX8_years_91 : decode cX8_years 91 = .ok (.iconst 5, 1) := by decide +kernel
theorem dX8_years_92 : decode cX8_years 92 = .ok (.irem, 1) := by decide +kernel
theorem dX8_years_93 : decode cX8_years 93 = .ok (.invokevirtual 252, 3) := by decide +kernel
theorem dX8_years_96 : decode cX8_years 96 = .ok (.pop, 1) := by decide +kernel
theorem dX8_years_97 : decode cX8_years 97 = .ok (.aload_n 0, 1) := by decide +kernel
theorem dX8_years_98 : decode cX8_years 98 = .ok (.getfield 56, 3) := by decide +kernel
theorem dX8_years_101 : decode cX8_years 101 = .ok (.aload_n 0, 1) := by decide +kernel
theorem dX8_years_102 : decode cX8_years 102 = .ok (.getfield 35, 3) := by decide +kernel
theorem dX8_years_105 : decode cX8_years 105 = .ok (.getfield 139, 3) := by decide +kernel
theorem dX8_years_108 : decode cX8_years 108 = .ok (.aload_n 0, 1) := by decide +kernel
theorem dX8_years_109 : decode cX8_years 109 = .ok (.getfield 35, 3) := by decide +kernel
theorem dX8_years_112 : decode cX8_years 112 = .ok (.getfield 143, 3) := by decide +kernel
theorem dX8_years_115 : decode cX8_years 115 = .ok (.invokevirtual 209, 3) := by decide +kernel
theorem dX8_years_118 : decode cX8_years 118 = .ok (.iload_n 2, 1) := by decide +kernel
theorem dX8_years_119 : decode cX8_years 119 = .ok (.aload_n 0, 1) := by decide +kernel
theorem dX8_years_120 : decode cX8_years 120 = .ok (.getfield 56, 3) := by decide +kernel
theorem dX8_years_123 : decode cX8_years 123 = .ok (.invokevirtual 216, 3) := by decide +kernel
theorem dX8_years_126 : decode cX8_years 126 = .ok (.iadd, 1) := by decide +kernel
theorem dX8_years_127 : decode cX8_years 127 = .ok (.istore_n 2, 1) := by decide +kernel
theorem dX8_years_128 : decode cX8_years 128 = .ok (.iinc 3 1, 3) := by decide +kernel
theorem dX8_years_131 : decode cX8_years 131 = .ok (.goto (-102), 3) := by decide +kernel
theorem dX8_years_134 : decode cX8_years 134 = .ok (.iload_n 2, 1) := by decide +kernel
theorem dX8_years_135 : decode cX8_years 135 = .ok (.ireturn, 1) := by decide +kernel
theorem dX8_keep_0 : decode cX8_keep 0 = .ok (.iload_n 1, 1) := by decide +kernel
theorem dX8_keep_1 : decode cX8_keep 1 = .ok (.ifCond .lt 8, 3) := by decide +kernel
theorem dX8_keep_4 : decode cX8_keep 4 = .ok (.iload_n 1, 1) := by decide +kernel
theorem dX8_keep_5 : decode cX8_keep 5 = .ok (.iconst 2, 1) := by decide +kernel
theorem dX8_keep_6 : decode cX8_keep 6 = .ok (.if_icmp .lt 5, 3) := by decide +kernel
theorem dX8_keep_9 : decode cX8_keep 9 = .ok (.iconst (-1), 1) := by decide +kernel
theorem dX8_keep_10 : decode cX8_keep 10 = .ok (.ireturn, 1) := by decide +kernel
theorem dX8_keep_11 : decode cX8_keep 11 = .ok (.aload_n 0, 1) := by decide +kernel
theorem dX8_keep_12 : decode cX8_keep 12 = .ok (.getfield 38, 3) := by decide +kernel
theorem dX8_keep_15 : decode cX8_keep 15 = .ok (.iload_n 1, 1) := by decide +kernel
theorem dX8_keep_16 : decode cX8_keep 16 = .ok (.aaload, 1) := by decide +kernel
theorem dX8_keep_17 : decode cX8_keep 17 = .ok (.aload_n 0, 1) := by decide +kernel
theorem dX8_keep_18 : decode cX8_keep 18 = .ok (.getfield 31, 3) := by decide +kernel
theorem dX8_keep_21 : decode cX8_keep 21 = .ok (.invokevirtual 249, 3) := by decide +kernel
theorem dX8_keep_24 : decode cX8_keep 24 = .ok (.aload_n 0, 1) := by decide +kernel
theorem dX8_keep_25 : decode cX8_keep 25 = .ok (.getfield 42, 3) := by decide +kernel
theorem dX8_keep_28 : decode cX8_keep 28 = .ok (.iload_n 1, 1) := by decide +kernel
theorem dX8_keep_29 : decode cX8_keep 29 = .ok (.iconst 1, 1) := by decide +kernel
theorem dX8_keep_30 : decode cX8_keep 30 = .ok (.bastore, 1) := by decide +kernel
theorem dX8_keep_31 : decode cX8_keep 31 = .ok (.aload_n 0, 1) := by decide +kernel
theorem dX8_keep_32 : decode cX8_keep 32 = .ok (.getfield 31, 3) := by decide +kernel
theorem dX8_keep_35 : decode cX8_keep 35 = .ok (.getfield 112, 3) := by decide +kernel
theorem dX8_keep_38 : decode cX8_keep 38 = .ok (.ireturn, 1) := by decide +kernel
theorem dX8_again_0 : decode cX8_again 0 = .ok (.iload_n 1, 1) := by decide +kernel
theorem dX8_again_1 : decode cX8_again 1 = .ok (.ifCond .lt 8, 3) := by decide +kernel
theorem dX8_again_4 : decode cX8_again 4 = .ok (.iload_n 1, 1) := by decide +kernel
theorem dX8_again_5 : decode cX8_again 5 = .ok (.iconst 2, 1) := by decide +kernel
theorem dX8_again_6 : decode cX8_again 6 = .ok (.if_icmp .lt 5, 3) := by decide +kernel
theorem dX8_again_9 : decode cX8_again 9 = .ok (.iconst (-1), 1) := by decide +kernel
theorem dX8_again_10 : decode cX8_again 10 = .ok (.ireturn, 1) := by decide +kernel
theorem dX8_again_11 : decode cX8_again 11 = .ok (.aload_n 0, 1) := by decide +kernel
theorem dX8_again_12 : decode cX8_again 12 = .ok (.getfield 42, 3) := by decide +kernel
theorem dX8_again_15 : decode cX8_again 15 = .ok (.iload_n 1, 1) := by decide +kernel
theorem dX8_again_16 : decode cX8_again 16 = .ok (.baload, 1) := by decide +kernel
theorem dX8_again_17 : decode cX8_again 17 = .ok (.ifCond .ne 6, 3) := by decide +kernel
theorem dX8_again_20 : decode cX8_again 20 = .ok (.bipush (-3), 2) := by decide +kernel
theorem dX8_again_22 : decode cX8_again 22 = .ok (.ireturn, 1) := by decide +kernel
theorem dX8_again_23 : decode cX8_again 23 = .ok (.aload_n 0, 1) := by decide +kernel
theorem dX8_again_24 : decode cX8_again 24 = .ok (.getfield 31, 3) := by decide +kernel
theorem dX8_again_27 : decode cX8_again 27 = .ok (.aload_n 0, 1) := by decide +kernel
theorem dX8_again_28 : decode cX8_again 28 = .ok (.getfield 38, 3) := by decide +kernel
theorem dX8_again_31 : decode cX8_again 31 = .ok (.iload_n 1, 1) := by decide +kernel
theorem dX8_again_32 : decode cX8_again 32 = .ok (.aaload, 1) := by decide +kernel
theorem dX8_again_33 : decode cX8_again 33 = .ok (.invokevirtual 249, 3) := by decide +kernel
theorem dX8_again_36 : decode cX8_again 36 = .ok (.aload_n 0, 1) := by decide +kernel
theorem dX8_again_37 : decode cX8_again 37 = .ok (.getfield 49, 3) := by decide +kernel
theorem dX8_again_40 : decode cX8_again 40 = .ok (.invokevirtual 100, 3) := by decide +kernel
theorem dX8_again_43 : decode cX8_again 43 = .ok (.aload_n 0, 1) := by decide +kernel
theorem dX8_again_44 : decode cX8_again 44 = .ok (.getfield 31, 3) := by decide +kernel
theorem dX8_again_47 : decode cX8_again 47 = .ok (.getfield 112, 3) := by decide +kernel
theorem dX8_again_50 : decode cX8_again 50 = .ok (.ireturn, 1) := by decide +kernel
theorem dX8_isRow_0 : decode cX8_isRow 0 = .ok (.iload_n 1, 1) := by decide +kernel
theorem dX8_isRow_1 : decode cX8_isRow 1 = .ok (.ifCond .lt 18, 3) := by decide +kernel
theorem dX8_isRow_4 : decode cX8_isRow 4 = .ok (.iload_n 1, 1) := by decide +kernel
theorem dX8_isRow_5 : decode cX8_isRow 5 = .ok (.aload_n 0, 1) := by decide +kernel
theorem dX8_isRow_6 : decode cX8_isRow 6 = .ok (.getfield 19, 3) := by decide +kernel
theorem dX8_isRow_9 : decode cX8_isRow 9 = .ok (.getfield 103, 3) := by decide +kernel
theorem dX8_isRow_12 : decode cX8_isRow 12 = .ok (.if_icmp .ge 7, 3) := by decide +kernel
theorem dX8_isRow_15 : decode cX8_isRow 15 = .ok (.iconst 1, 1) := by decide +kernel
theorem dX8_isRow_16 : decode cX8_isRow 16 = .ok (.goto 4, 3) := by decide +kernel
theorem dX8_isRow_19 : decode cX8_isRow 19 = .ok (.iconst 0, 1) := by decide +kernel
theorem dX8_isRow_20 : decode cX8_isRow 20 = .ok (.ireturn, 1) := by decide +kernel
theorem dX8_isKin_0 : decode cX8_isKin 0 = .ok (.iload_n 1, 1) := by decide +kernel
theorem dX8_isKin_1 : decode cX8_isKin 1 = .ok (.ifCond .lt 18, 3) := by decide +kernel
theorem dX8_isKin_4 : decode cX8_isKin 4 = .ok (.iload_n 1, 1) := by decide +kernel
theorem dX8_isKin_5 : decode cX8_isKin 5 = .ok (.aload_n 0, 1) := by decide +kernel
theorem dX8_isKin_6 : decode cX8_isKin 6 = .ok (.getfield 19, 3) := by decide +kernel
theorem dX8_isKin_9 : decode cX8_isKin 9 = .ok (.getfield 106, 3) := by decide +kernel
theorem dX8_isKin_12 : decode cX8_isKin 12 = .ok (.if_icmp .ge 7, 3) := by decide +kernel
theorem dX8_isKin_15 : decode cX8_isKin 15 = .ok (.iconst 1, 1) := by decide +kernel
theorem dX8_isKin_16 : decode cX8_isKin 16 = .ok (.goto 4, 3) := by decide +kernel
theorem dX8_isKin_19 : decode cX8_isKin 19 = .ok (.iconst 0, 1) := by decide +kernel
theorem dX8_isKin_20 : decode cX8_isKin 20 = .ok (.ireturn, 1) := by decide +kernel
theorem dX8_isDeed_0 : decode cX8_isDeed 0 = .ok (.iload_n 1, 1) := by decide +kernel
theorem dX8_isDeed_1 : decode cX8_isDeed 1 = .ok (.ifCond .lt 18, 3) := by decide +kernel
theorem dX8_isDeed_4 : decode cX8_isDeed 4 = .ok (.iload_n 1, 1) := by decide +kernel
theorem dX8_isDeed_5 : decode cX8_isDeed 5 = .ok (.aload_n 0, 1) := by decide +kernel
theorem dX8_isDeed_6 : decode cX8_isDeed 6 = .ok (.getfield 19, 3) := by decide +kernel
theorem dX8_isDeed_9 : decode cX8_isDeed 9 = .ok (.getfield 109, 3) := by decide +kernel
theorem dX8_isDeed_12 : decode cX8_isDeed 12 = .ok (.if_icmp .ge 7, 3) := by decide +kernel
theorem dX8_isDeed_15 : decode cX8_isDeed 15 = .ok (.iconst 1, 1) := by decide +kernel
theorem dX8_isDeed_16 : decode cX8_isDeed 16 = .ok (.goto 4, 3) := by decide +kernel
theorem dX8_isDeed_19 : decode cX8_isDeed 19 = .ok (.iconst 0, 1) := by decide +kernel
theorem dX8_isDeed_20 : decode cX8_isDeed 20 = .ok (.ireturn, 1) := by decide +kernel
theorem dX8_isHalf_0 : decode cX8_isHalf 0 = .ok (.iload_n 0, 1) := by decide +kernel
theorem dX8_isHalf_1 : decode cX8_isHalf 1 = .ok (.ifCond .eq 8, 3) := by decide +kernel
theorem dX8_isHalf_4 : decode cX8_isHalf 4 = .ok (.iload_n 0, 1) := by decide +kernel
theorem dX8_isHalf_5 : decode cX8_isHalf 5 = .ok (.iconst 1, 1) := by decide +kernel
theorem dX8_isHalf_6 : decode cX8_isHalf 6 = .ok (.if_icmp .ne 7, 3) := by decide +kernel
theorem dX8_isHalf_9 : decode cX8_isHalf 9 = .ok (.iconst 1, 1) := by decide +kernel
theorem dX8_isHalf_10 : decode cX8_isHalf 10 = .ok (.goto 4, 3) := by decide +kernel
theorem dX8_isHalf_13 : decode cX8_isHalf 13 = .ok (.iconst 0, 1) := by decide +kernel
theorem dX8_isHalf_14 : decode cX8_isHalf 14 = .ok (.ireturn, 1) := by decide +kernel
theorem dX8_isWorth_0 : decode cX8_isWorth 0 = .ok (.iload_n 0, 1) := by decide +kernel
theorem dX8_isWorth_1 : decode cX8_isWorth 1 = .ok (.ifCond .lt 14, 3) := by decide +kernel
theorem dX8_isWorth_4 : decode cX8_isWorth 4 = .ok (.iload_n 0, 1) := by decide +kernel
theorem dX8_isWorth_5 : decode cX8_isWorth 5 = .ok (.sipush 9999, 3) := by decide +kernel
theorem dX8_isWorth_8 : decode cX8_isWorth 8 = .ok (.if_icmp .gt 7, 3) := by decide +kernel
theorem dX8_isWorth_11 : decode cX8_isWorth 11 = .ok (.iconst 1, 1) := by decide +kernel
theorem dX8_isWorth_12 : decode cX8_isWorth 12 = .ok (.goto 4, 3) := by decide +kernel
theorem dX8_isWorth_15 : decode cX8_isWorth 15 = .ok (.iconst 0, 1) := by decide +kernel
theorem dX8_isWorth_16 : decode cX8_isWorth 16 = .ok (.ireturn, 1) := by decide +kernel
theorem dX8_kinOf_0 : decode cX8_kinOf 0 = .ok (.iload_n 0, 1) := by decide +kernel
theorem dX8_kinOf_1 : decode cX8_kinOf 1 = .ok (.iconst 4, 1) := by decide +kernel
theorem dX8_kinOf_2 : decode cX8_kinOf 2 = .ok (.idiv, 1) := by decide +kernel
theorem dX8_kinOf_3 : decode cX8_kinOf 3 = .ok (.ireturn, 1) := by decide +kernel
theorem dX8_partOf_0 : decode cX8_partOf 0 = .ok (.iload_n 0, 1) := by decide +kernel
theorem dX8_partOf_1 : decode cX8_partOf 1 = .ok (.iconst 4, 1) := by decide +kernel
theorem dX8_partOf_2 : decode cX8_partOf 2 = .ok (.irem, 1) := by decide +kernel
theorem dX8_partOf_3 : decode cX8_partOf 3 = .ok (.ireturn, 1) := by decide +kernel
theorem dX8_halfOf_0 : decode cX8_halfOf 0 = .ok (.iload_n 0, 1) := by decide +kernel
theorem dX8_halfOf_1 : decode cX8_halfOf 1 = .ok (.iload_n 1, 1) := by decide +kernel
theorem dX8_halfOf_2 : decode cX8_halfOf 2 = .ok (.if_icmp .ge 7, 3) := by decide +kernel
theorem dX8_halfOf_5 : decode cX8_halfOf 5 = .ok (.iconst 0, 1) := by decide +kernel
theorem dX8_halfOf_6 : decode cX8_halfOf 6 = .ok (.goto 4, 3) := by decide +kernel
theorem dX8_halfOf_9 : decode cX8_halfOf 9 = .ok (.iconst 1, 1) := by decide +kernel
theorem dX8_halfOf_10 : decode cX8_halfOf 10 = .ok (.ireturn, 1) := by decide +kernel
theorem dX8_talliedNow_0 : decode cX8_talliedNow 0 = .ok (.aload_n 0, 1) := by decide +kernel
theorem dX8_talliedNow_1 : decode cX8_talliedNow 1 = .ok (.getfield 56, 3) := by decide +kernel
theorem dX8_talliedNow_4 : decode cX8_talliedNow 4 = .ok (.aload_n 0, 1) := by decide +kernel
theorem dX8_talliedNow_5 : decode cX8_talliedNow 5 = .ok (.getfield 31, 3) := by decide +kernel
theorem dX8_talliedNow_8 : decode cX8_talliedNow 8 = .ok (.getfield 139, 3) := by decide +kernel
theorem dX8_talliedNow_11 : decode cX8_talliedNow 11 = .ok (.aload_n 0, 1) := by decide +kernel
theorem dX8_talliedNow_12 : decode cX8_talliedNow 12 = .ok (.getfield 31, 3) := by decide +kernel
theorem dX8_talliedNow_15 : decode cX8_talliedNow 15 = .ok (.getfield 143, 3) := by decide +kernel
theorem dX8_talliedNow_18 : decode cX8_talliedNow 18 = .ok (.invokevirtual 209, 3) := by decide +kernel
theorem dX8_talliedNow_21 : decode cX8_talliedNow 21 = .ok (.aload_n 0, 1) := by decide +kernel
theorem dX8_talliedNow_22 : decode cX8_talliedNow 22 = .ok (.getfield 56, 3) := by decide +kernel
theorem dX8_talliedNow_25 : decode cX8_talliedNow 25 = .ok (.areturn, 1) := by decide +kernel
theorem dX8_wireCount_0 : decode cX8_wireCount 0 = .ok (.iconst 0, 1) := by decide +kernel
theorem dX8_wireCount_1 : decode cX8_wireCount 1 = .ok (.istore_n 1, 1) := by decide +kernel
theorem dX8_wireCount_2 : decode cX8_wireCount 2 = .ok (.aload_n 0, 1) := by decide +kernel
theorem dX8_wireCount_3 : decode cX8_wireCount 3 = .ok (.getfield 70, 3) := by decide +kernel
theorem dX8_wireCount_6 : decode cX8_wireCount 6 = .ok (.aload_n 0, 1) := by decide +kernel
theorem dX8_wireCount_7 : decode cX8_wireCount 7 = .ok (.getfield 19, 3) := by decide +kernel
theorem dX8_wireCount_10 : decode cX8_wireCount 10 = .ok (.getfield 103, 3) := by decide +kernel
theorem dX8_wireCount_13 : decode cX8_wireCount 13 = .ok (.invokevirtual 201, 3) := by decide +kernel
theorem dX8_wireCount_16 : decode cX8_wireCount 16 = .ok (.iconst 0, 1) := by decide +kernel
theorem dX8_wireCount_17 : decode cX8_wireCount 17 = .ok (.istore_n 2, 1) := by decide +kernel
theorem dX8_wireCount_18 : decode cX8_wireCount 18 = .ok (.iload_n 2, 1) := by decide +kernel
theorem dX8_wireCount_19 : decode cX8_wireCount 19 = .ok (.sipush 7776, 3) := by decide +kernel
theorem dX8_wireCount_22 : decode cX8_wireCount 22 = .ok (.if_icmp .ge 29, 3) := by decide +kernel
theorem dX8_wireCount_25 : decode cX8_wireCount 25 = .ok (.aload_n 0, 1) := by decide +kernel
theorem dX8_wireCount_26 : decode cX8_wireCount 26 = .ok (.getfield 70, 3) := by decide +kernel
theorem dX8_wireCount_29 : decode cX8_wireCount 29 = .ok (.getfield 204, 3) := by decide +kernel
theorem dX8_wireCount_32 : decode cX8_wireCount 32 = .ok (.ifCond .eq 19, 3) := by decide +kernel
theorem dX8_wireCount_35 : decode cX8_wireCount 35 = .ok (.iinc 1 1, 3) := by decide +kernel
theorem dX8_wireCount_38 : decode cX8_wireCount 38 = .ok (.aload_n 0, 1) := by decide +kernel
theorem dX8_wireCount_39 : decode cX8_wireCount 39 = .ok (.getfield 70, 3) := by decide +kernel
theorem dX8_wireCount_42 : decode cX8_wireCount 42 = .ok (.invokevirtual 226, 3) := by decide +kernel
theorem dX8_wireCount_45 : decode cX8_wireCount 45 = .ok (.iinc 2 1, 3) := by decide +kernel
theorem dX8_wireCount_48 : decode cX8_wireCount 48 = .ok (.goto (-30), 3) := by decide +kernel
theorem dX8_wireCount_51 : decode cX8_wireCount 51 = .ok (.iload_n 1, 1) := by decide +kernel
theorem dX8_wireCount_52 : decode cX8_wireCount 52 = .ok (.ireturn, 1) := by decide +kernel
theorem dX8_ordersWith_0 : decode cX8_ordersWith 0 = .ok (.aload_n 0, 1) := by decide +kernel
theorem dX8_ordersWith_1 : decode cX8_ordersWith 1 = .ok (.getfield 19, 3) := by decide +kernel
theorem dX8_ordersWith_4 : decode cX8_ordersWith 4 = .ok (.getfield 106, 3) := by decide +kernel
theorem dX8_ordersWith_7 : decode cX8_ordersWith 7 = .ok (.iconst 1, 1) := by decide +kernel
theorem dX8_ordersWith_8 : decode cX8_ordersWith 8 = .ok (.isub, 1) := by decide +kernel
theorem dX8_ordersWith_9 : decode cX8_ordersWith 9 = .ok (.iload_n 1, 1) := by decide +kernel
theorem dX8_ordersWith_10 : decode cX8_ordersWith 10 = .ok (.isub, 1) := by decide +kernel
theorem dX8_ordersWith_11 : decode cX8_ordersWith 11 = .ok (.istore_n 2, 1) := by decide +kernel
theorem dX8_ordersWith_12 : decode cX8_ordersWith 12 = .ok (.iload_n 1, 1) := by decide +kernel
theorem dX8_ordersWith_13 : decode cX8_ordersWith 13 = .ok (.ifCond .lt 7, 3) := by decide +kernel
theorem dX8_ordersWith_16 : decode cX8_ordersWith 16 = .ok (.iload_n 2, 1) := by decide +kernel
theorem dX8_ordersWith_17 : decode cX8_ordersWith 17 = .ok (.ifCond .ge 5, 3) := by decide +kernel
theorem dX8_ordersWith_20 : decode cX8_ordersWith 20 = .ok (.iconst 0, 1) := by decide +kernel
theorem dX8_ordersWith_21 : decode cX8_ordersWith 21 = .ok (.ireturn, 1) := by decide +kernel
theorem dX8_ordersWith_22 : decode cX8_ordersWith 22 = .ok (.getstatic 263, 3) := by decide +kernel
theorem dX8_ordersWith_25 : decode cX8_ordersWith 25 = .ok (.iload_n 1, 1) := by decide +kernel
theorem dX8_ordersWith_26 : decode cX8_ordersWith 26 = .ok (.iaload, 1) := by decide +kernel
theorem dX8_ordersWith_27 : decode cX8_ordersWith 27 = .ok (.getstatic 263, 3) := by decide +kernel
theorem dX8_ordersWith_30 : decode cX8_ordersWith 30 = .ok (.iload_n 2, 1) := by decide +kernel
theorem dX8_ordersWith_31 : decode cX8_ordersWith 31 = .ok (.iaload, 1) := by decide +kernel
theorem dX8_ordersWith_32 : decode cX8_ordersWith 32 = .ok (.imul, 1) := by decide +kernel
theorem dX8_ordersWith_33 : decode cX8_ordersWith 33 = .ok (.ireturn, 1) := by decide +kernel
theorem dX8_isAtRest_0 : decode cX8_isAtRest 0 = .ok (.aload_n 0, 1) := by decide +kernel
theorem dX8_isAtRest_1 : decode cX8_isAtRest 1 = .ok (.iconst 0, 1) := by decide +kernel
theorem dX8_isAtRest_2 : decode cX8_isAtRest 2 = .ok (.iload_n 1, 1) := by decide +kernel
theorem dX8_isAtRest_3 : decode cX8_isAtRest 3 = .ok (.iload_n 2, 1) := by decide +kernel
theorem dX8_isAtRest_4 : decode cX8_isAtRest 4 = .ok (.invokevirtual 290, 3) := by decide +kernel
theorem dX8_isAtRest_7 : decode cX8_isAtRest 7 = .ok (.aload_n 0, 1) := by decide +kernel
theorem dX8_isAtRest_8 : decode cX8_isAtRest 8 = .ok (.iconst 0, 1) := by decide +kernel
theorem dX8_isAtRest_9 : decode cX8_isAtRest 9 = .ok (.iconst 1, 1) := by decide +kernel
theorem dX8_isAtRest_10 : decode cX8_isAtRest 10 = .ok (.iload_n 1, 1) := by decide +kernel
theorem dX8_isAtRest_11 : decode cX8_isAtRest 11 = .ok (.isub, 1) := by decide +kernel
theorem dX8_isAtRest_12 : decode cX8_isAtRest 12 = .ok (.iload_n 2, 1) := by decide +kernel
theorem dX8_isAtRest_13 : decode cX8_isAtRest 13 = .ok (.invokevirtual 290, 3) := by decide +kernel
theorem dX8_isAtRest_16 : decode cX8_isAtRest 16 = .ok (.if_icmp .lt 26, 3) := by decide +kernel
theorem dX8_isAtRest_19 : decode cX8_isAtRest 19 = .ok (.aload_n 0, 1) := by decide +kernel
theorem dX8_isAtRest_20 : decode cX8_isAtRest 20 = .ok (.iconst 1, 1) := by decide +kernel
theorem dX8_isAtRest_21 : decode cX8_isAtRest 21 = .ok (.iload_n 1, 1) := by decide +kernel
theorem dX8_isAtRest_22 : decode cX8_isAtRest 22 = .ok (.iload_n 2, 1) := by decide +kernel
theorem dX8_isAtRest_23 : decode cX8_isAtRest 23 = .ok (.invokevirtual 290, 3) := by decide +kernel
theorem dX8_isAtRest_26 : decode cX8_isAtRest 26 = .ok (.aload_n 0, 1) := by decide +kernel
theorem dX8_isAtRest_27 : decode cX8_isAtRest 27 = .ok (.iconst 1, 1) := by decide +kernel
theorem dX8_isAtRest_28 : decode cX8_isAtRest 28 = .ok (.iload_n 1, 1) := by decide +kernel
theorem dX8_isAtRest_29 : decode cX8_isAtRest 29 = .ok (.iconst 1, 1) := by decide +kernel
theorem dX8_isAtRest_30 : decode cX8_isAtRest 30 = .ok (.iload_n 2, 1) := by decide +kernel
theorem dX8_isAtRest_31 : decode cX8_isAtRest 31 = .ok (.isub, 1) := by decide +kernel
theorem dX8_isAtRest_32 : decode cX8_isAtRest 32 = .ok (.invokevirtual 290, 3) := by decide +kernel
theorem dX8_isAtRest_35 : decode cX8_isAtRest 35 = .ok (.if_icmp .lt 7, 3) := by decide +kernel
theorem dX8_isAtRest_38 : decode cX8_isAtRest 38 = .ok (.iconst 1, 1) := by decide +kernel
theorem dX8_isAtRest_39 : decode cX8_isAtRest 39 = .ok (.goto 4, 3) := by decide +kernel
theorem dX8_isAtRest_42 : decode cX8_isAtRest 42 = .ok (.iconst 0, 1) := by decide +kernel
theorem dX8_isAtRest_43 : decode cX8_isAtRest 43 = .ok (.ireturn, 1) := by decide +kernel
theorem dX8_holding_0 : decode cX8_holding 0 = .ok (.iconst 0, 1) := by decide +kernel
theorem dX8_holding_1 : decode cX8_holding 1 = .ok (.istore 4, 2) := by decide +kernel
theorem dX8_holding_3 : decode cX8_holding 3 = .ok (.iconst 0, 1) := by decide +kernel
theorem dX8_holding_4 : decode cX8_holding 4 = .ok (.istore 5, 2) := by decide +kernel
theorem dX8_holding_6 : decode cX8_holding 6 = .ok (.iload 5, 2) := by decide +kernel
theorem dX8_holding_8 : decode cX8_holding 8 = .ok (.aload_n 0, 1) := by decide +kernel
theorem dX8_holding_9 : decode cX8_holding 9 = .ok (.getfield 19, 3) := by decide +kernel
theorem dX8_holding_12 : decode cX8_holding 12 = .ok (.getfield 103, 3) := by decide +kernel
theorem dX8_holding_15 : decode cX8_holding 15 = .ok (.if_icmp .ge 36, 3) := by decide +kernel
theorem dX8_holding_18 : decode cX8_holding 18 = .ok (.iload 4, 2) := by decide +kernel
theorem dX8_holding_20 : decode cX8_holding 20 = .ok (.iconst 0, 1) := by decide +kernel
theorem dX8_holding_21 : decode cX8_holding 21 = .ok (.iconst 5, 1) := by decide +kernel
theorem dX8_holding_22 : decode cX8_holding 22 = .ok (.aload_n 0, 1) := by decide +kernel
theorem dX8_holding_23 : decode cX8_holding 23 = .ok (.getfield 31, 3) := by decide +kernel
theorem dX8_holding_26 : decode cX8_holding 26 = .ok (.getfield 143, 3) := by decide +kernel
theorem dX8_holding_29 : decode cX8_holding 29 = .ok (.iload 5, 2) := by decide +kernel
theorem dX8_holding_31 : decode cX8_holding 31 = .ok (.iaload, 1) := by decide +kernel
theorem dX8_holding_32 : decode cX8_holding 32 = .ok (.iload_n 2, 1) := by decide +kernel
theorem dX8_holding_33 : decode cX8_holding 33 = .ok (.iadd, 1) := by decide +kernel
theorem dX8_holding_34 : decode cX8_holding 34 = .ok (.iload_n 3, 1) := by decide +kernel
theorem dX8_holding_35 : decode cX8_holding 35 = .ok (.isub, 1) := by decide +kernel
theorem dX8_holding_36 : decode cX8_holding 36 = .ok (.invokestatic 279, 3) := by decide +kernel
theorem dX8_holding_39 : decode cX8_holding 39 = .ok (.invokestatic 293, 3) := by decide +kernel
theorem dX8_holding_42 : decode cX8_holding 42 = .ok (.iadd, 1) := by decide +kernel
theorem dX8_holding_43 : decode cX8_holding 43 = .ok (.istore 4, 2) := by decide +kernel
theorem dX8_holding_45 : decode cX8_holding 45 = .ok (.iinc 5 1, 3) := by decide +kernel
theorem dX8_holding_48 : decode cX8_holding 48 = .ok (.goto (-42), 3) := by decide +kernel
theorem dX8_holding_51 : decode cX8_holding 51 = .ok (.iload_n 1, 1) := by decide +kernel
theorem dX8_holding_52 : decode cX8_holding 52 = .ok (.ifCond .ne 10, 3) := by decide +kernel
theorem dX8_holding_55 : decode cX8_holding 55 = .ok (.iload 4, 2) := by decide +kernel
theorem dX8_holding_57 : decode cX8_holding 57 = .ok (.iconst 2, 1) := by decide +kernel
theorem dX8_holding_58 : decode cX8_holding 58 = .ok (.iload_n 2, 1) := by decide +kernel
theorem dX8_holding_59 : decode cX8_holding 59 = .ok (.imul, 1) := by decide +kernel
theorem dX8_holding_60 : decode cX8_holding 60 = .ok (.isub, 1) := by decide +kernel
theorem dX8_holding_61 : decode cX8_holding 61 = .ok (.ireturn, 1) := by decide +kernel
theorem dX8_holding_62 : decode cX8_holding 62 = .ok (.aload_n 0, 1) := by decide +kernel
theorem dX8_holding_63 : decode cX8_holding 63 = .ok (.getfield 19, 3) := by decide +kernel
theorem dX8_holding_66 : decode cX8_holding 66 = .ok (.getfield 103, 3) := by decide +kernel
theorem dX8_holding_69 : decode cX8_holding 69 = .ok (.iconst 5, 1) := by decide +kernel
theorem dX8_holding_70 : decode cX8_holding 70 = .ok (.imul, 1) := by decide +kernel
theorem dX8_holding_71 : decode cX8_holding 71 = .ok (.iload 4, 2) := by decide +kernel
theorem dX8_holding_73 : decode cX8_holding 73 = .ok (.isub, 1) := by decide +kernel
theorem dX8_holding_74 : decode cX8_holding 74 = .ok (.iconst 2, 1) := by decide +kernel
theorem dX8_holding_75 : decode cX8_holding 75 = .ok (.iload_n 3, 1) := by decide +kernel
theorem dX8_holding_76 : decode cX8_holding 76 = .ok (.imul, 1) := by decide +kernel
theorem dX8_holding_77 : decode cX8_holding 77 = .ok (.isub, 1) := by decide +kernel
theorem dX8_holding_78 : decode cX8_holding 78 = .ok (.ireturn, 1) := by decide +kernel
theorem dX8_fraction_0 : decode cX8_fraction 0 = .ok (.iload_n 0, 1) := by decide +kernel
theorem dX8_fraction_1 : decode cX8_fraction 1 = .ok (.iload_n 1, 1) := by decide +kernel
theorem dX8_fraction_2 : decode cX8_fraction 2 = .ok (.invokestatic 296, 3) := by decide +kernel
theorem dX8_fraction_5 : decode cX8_fraction 5 = .ok (.istore_n 3, 1) := by decide +kernel
theorem dX8_fraction_6 : decode cX8_fraction 6 = .ok (.iload_n 3, 1) := by decide +kernel
theorem dX8_fraction_7 : decode cX8_fraction 7 = .ok (.ifCond .ne 5, 3) := by decide +kernel
theorem dX8_fraction_10 : decode cX8_fraction 10 = .ok (.iconst 0, 1) := by decide +kernel
theorem dX8_fraction_11 : decode cX8_fraction 11 = .ok (.ireturn, 1) := by decide +kernel
theorem dX8_fraction_12 : decode cX8_fraction 12 = .ok (.iload_n 2, 1) := by decide +kernel
theorem dX8_fraction_13 : decode cX8_fraction 13 = .ok (.ifCond .eq 9, 3) := by decide +kernel
theorem dX8_fraction_16 : decode cX8_fraction 16 = .ok (.iload_n 0, 1) := by decide +kernel
theorem dX8_fraction_17 : decode cX8_fraction 17 = .ok (.iload_n 3, 1) := by decide +kernel
theorem dX8_fraction_18 : decode cX8_fraction 18 = .ok (.idiv, 1) := by decide +kernel
theorem dX8_fraction_19 : decode cX8_fraction 19 = .ok (.goto 6, 3) := by decide +kernel
theorem dX8_fraction_22 : decode cX8_fraction 22 = .ok (.iload_n 1, 1) := by decide +kernel
theorem dX8_fraction_23 : decode cX8_fraction 23 = .ok (.iload_n 3, 1) := by decide +kernel
theorem dX8_fraction_24 : decode cX8_fraction 24 = .ok (.idiv, 1) := by decide +kernel
theorem dX8_fraction_25 : decode cX8_fraction 25 = .ok (.ireturn, 1) := by decide +kernel
theorem dX8_commonDivisor_0 : decode cX8_commonDivisor 0 = .ok (.iload_n 0, 1) := by decide +kernel
theorem dX8_commonDivisor_1 : decode cX8_commonDivisor 1 = .ok (.istore_n 2, 1) := by decide +kernel
theorem dX8_commonDivisor_2 : decode cX8_commonDivisor 2 = .ok (.iload_n 1, 1) := by decide +kernel
theorem dX8_commonDivisor_3 : decode cX8_commonDivisor 3 = .ok (.istore_n 3, 1) := by decide +kernel
theorem dX8_commonDivisor_4 : decode cX8_commonDivisor 4 = .ok (.iconst 0, 1) := by decide +kernel
theorem dX8_commonDivisor_5 : decode cX8_commonDivisor 5 = .ok (.istore 4, 2) := by decide +kernel
theorem dX8_commonDivisor_7 : decode cX8_commonDivisor 7 = .ok (.iload 4, 2) := by decide +kernel
theorem dX8_commonDivisor_9 : decode cX8_commonDivisor 9 = .ok (.bipush 64, 2) := by decide +kernel
theorem dX8_commonDivisor_11 : decode cX8_commonDivisor 11 = .ok (.if_icmp .ge 23, 3) := by decide +kernel
theorem dX8_commonDivisor_14 : decode cX8_commonDivisor 14 = .ok (.iload_n 3, 1) := by decide +kernel
theorem dX8_commonDivisor_15 : decode cX8_commonDivisor 15 = .ok (.ifCond .eq 19, 3) := by decide +kernel
theorem dX8_commonDivisor_18 : decode cX8_commonDivisor 18 = .ok (.iload_n 2, 1) := by decide +kernel
theorem dX8_commonDivisor_19 : decode cX8_commonDivisor 19 = .ok (.iload_n 3, 1) := by decide +kernel
theorem dX8_commonDivisor_20 : decode cX8_commonDivisor 20 = .ok (.irem, 1) := by decide +kernel
theorem dX8_commonDivisor_21 : decode cX8_commonDivisor 21 = .ok (.istore 5, 2) := by decide +kernel
theorem dX8_commonDivisor_23 : decode cX8_commonDivisor 23 = .ok (.iload_n 3, 1) := by decide +kernel
theorem dX8_commonDivisor_24 : decode cX8_commonDivisor 24 = .ok (.istore_n 2, 1) := by decide +kernel
theorem dX8_commonDivisor_25 : decode cX8_commonDivisor 25 = .ok (.iload 5, 2) := by decide +kernel
theorem dX8_commonDivisor_27 : decode cX8_commonDivisor 27 = .ok (.istore_n 3, 1) := by decide +kernel
theorem dX8_commonDivisor_28 : decode cX8_commonDivisor 28 = .ok (.iinc 4 1, 3) := by decide +kernel
theorem dX8_commonDivisor_31 : decode cX8_commonDivisor 31 = .ok (.goto (-24), 3) := by decide +kernel
theorem dX8_commonDivisor_34 : decode cX8_commonDivisor 34 = .ok (.iload_n 2, 1) := by decide +kernel
theorem dX8_commonDivisor_35 : decode cX8_commonDivisor 35 = .ok (.ireturn, 1) := by decide +kernel
theorem dX8_figuresOf_0 : decode cX8_figuresOf 0 = .ok (.iconst 1, 1) := by decide +kernel
theorem dX8_figuresOf_1 : decode cX8_figuresOf 1 = .ok (.istore_n 2, 1) := by decide +kernel
theorem dX8_figuresOf_2 : decode cX8_figuresOf 2 = .ok (.iconst 0, 1) := by decide +kernel
theorem dX8_figuresOf_3 : decode cX8_figuresOf 3 = .ok (.istore_n 3, 1) := by decide +kernel
theorem dX8_figuresOf_4 : decode cX8_figuresOf 4 = .ok (.iload_n 3, 1) := by decide +kernel
theorem dX8_figuresOf_5 : decode cX8_figuresOf 5 = .ok (.iload_n 1, 1) := by decide +kernel
theorem dX8_figuresOf_6 : decode cX8_figuresOf 6 = .ok (.if_icmp .ge 18, 3) := by decide +kernel
theorem dX8_figuresOf_9 : decode cX8_figuresOf 9 = .ok (.bipush 10, 2) := by decide +kernel
theorem dX8_figuresOf_11 : decode cX8_figuresOf 11 = .ok (.iload_n 2, 1) := by decide +kernel
theorem dX8_figuresOf_12 : decode cX8_figuresOf 12 = .ok (.imul, 1) := by decide +kernel
theorem dX8_figuresOf_13 : decode cX8_figuresOf 13 = .ok (.aload_n 0, 1) := by decide +kernel
theorem dX8_figuresOf_14 : decode cX8_figuresOf 14 = .ok (.iload_n 3, 1) := by decide +kernel
theorem dX8_figuresOf_15 : decode cX8_figuresOf 15 = .ok (.iaload, 1) := by decide +kernel
theorem dX8_figuresOf_16 : decode cX8_figuresOf 16 = .ok (.iadd, 1) := by decide +kernel
theorem dX8_figuresOf_17 : decode cX8_figuresOf 17 = .ok (.istore_n 2, 1) := by decide +kernel
theorem dX8_figuresOf_18 : decode cX8_figuresOf 18 = .ok (.iinc 3 1, 3) := by decide +kernel
theorem dX8_figuresOf_21 : decode cX8_figuresOf 21 = .ok (.goto (-17), 3) := by decide +kernel
theorem dX8_figuresOf_24 : decode cX8_figuresOf 24 = .ok (.iload_n 2, 1) := by decide +kernel
theorem dX8_figuresOf_25 : decode cX8_figuresOf 25 = .ok (.ireturn, 1) := by decide +kernel
theorem dX9_init_0 : decode cX9_init 0 = .ok (.aload_n 0, 1) := by decide +kernel
theorem dX9_init_1 : decode cX9_init 1 = .ok (.invokespecial 1, 3) := by decide +kernel
theorem dX9_init_4 : decode cX9_init 4 = .ok (.aload_n 0, 1) := by decide +kernel
theorem dX9_init_5 : decode cX9_init 5 = .ok (.bipush 56, 2) := by decide +kernel
theorem dX9_init_7 : decode cX9_init 7 = .ok (.newarray .int, 2) := by decide +kernel
theorem dX9_init_9 : decode cX9_init 9 = .ok (.putfield 7, 3) := by decide +kernel
theorem dX9_init_12 : decode cX9_init 12 = .ok (.aload_n 0, 1) := by decide +kernel
theorem dX9_init_13 : decode cX9_init 13 = .ok (.iconst 5, 1) := by decide +kernel
theorem dX9_init_14 : decode cX9_init 14 = .ok (.newarray .int, 2) := by decide +kernel
theorem dX9_init_16 : decode cX9_init 16 = .ok (.putfield 13, 3) := by decide +kernel
theorem dX9_init_19 : decode cX9_init 19 = .ok (.aload_n 0, 1) := by decide +kernel
theorem dX9_init_20 : decode cX9_init 20 = .ok (.iconst 4, 1) := by decide +kernel
theorem dX9_init_21 : decode cX9_init 21 = .ok (.newarray .int, 2) := by decide +kernel
theorem dX9_init_23 : decode cX9_init 23 = .ok (.putfield 16, 3) := by decide +kernel
theorem dX9_init_26 : decode cX9_init 26 = .ok (.aload_n 0, 1) := by decide +kernel
theorem dX9_init_27 : decode cX9_init 27 = .ok (.iconst 4, 1) := by decide +kernel
theorem dX9_init_28 : decode cX9_init 28 = .ok (.newarray .int, 2) := by decide +kernel
theorem dX9_init_30 : decode cX9_init 30 = .ok (.putfield 19, 3) := by decide +kernel
theorem dX9_init_33 : decode cX9_init 33 = .ok (.aload_n 0, 1) := by decide +kernel
theorem dX9_init_34 : decode cX9_init 34 = .ok (.bipush 25, 2) := by decide +kernel
theorem dX9_init_36 : decode cX9_init 36 = .ok (.newarray .int, 2) := by decide +kernel
theorem dX9_init_38 : decode cX9_init 38 = .ok (.putfield 22, 3) := by decide +kernel
theorem dX9_init_41 : decode cX9_init 41 = .ok (.aload_n 0, 1) := by decide +kernel
theorem dX9_init_42 : decode cX9_init 42 = .ok (.iconst 5, 1) := by decide +kernel
theorem dX9_init_43 : decode cX9_init 43 = .ok (.newarray .int, 2) := by decide +kernel
theorem dX9_init_45 : decode cX9_init 45 = .ok (.putfield 25, 3) := by decide +kernel
theorem dX9_init_48 : decode cX9_init 48 = .ok (.aload_n 0, 1) := by decide +kernel
theorem dX9_init_49 : decode cX9_init 49 = .ok (.iconst 4, 1) := by decide +kernel
theorem dX9_init_50 : decode cX9_init 50 = .ok (.newarray .int, 2) := by decide +kernel
theorem dX9_init_52 : decode cX9_init 52 = .ok (.putfield 28, 3) := by decide +kernel
theorem dX9_init_55 : decode cX9_init 55 = .ok (.aload_n 0, 1) := by decide +kernel
theorem dX9_init_56 : decode cX9_init 56 = .ok (.iconst 4, 1) := by decide +kernel
theorem dX9_init_57 : decode cX9_init 57 = .ok (.newarray .int, 2) := by decide +kernel
theorem dX9_init_59 : decode cX9_init 59 = .ok (.putfield 31, 3) := by decide +kernel
theorem dX9_init_62 : decode cX9_init 62 = .ok (.aload_n 0, 1) := by decide +kernel
theorem dX9_init_63 : decode cX9_init 63 = .ok (.bipush 31, 2) := by decide +kernel
theorem dX9_init_65 : decode cX9_init 65 = .ok (.newarray .int, 2) := by decide +kernel
theorem dX9_init_67 : decode cX9_init 67 = .ok (.putfield 34, 3) := by decide +kernel
theorem dX9_init_70 : decode cX9_init 70 = .ok (.aload_n 0, 1) := by decide +kernel
theorem dX9_init_71 : decode cX9_init 71 = .ok (.bipush 31, 2) := by decide +kernel
theorem dX9_init_73 : decode cX9_init 73 = .ok (.newarray .int, 2) := by decide +kernel
theorem dX9_init_75 : decode cX9_init 75 = .ok (.putfield 37, 3) := by decide +kernel
theorem dX9_init_78 : decode cX9_init 78 = .ok (.aload_n 0, 1) := by decide +kernel
theorem dX9_init_79 : decode cX9_init 79 = .ok (.sipush 434, 3) := by decide +kernel
theorem dX9_init_82 : decode cX9_init 82 = .ok (.newarray .int, 2) := by decide +kernel
theorem dX9_init_84 : decode cX9_init 84 = .ok (.putfield 40, 3) := by decide +kernel
theorem dX9_init_87 : decode cX9_init 87 = .ok (.aload_n 0, 1) := by decide +kernel
theorem dX9_init_88 : decode cX9_init 88 = .ok (.bipush 62, 2) := by decide +kernel
theorem dX9_init_90 : decode cX9_init 90 = .ok (.newarray .int, 2) := by decide +kernel
theorem dX9_init_92 : decode cX9_init 92 = .ok (.putfield 43, 3) := by decide +kernel
theorem dX9_init_95 : decode cX9_init 95 = .ok (.aload_n 0, 1) := by decide +kernel
theorem dX9_init_96 : decode cX9_init 96 = .ok (.iconst 2, 1) := by decide +kernel
theorem dX9_init_97 : decode cX9_init 97 = .ok (.newarray .boolean, 2) := by decide +kernel
theorem dX9_init_99 : decode cX9_init 99 = .ok (.putfield 46, 3) := by decide +kernel
theorem dX9_init_102 : decode cX9_init 102 = .ok (.aload_n 0, 1) := by decide +kernel
theorem dX9_init_103 : decode cX9_init 103 = .ok (.bipush 6, 2) := by decide +kernel
theorem dX9_init_105 : decode cX9_init 105 = .ok (.newarray .int, 2) := by decide +kernel
theorem dX9_init_107 : decode cX9_init 107 = .ok (.putfield 50, 3) := by decide +kernel
theorem dX9_init_110 : decode cX9_init 110 = .ok (.aload_n 0, 1) := by decide +kernel
theorem dX9_init_111 : decode cX9_init 111 = .ok (.bipush 6, 2) := by decide +kernel
theorem dX9_init_113 : decode cX9_init 113 = .ok (.newarray .int, 2) := by decide +kernel
theorem dX9_init_115 : decode cX9_init 115 = .ok (.putfield 53, 3) := by decide +kernel
theorem dX9_init_118 : decode cX9_init 118 = .ok (.aload_n 0, 1) := by decide +kernel
theorem dX9_init_119 : decode cX9_init 119 = .ok (.iconst 5, 1) := by decide +kernel
theorem dX9_init_120 : decode cX9_init 120 = .ok (.newarray .int, 2) := by decide +kernel
theorem dX9_init_122 : decode cX9_init 122 = .ok (.putfield 56, 3) := by decide +kernel
theorem dX9_init_125 : decode cX9_init 125 = .ok (.aload_n 0, 1) := by decide +kernel
theorem dX9_init_126 : decode cX9_init 126 = .ok (.iconst 5, 1) := by decide +kernel
theorem dX9_init_127 : decode cX9_init 127 = .ok (.newarray .int, 2) := by decide +kernel
theorem dX9_init_129 : decode cX9_init 129 = .ok (.putfield 59, 3) := by decide +kernel
theorem dX9_init_132 : decode cX9_init 132 = .ok (.aload_n 0, 1) := by decide +kernel
theorem dX9_init_133 : decode cX9_init 133 = .ok (.iconst 5, 1) := by decide +kernel
theorem dX9_init_134 : decode cX9_init 134 = .ok (.newarray .int, 2) := by decide +kernel
theorem dX9_init_136 : decode cX9_init 136 = .ok (.putfield 62, 3) := by decide +kernel
theorem dX9_init_139 : decode cX9_init 139 = .ok (.aload_n 0, 1) := by decide +kernel
theorem dX9_init_140 : decode cX9_init 140 = .ok (.bipush 32, 2) := by decide +kernel
theorem dX9_init_142 : decode cX9_init 142 = .ok (.newarray .int, 2) := by decide +kernel
theorem dX9_init_144 : decode cX9_init 144 = .ok (.putfield 65, 3) := by decide +kernel
theorem dX9_init_147 : decode cX9_init 147 = .ok (.return_, 1) := by decide +kernel
theorem dX9_in_0 : decode cX9_in 0 = .ok (.lload_n 0, 1) := by decide +kernel
theorem dX9_in_1 : decode cX9_in 1 = .ok (.lload_n 2, 1) := by decide +kernel
theorem dX9_in_2 : decode cX9_in 2 = .ok (.lcmp, 1) := by decide +kernel
theorem dX9_in_3 : decode cX9_in 3 = .ok (.ifCond .lt 14, 3) := by decide +kernel
theorem dX9_in_6 : decode cX9_in 6 = .ok (.lload_n 0, 1) := by decide +kernel
theorem dX9_in_7 : decode cX9_in 7 = .ok (.lload 4, 2) := by decide +kernel
theorem dX9_in_9 : decode cX9_in 9 = .ok (.lcmp, 1) := by decide +kernel
theorem dX9_in_10 : decode cX9_in 10 = .ok (.ifCond .gt 7, 3) := by decide +kernel
theorem dX9_in_13 : decode cX9_in 13 = .ok (.iconst 1, 1) := by decide +kernel
theorem dX9_in_14 : decode cX9_in 14 = .ok (.goto 4, 3) := by decide +kernel
theorem dX9_in_17 : decode cX9_in 17 = .ok (.iconst 0, 1) := by decide +kernel
theorem dX9_in_18 : decode cX9_in 18 = .ok (.ireturn, 1) := by decide +kernel
theorem dX9_isIn_0 : decode cX9_isIn 0 = .ok (.iload_n 0, 1) := by decide +kernel
theorem dX9_isIn_1 : decode cX9_isIn 1 = .ok (.iload_n 1, 1) := by decide +kernel
theorem dX9_isIn_2 : decode cX9_isIn 2 = .ok (.ishr, 1) := by decide +kernel
theorem dX9_isIn_3 : decode cX9_isIn 3 = .ok (.iconst 1, 1) := by decide +kernel
theorem dX9_isIn_4 : decode cX9_isIn 4 = .ok (.iand, 1) := by decide +kernel
theorem dX9_isIn_5 : decode cX9_isIn 5 = .ok (.iconst 1, 1) := by decide +kernel
theorem dX9_isIn_6 : decode cX9_isIn 6 = .ok (.if_icmp .ne 7, 3) := by decide +kernel
theorem dX9_isIn_9 : decode cX9_isIn 9 = .ok (.iconst 1, 1) := by decide +kernel
theorem dX9_isIn_10 : decode cX9_isIn 10 = .ok (.goto 4, 3) := by decide +kernel
theorem dX9_isIn_13 : decode cX9_isIn 13 = .ok (.iconst 0, 1) := by decide +kernel
theorem dX9_isIn_14 : decode cX9_isIn 14 = .ok (.ireturn, 1) := by decide +kernel
theorem dX9_many_0 : decode cX9_many 0 = .ok (.iconst 0, 1) := by decide +kernel
theorem dX9_many_1 : decode cX9_many 1 = .ok (.istore_n 1, 1) := by decide +kernel
theorem dX9_many_2 : decode cX9_many 2 = .ok (.iconst 0, 1) := by decide +kernel
theorem dX9_many_3 : decode cX9_many 3 = .ok (.istore_n 2, 1) := by decide +kernel
theorem dX9_many_4 : decode cX9_many 4 = .ok (.iload_n 2, 1) := by decide +kernel
theorem dX9_many_5 : decode cX9_many 5 = .ok (.iconst 5, 1) := by decide +kernel
theorem dX9_many_6 : decode cX9_many 6 = .ok (.if_icmp .ge 17, 3) := by decide +kernel
theorem dX9_many_9 : decode cX9_many 9 = .ok (.iload_n 1, 1) := by decide +kernel
theorem dX9_many_10 : decode cX9_many 10 = .ok (.iload_n 0, 1) := by decide +kernel
theorem dX9_many_11 : decode cX9_many 11 = .ok (.iload_n 2, 1) := by decide +kernel
theorem dX9_many_12 : decode cX9_many 12 = .ok (.ishr, 1) := by decide +kernel
theorem dX9_many_13 : decode cX9_many 13 = .ok (.iconst 1, 1) := by decide +kernel
theorem dX9_many_14 : decode cX9_many 14 = .ok (.iand, 1) := by decide +kernel
theorem dX9_many_15 : decode cX9_many 15 = .ok (.iadd, 1) := by decide +kernel
theorem dX9_many_16 : decode cX9_many 16 = .ok (.istore_n 1, 1) := by decide +kernel
theorem dX9_many_17 : decode cX9_many 17 = .ok (.iinc 2 1, 3) := by decide +kernel
theorem dX9_many_20 : decode cX9_many 20 = .ok (.goto (-16), 3) := by decide +kernel
theorem dX9_many_23 : decode cX9_many 23 = .ok (.iload_n 1, 1) := by decide +kernel
theorem dX9_many_24 : decode cX9_many 24 = .ok (.ireturn, 1) := by decide +kernel
theorem dX9_write_0 : decode cX9_write 0 = .ok (.aload_n 0, 1) := by decide +kernel
theorem dX9_write_1 : decode cX9_write 1 = .ok (.iconst 0, 1) := by decide +kernel
theorem dX9_write_2 : decode cX9_write 2 = .ok (.putfield 68, 3) := by decide +kernel
theorem dX9_write_5 : decode cX9_write 5 = .ok (.iload_n 1, 1) := by decide +kernel
theorem dX9_write_6 : decode cX9_write 6 = .ok (.i2l, 1) := by decide +kernel
theorem dX9_write_7 : decode cX9_write 7 = .ok (.lconst 0, 1) := by decide +kernel
theorem dX9_write_8 : decode cX9_write 8 = .ok (.ldc2_w 72, 3) := by decide +kernel
theorem dX9_write_11 : decode cX9_write 11 = .ok (.invokestatic 74, 3) := by decide +kernel
theorem dX9_write_14 : decode cX9_write 14 = .ok (.ifCond .ne 6, 3) := by decide +kernel
theorem dX9_write_17 : decode cX9_write 17 = .ok (.bipush (-2), 2) := by decide +kernel
theorem dX9_write_19 : decode cX9_write 19 = .ok (.ireturn, 1) := by decide +kernel
theorem dX9_write_20 : decode cX9_write 20 = .ok (.aload_n 0, 1) := by decide +kernel
theorem dX9_write_21 : decode cX9_write 21 = .ok (.getfield 78, 3) := by decide +kernel
theorem dX9_write_24 : decode cX9_write 24 = .ok (.bipush 56, 2) := by decide +kernel
theorem dX9_write_26 : decode cX9_write 26 = .ok (.if_icmp .ne 6, 3) := by decide +kernel
theorem dX9_write_29 : decode cX9_write 29 = .ok (.bipush (-4), 2) := by decide +kernel
theorem dX9_write_31 : decode cX9_write 31 = .ok (.ireturn, 1) := by decide +kernel
theorem dX9_write_32 : decode cX9_write 32 = .ok (.aload_n 0, 1) := by decide +kernel
theorem dX9_write_33 : decode cX9_write 33 = .ok (.getfield 7, 3) := by decide +kernel
theorem dX9_write_36 : decode cX9_write 36 = .ok (.aload_n 0, 1) := by decide +kernel
theorem dX9_write_37 : decode cX9_write 37 = .ok (.getfield 78, 3) := by decide +kernel
theorem dX9_write_40 : decode cX9_write 40 = .ok (.iload_n 1, 1) := by decide +kernel
theorem dX9_write_41 : decode cX9_write 41 = .ok (.iastore, 1) := by decide +kernel
theorem dX9_write_42 : decode cX9_write 42 = .ok (.aload_n 0, 1) := by decide +kernel
theorem dX9_write_43 : decode cX9_write 43 = .ok (.dup, 1) := by decide +kernel
theorem dX9_write_44 : decode cX9_write 44 = .ok (.getfield 78, 3) := by decide +kernel
theorem dX9_write_47 : decode cX9_write 47 = .ok (.iconst 1, 1) := by decide +kernel
theorem dX9_write_48 : decode cX9_write 48 = .ok (.iadd, 1) := by decide +kernel
theorem dX9_write_49 : decode cX9_write 49 = .ok (.putfield 78, 3) := by decide +kernel
theorem dX9_write_52 : decode cX9_write 52 = .ok (.aload_n 0, 1) := by decide +kernel
theorem dX9_write_53 : decode cX9_write 53 = .ok (.getfield 78, 3) := by decide +kernel
theorem dX9_write_56 : decode cX9_write 56 = .ok (.ireturn, 1) := by decide +kernel
theorem dX9_wipe_0 : decode cX9_wipe 0 = .ok (.aload_n 0, 1) := by decide +kernel
theorem dX9_wipe_1 : decode cX9_wipe 1 = .ok (.iconst 0, 1) := by decide +kernel
theorem dX9_wipe_2 : decode cX9_wipe 2 = .ok (.putfield 68, 3) := by decide +kernel
theorem dX9_wipe_5 : decode cX9_wipe 5 = .ok (.aload_n 0, 1) := by decide +kernel
theorem dX9_wipe_6 : decode cX9_wipe 6 = .ok (.getfield 78, 3) := by decide +kernel
theorem dX9_wipe_9 : decode cX9_wipe 9 = .ok (.istore_n 1, 1) := by decide +kernel
theorem dX9_wipe_10 : decode cX9_wipe 10 = .ok (.aload_n 0, 1) := by decide +kernel
theorem dX9_wipe_11 : decode cX9_wipe 11 = .ok (.iconst 0, 1) := by decide +kernel
theorem dX9_wipe_12 : decode cX9_wipe 12 = .ok (.putfield 78, 3) := by decide +kernel
theorem dX9_wipe_15 : decode cX9_wipe 15 = .ok (.iload_n 1, 1) := by decide +kernel
theorem dX9_wipe_16 : decode cX9_wipe 16 = .ok (.ireturn, 1) := by decide +kernel
theorem dX9_from_0 : decode cX9_from 0 = .ok (.aload_n 0, 1) := by decide +kernel
theorem dX9_from_1 : decode cX9_from 1 = .ok (.getfield 81, 3) := by decide +kernel
theorem dX9_from_4 : decode cX9_from 4 = .ok (.aload_n 0, 1) := by decide +kernel
theorem dX9_from_5 : decode cX9_from 5 = .ok (.getfield 78, 3) := by decide +kernel
theorem dX9_from_8 : decode cX9_from 8 = .ok (.if_icmp .eq 25, 3) := by decide +kernel
theorem dX9_from_11 : decode cX9_from 11 = .ok (.aload_n 0, 1) := by decide +kernel
theorem dX9_from_12 : decode cX9_from 12 = .ok (.getfield 7, 3) := by decide +kernel
theorem dX9_from_15 : decode cX9_from 15 = .ok (.aload_n 0, 1) := by decide +kernel
theorem dX9_from_16 : decode cX9_from 16 = .ok (.getfield 81, 3) := by decide +kernel
theorem dX9_from_19 : decode cX9_from 19 = .ok (.iaload, 1) := by decide +kernel
theorem dX9_from_20 : decode cX9_from 20 = .ok (.iload_n 1, 1) := by decide +kernel
theorem dX9_from_21 : decode cX9_from 21 = .ok (.isub, 1) := by decide +kernel
theorem dX9_from_22 : decode cX9_from 22 = .ok (.i2l, 1) := by decide +kernel
theorem dX9_from_23 : decode cX9_from 23 = .ok (.iload_n 2, 1) := by decide +kernel
theorem dX9_from_24 : decode cX9_from 24 = .ok (.i2l, 1) := by decide +kernel
theorem dX9_from_25 : decode cX9_from 25 = .ok (.iload_n 3, 1) := by decide +kernel
theorem dX9_from_26 : decode cX9_from 26 = .ok (.i2l, 1) := by decide +kernel
theorem dX9_from_27 : decode cX9_from 27 = .ok (.invokestatic 74, 3) := by decide +kernel
theorem dX9_from_30 : decode cX9_from 30 = .ok (.ifCond .ne 6, 3) := by decide +kernel
theorem dX9_from_33 : decode cX9_from 33 = .ok (.bipush (-9), 2) := by decide +kernel
theorem dX9_from_35 : decode cX9_from 35 = .ok (.ireturn, 1) := by decide +kernel
theorem dX9_from_36 : decode cX9_from 36 = .ok (.aload_n 0, 1) := by decide +kernel
theorem dX9_from_37 : decode cX9_from 37 = .ok (.dup, 1) := by decide +kernel
theorem dX9_from_38 : decode cX9_from 38 = .ok (.getfield 81, 3) := by decide +kernel
theorem dX9_from_41 : decode cX9_from 41 = .ok (.iconst 1, 1) := by decide +kernel
theorem dX9_from_42 : decode cX9_from 42 = .ok (.iadd, 1) := by decide +kernel
theorem dX9_from_43 : decode cX9_from 43 = .ok (.putfield 81, 3) := by decide +kernel
theorem dX9_from_46 : decode cX9_from 46 = .ok (.aload_n 0, 1) := by decide +kernel
theorem dX9_from_47 : decode cX9_from 47 = .ok (.getfield 7, 3) := by decide +kernel
theorem dX9_from_50 : decode cX9_from 50 = .ok (.aload_n 0, 1) := by decide +kernel
theorem dX9_from_51 : decode cX9_from 51 = .ok (.getfield 81, 3) := by decide +kernel
theorem dX9_from_54 : decode cX9_from 54 = .ok (.iconst 1, 1) := by decide +kernel
theorem dX9_from_55 : decode cX9_from 55 = .ok (.isub, 1) := by decide +kernel
theorem dX9_from_56 : decode cX9_from 56 = .ok (.iaload, 1) := by decide +kernel
theorem dX9_from_57 : decode cX9_from 57 = .ok (.iload_n 1, 1) := by decide +kernel
theorem dX9_from_58 : decode cX9_from 58 = .ok (.isub, 1) := by decide +kernel
theorem dX9_from_59 : decode cX9_from 59 = .ok (.ireturn, 1) := by decide +kernel
theorem dX9_readOneKin_0 : decode cX9_readOneKin 0 = .ok (.aload_n 0, 1) := by decide +kernel
theorem dX9_readOneKin_1 : decode cX9_readOneKin 1 = .ok (.bipush 48, 2) := by decide +kernel
theorem dX9_readOneKin_3 : decode cX9_readOneKin 3 = .ok (.iconst 0, 1) := by decide +kernel
theorem dX9_readOneKin_4 : decode cX9_readOneKin 4 = .ok (.iconst 3, 1) := by decide +kernel
theorem dX9_readOneKin_5 : decode cX9_readOneKin 5 = .ok (.invokevirtual 84, 3) := by decide +kernel
theorem dX9_readOneKin_8 : decode cX9_readOneKin 8 = .ok (.istore_n 1, 1) := by decide +kernel
theorem dX9_readOneKin_9 : decode cX9_readOneKin 9 = .ok (.iload_n 1, 1) := by decide +kernel
theorem dX9_readOneKin_10 : decode cX9_readOneKin 10 = .ok (.bipush (-9), 2) := by decide +kernel
theorem dX9_readOneKin_12 : decode cX9_readOneKin 12 = .ok (.if_icmp .ne 5, 3) := by decide +kernel
theorem dX9_readOneKin_15 : decode cX9_readOneKin 15 = .ok (.iconst 0, 1) := by decide +kernel
theorem dX9_readOneKin_16 : decode cX9_readOneKin 16 = .ok (.ireturn, 1) := by decide +kernel
theorem dX9_readOneKin_17 : decode cX9_readOneKin 17 = .ok (.aload_n 0, 1) := by decide +kernel
theorem dX9_readOneKin_18 : decode cX9_readOneKin 18 = .ok (.getfield 25, 3) := by decide +kernel
theorem dX9_readOneKin_21 : decode cX9_readOneKin 21 = .ok (.aload_n 0, 1) := by decide +kernel
theorem dX9_readOneKin_22 : decode cX9_readOneKin 22 = .ok (.getfield 88, 3) := by decide +kernel
theorem dX9_readOneKin_25 : decode cX9_readOneKin 25 = .ok (.iload_n 1, 1) := by decide +kernel
theorem dX9_readOneKin_26 : decode cX9_readOneKin 26 = .ok (.iastore, 1) := by decide +kernel
theorem dX9_readOneKin_27 : decode cX9_readOneKin 27 = .ok (.aload_n 0, 1) := by decide +kernel
theorem dX9_readOneKin_28 : decode cX9_readOneKin 28 = .ok (.dup, 1) := by decide +kernel
theorem dX9_readOneKin_29 : decode cX9_readOneKin 29 = .ok (.getfield 88, 3) := by decide +kernel
theorem dX9_readOneKin_32 : decode cX9_readOneKin 32 = .ok (.iconst 1, 1) := by decide +kernel
theorem dX9_readOneKin_33 : decode cX9_readOneKin 33 = .ok (.iadd, 1) := by decide +kernel
theorem dX9_readOneKin_34 : decode cX9_readOneKin 34 = .ok (.putfield 88, 3) := by decide +kernel
theorem dX9_readOneKin_37 : decode cX9_readOneKin 37 = .ok (.iconst 1, 1) := by decide +kernel
theorem dX9_readOneKin_38 : decode cX9_readOneKin 38 = .ok (.ireturn, 1) := by decide +kernel
theorem dX9_readOneRow_0 : decode cX9_readOneRow 0 = .ok (.iconst 0, 1) := by decide +kernel
theorem dX9_readOneRow_1 : decode cX9_readOneRow 1 = .ok (.istore_n 1, 1) := by decide +kernel
theorem dX9_readOneRow_2 : decode cX9_readOneRow 2 = .ok (.iload_n 1, 1) := by decide +kernel
theorem dX9_readOneRow_3 : decode cX9_readOneRow 3 = .ok (.iconst 5, 1) := by decide +kernel
theorem dX9_readOneRow_4 : decode cX9_readOneRow 4 = .ok (.if_icmp .ge 47, 3) := by decide +kernel
theorem dX9_readOneRow_7 : decode cX9_readOneRow 7 = .ok (.aload_n 0, 1) := by decide +kernel
theorem dX9_readOneRow_8 : decode cX9_readOneRow 8 = .ok (.bipush 97, 2) := by decide +kernel
theorem dX9_readOneRow_10 : decode cX9_readOneRow 10 = .ok (.iconst 0, 1) := by decide +kernel
theorem dX9_readOneRow_11 : decode cX9_readOneRow 11 = .ok (.iconst 4, 1) := by decide +kernel
theorem dX9_readOneRow_12 : decode cX9_readOneRow 12 = .ok (.aload_n 0, 1) := by decide +kernel
theorem dX9_readOneRow_13 : decode cX9_readOneRow 13 = .ok (.getfield 88, 3) := by decide +kernel
theorem dX9_readOneRow_16 : decode cX9_readOneRow 16 = .ok (.imul, 1) := by decide +kernel
theorem dX9_readOneRow_17 : decode cX9_readOneRow 17 = .ok (.iconst 1, 1) := by decide +kernel
theorem dX9_readOneRow_18 : decode cX9_readOneRow 18 = .ok (.isub, 1) := by decide +kernel
theorem dX9_readOneRow_19 : decode cX9_readOneRow 19 = .ok (.invokevirtual 84, 3) := by decide +kernel
theorem dX9_readOneRow_22 : decode cX9_readOneRow 22 = .ok (.istore_n 2, 1) := by decide +kernel
theorem dX9_readOneRow_23 : decode cX9_readOneRow 23 = .ok (.iload_n 2, 1) := by decide +kernel
theorem dX9_readOneRow_24 : decode cX9_readOneRow 24 = .ok (.bipush (-9), 2) := by decide +kernel
theorem dX9_readOneRow_26 : decode cX9_readOneRow 26 = .ok (.if_icmp .ne 5, 3) := by decide +kernel
theorem dX9_readOneRow_29 : decode cX9_readOneRow 29 = .ok (.iconst 0, 1) := by decide +kernel
theorem dX9_readOneRow_30 : decode cX9_readOneRow 30 = .ok (.ireturn, 1) := by decide +kernel
theorem dX9_readOneRow_31 : decode cX9_readOneRow 31 = .ok (.aload_n 0, 1) := by decide +kernel
theorem dX9_readOneRow_32 : decode cX9_readOneRow 32 = .ok (.getfield 22, 3) := by decide +kernel
theorem dX9_readOneRow_35 : decode cX9_readOneRow 35 = .ok (.iconst 5, 1) := by decide +kernel
theorem dX9_readOneRow_36 : decode cX9_readOneRow 36 = .ok (.aload_n 0, 1) := by decide +kernel
theorem dX9_readOneRow_37 : decode cX9_readOneRow 37 = .ok (.getfield 91, 3) := by decide +kernel
theorem dX9_readOneRow_40 : decode cX9_readOneRow 40 = .ok (.imul, 1) := by decide +kernel
theorem dX9_readOneRow_41 : decode cX9_readOneRow 41 = .ok (.iload_n 1, 1) := by decide +kernel
theorem dX9_readOneRow_42 : decode cX9_readOneRow 42 = .ok (.iadd, 1) := by decide +kernel
theorem dX9_readOneRow_43 : decode cX9_readOneRow 43 = .ok (.iload_n 2, 1) := by decide +kernel
theorem dX9_readOneRow_44 : decode cX9_readOneRow 44 = .ok (.iastore, 1) := by decide +kernel
theorem dX9_readOneRow_45 : decode cX9_readOneRow 45 = .ok (.iinc 1 1, 3) := by decide +kernel
theorem dX9_readOneRow_48 : decode cX9_readOneRow 48 = .ok (.goto (-46), 3) := by decide +kernel
theorem dX9_readOneRow_51 : decode cX9_readOneRow 51 = .ok (.aload_n 0, 1) := by decide +kernel
theorem dX9_readOneRow_52 : decode cX9_readOneRow 52 = .ok (.dup, 1) := by decide +kernel
theorem dX9_readOneRow_53 : decode cX9_readOneRow 53 = .ok (.getfield 91, 3) := by decide +kernel
theorem dX9_readOneRow_56 : decode cX9_readOneRow 56 = .ok (.iconst 1, 1) := by decide +kernel
theorem dX9_readOneRow_57 : decode cX9_readOneRow 57 = .ok (.iadd, 1) := by decide +kernel
theorem dX9_readOneRow_58 : decode cX9_readOneRow 58 = .ok (.putfield 91, 3) := by decide +kernel
theorem dX9_readOneRow_61 : decode cX9_readOneRow 61 = .ok (.iconst 1, 1) := by decide +kernel
theorem dX9_readOneRow_62 : decode cX9_readOneRow 62 = .ok (.ireturn, 1) := by decide +kernel
theorem dX9_readOneDeed_0 : decode cX9_readOneDeed 0 = .ok (.aload_n 0, 1) := by decide +kernel
theorem dX9_readOneDeed_1 : decode cX9_readOneDeed 1 = .ok (.bipush 48, 2) := by decide +kernel
theorem dX9_readOneDeed_3 : decode cX9_readOneDeed 3 = .ok (.iconst 0, 1) := by decide +kernel
theorem dX9_readOneDeed_4 : decode cX9_readOneDeed 4 = .ok (.iconst 3, 1) := by decide +kernel
theorem dX9_readOneDeed_5 : decode cX9_readOneDeed 5 = .ok (.invokevirtual 84, 3) := by decide +kernel
theorem dX9_readOneDeed_8 : decode cX9_readOneDeed 8 = .ok (.istore_n 1, 1) := by decide +kernel
theorem dX9_readOneDeed_9 : decode cX9_readOneDeed 9 = .ok (.iload_n 1, 1) := by decide +kernel
theorem dX9_readOneDeed_10 : decode cX9_readOneDeed 10 = .ok (.bipush (-9), 2) := by decide +kernel
theorem dX9_readOneDeed_12 : decode cX9_readOneDeed 12 = .ok (.if_icmp .ne 8, 3) := by decide +kernel
theorem dX9_readOneDeed_15 : decode cX9_readOneDeed 15 = .ok (.bipush (-9), 2) := by decide +kernel
theorem dX9_readOneDeed_17 : decode cX9_readOneDeed 17 = .ok (.goto 12, 3) := by decide +kernel
theorem dX9_readOneDeed_20 : decode cX9_readOneDeed 20 = .ok (.aload_n 0, 1) := by decide +kernel
theorem dX9_readOneDeed_21 : decode cX9_readOneDeed 21 = .ok (.bipush 48, 2) := by decide +kernel
theorem dX9_readOneDeed_23 : decode cX9_readOneDeed 23 = .ok (.iconst 1, 1) := by decide +kernel
theorem dX9_readOneDeed_24 : decode cX9_readOneDeed 24 = .ok (.bipush 9, 2) := by decide +kernel
theorem dX9_readOneDeed_26 : decode cX9_readOneDeed 26 = .ok (.invokevirtual 84, 3) := by decide +kernel
theorem dX9_readOneDeed_29 : decode cX9_readOneDeed 29 = .ok (.istore_n 2, 1) := by decide +kernel
theorem dX9_readOneDeed_30 : decode cX9_readOneDeed 30 = .ok (.iload_n 2, 1) := by decide +kernel
theorem dX9_readOneDeed_31 : decode cX9_readOneDeed 31 = .ok (.bipush (-9), 2) := by decide +kernel
theorem dX9_readOneDeed_33 : decode cX9_readOneDeed 33 = .ok (.if_icmp .ne 5, 3) := by decide +kernel
theorem dX9_readOneDeed_36 : decode cX9_readOneDeed 36 = .ok (.iconst 0, 1) := by decide +kernel
theorem dX9_readOneDeed_37 : decode cX9_readOneDeed 37 = .ok (.ireturn, 1) := by decide +kernel
theorem dX9_readOneDeed_38 : decode cX9_readOneDeed 38 = .ok (.aload_n 0, 1) := by decide +kernel
theorem dX9_readOneDeed_39 : decode cX9_readOneDeed 39 = .ok (.getfield 28, 3) := by decide +kernel
theorem dX9_readOneDeed_42 : decode cX9_readOneDeed 42 = .ok (.aload_n 0, 1) := by decide +kernel
theorem dX9_readOneDeed_43 : decode cX9_readOneDeed 43 = .ok (.getfield 94, 3) := by decide +kernel
end
section
theorem dX9_readOneDeed_46 : decode cX9_readOneDeed 46 = .ok (.iload_n 1, 1) := by decide +kernel
theorem dX9_readOneDeed_47 : decode cX9_readOneDeed 47 = .ok (.iastore, 1) := by decide +kernel
theorem dX9_readOneDeed_48 : decode cX9_readOneDeed 48 = .ok (.aload_n 0, 1) := by decide +kernel
theorem dX9_readOneDeed_49 : decode cX9_readOneDeed 49 = .ok (.getfield 31, 3) := by decide +kernel
theorem dX9_readOneDeed_52 : decode cX9_readOneDeed 52 = .ok (.aload_n 0, 1) := by decide +kernel
theorem dX9_readOneDeed_53 : decode cX9_readOneDeed 53 = .ok (.getfield 94, 3) := by decide +kernel
theorem dX9_readOneDeed_56 : decode cX9_readOneDeed 56 = .ok (.iload_n 2, 1) := by decide +kernel
theorem dX9_readOneDeed_57 : decode cX9_readOneDeed 57 = .ok (.iastore, 1) := by decide +kernel
theorem dX9_readOneDeed_58 : decode cX9_readOneDeed 58 = .ok (.aload_n 0, 1) := by decide +kernel
theorem dX9_readOneDeed_59 : decode cX9_readOneDeed 59 = .ok (.dup, 1) := by decide +kernel
theorem dX9_readOneDeed_60 : decode cX9_readOneDeed 60 = .ok (.getfield 94, 3) := by decide +kernel
theorem dX9_readOneDeed_63 : decode cX9_readOneDeed 63 = .ok (.iconst 1, 1) := by decide +kernel
theorem dX9_readOneDeed_64 : decode cX9_readOneDeed 64 = .ok (.iadd, 1) := by decide +kernel
theorem dX9_readOneDeed_65 : decode cX9_readOneDeed 65 = .ok (.putfield 94, 3) := by decide +kernel
theorem dX9_readOneDeed_68 : decode cX9_readOneDeed 68 = .ok (.iconst 1, 1) := by decide +kernel
theorem dX9_readOneDeed_69 : decode cX9_readOneDeed 69 = .ok (.ireturn, 1) := by decide +kernel
theorem dX9_readThing_0 : decode cX9_readThing 0 = .ok (.aload_n 0, 1) := by decide +kernel
theorem dX9_readThing_1 : decode cX9_readThing 1 = .ok (.getfield 7, 3) := by decide +kernel
theorem dX9_readThing_4 : decode cX9_readThing 4 = .ok (.aload_n 0, 1) := by decide +kernel
theorem dX9_readThing_5 : decode cX9_readThing 5 = .ok (.getfield 81, 3) := by decide +kernel
theorem dX9_readThing_8 : decode cX9_readThing 8 = .ok (.iaload, 1) := by decide +kernel
theorem dX9_readThing_9 : decode cX9_readThing 9 = .ok (.istore_n 1, 1) := by decide +kernel
theorem dX9_readThing_10 : decode cX9_readThing 10 = .ok (.aload_n 0, 1) := by decide +kernel
theorem dX9_readThing_11 : decode cX9_readThing 11 = .ok (.dup, 1) := by decide +kernel
theorem dX9_readThing_12 : decode cX9_readThing 12 = .ok (.getfield 81, 3) := by decide +kernel
theorem dX9_readThing_15 : decode cX9_readThing 15 = .ok (.iconst 1, 1) := by decide +kernel
theorem dX9_readThing_16 : decode cX9_readThing 16 = .ok (.iadd, 1) := by decide +kernel
theorem dX9_readThing_17 : decode cX9_readThing 17 = .ok (.putfield 81, 3) := by decide +kernel
theorem dX9_readThing_20 : decode cX9_readThing 20 = .ok (.iload_n 1, 1) := by decide +kernel
theorem dX9_readThing_21 : decode cX9_readThing 21 = .ok (.bipush 75, 2) := by decide +kernel
theorem dX9_readThing_23 : decode cX9_readThing 23 = .ok (.if_icmp .ne 16, 3) := by decide +kernel
theorem dX9_readThing_26 : decode cX9_readThing 26 = .ok (.aload_n 0, 1) := by decide +kernel
theorem dX9_readThing_27 : decode cX9_readThing 27 = .ok (.getfield 88, 3) := by decide +kernel
theorem dX9_readThing_30 : decode cX9_readThing 30 = .ok (.iconst 5, 1) := by decide +kernel
theorem dX9_readThing_31 : decode cX9_readThing 31 = .ok (.if_icmp .ge 8, 3) := by decide +kernel
theorem dX9_readThing_34 : decode cX9_readThing 34 = .ok (.aload_n 0, 1) := by decide +kernel
theorem dX9_readThing_35 : decode cX9_readThing 35 = .ok (.invokevirtual 97, 3) := by decide +kernel
theorem dX9_readThing_38 : decode cX9_readThing 38 = .ok (.ireturn, 1) := by decide +kernel
theorem dX9_readThing_39 : decode cX9_readThing 39 = .ok (.iload_n 1, 1) := by decide +kernel
theorem dX9_readThing_40 : decode cX9_readThing 40 = .ok (.bipush 82, 2) := by decide +kernel
theorem dX9_readThing_42 : decode cX9_readThing 42 = .ok (.if_icmp .ne 23, 3) := by decide +kernel
theorem dX9_readThing_45 : decode cX9_readThing 45 = .ok (.aload_n 0, 1) := by decide +kernel
theorem dX9_readThing_46 : decode cX9_readThing 46 = .ok (.getfield 91, 3) := by decide +kernel
theorem dX9_readThing_49 : decode cX9_readThing 49 = .ok (.iconst 5, 1) := by decide +kernel
theorem dX9_readThing_50 : decode cX9_readThing 50 = .ok (.if_icmp .ge 15, 3) := by decide +kernel
theorem dX9_readThing_53 : decode cX9_readThing 53 = .ok (.aload_n 0, 1) := by decide +kernel
theorem dX9_readThing_54 : decode cX9_readThing 54 = .ok (.getfield 88, 3) := by decide +kernel
theorem dX9_readThing_57 : decode cX9_readThing 57 = .ok (.ifCond .le 8, 3) := by decide +kernel
theorem dX9_readThing_60 : decode cX9_readThing 60 = .ok (.aload_n 0, 1) := by decide +kernel
theorem dX9_readThing_61 : decode cX9_readThing 61 = .ok (.invokevirtual 101, 3) := by decide +kernel
theorem dX9_readThing_64 : decode cX9_readThing 64 = .ok (.ireturn, 1) := by decide +kernel
theorem dX9_readThing_65 : decode cX9_readThing 65 = .ok (.iload_n 1, 1) := by decide +kernel
theorem dX9_readThing_66 : decode cX9_readThing 66 = .ok (.bipush 68, 2) := by decide +kernel
theorem dX9_readThing_68 : decode cX9_readThing 68 = .ok (.if_icmp .ne 16, 3) := by decide +kernel
theorem dX9_readThing_71 : decode cX9_readThing 71 = .ok (.aload_n 0, 1) := by decide +kernel
theorem dX9_readThing_72 : decode cX9_readThing 72 = .ok (.getfield 94, 3) := by decide +kernel
theorem dX9_readThing_75 : decode cX9_readThing 75 = .ok (.iconst 4, 1) := by decide +kernel
theorem dX9_readThing_76 : decode cX9_readThing 76 = .ok (.if_icmp .ge 8, 3) := by decide +kernel
theorem dX9_readThing_79 : decode cX9_readThing 79 = .ok (.aload_n 0, 1) := by decide +kernel
theorem dX9_readThing_80 : decode cX9_readThing 80 = .ok (.invokevirtual 104, 3) := by decide +kernel
theorem dX9_readThing_83 : decode cX9_readThing 83 = .ok (.ireturn, 1) := by decide +kernel
theorem dX9_readThing_84 : decode cX9_readThing 84 = .ok (.aload_n 0, 1) := by decide +kernel
theorem dX9_readThing_85 : decode cX9_readThing 85 = .ok (.dup, 1) := by decide +kernel
theorem dX9_readThing_86 : decode cX9_readThing 86 = .ok (.getfield 81, 3) := by decide +kernel
theorem dX9_readThing_89 : decode cX9_readThing 89 = .ok (.iconst 1, 1) := by decide +kernel
theorem dX9_readThing_90 : decode cX9_readThing 90 = .ok (.isub, 1) := by decide +kernel
theorem dX9_readThing_91 : decode cX9_readThing 91 = .ok (.putfield 81, 3) := by decide +kernel
theorem dX9_readThing_94 : decode cX9_readThing 94 = .ok (.iconst 0, 1) := by decide +kernel
theorem dX9_readThing_95 : decode cX9_readThing 95 = .ok (.ireturn, 1) := by decide +kernel
theorem dX9_readFamily_0 : decode cX9_readFamily 0 = .ok (.aload_n 0, 1) := by decide +kernel
theorem dX9_readFamily_1 : decode cX9_readFamily 1 = .ok (.iconst 0, 1) := by decide +kernel
theorem dX9_readFamily_2 : decode cX9_readFamily 2 = .ok (.putfield 81, 3) := by decide +kernel
theorem dX9_readFamily_5 : decode cX9_readFamily 5 = .ok (.aload_n 0, 1) := by decide +kernel
theorem dX9_readFamily_6 : decode cX9_readFamily 6 = .ok (.iconst 0, 1) := by decide +kernel
theorem dX9_readFamily_7 : decode cX9_readFamily 7 = .ok (.putfield 91, 3) := by decide +kernel
theorem dX9_readFamily_10 : decode cX9_readFamily 10 = .ok (.aload_n 0, 1) := by decide +kernel
theorem dX9_readFamily_11 : decode cX9_readFamily 11 = .ok (.iconst 0, 1) := by decide +kernel
theorem dX9_readFamily_12 : decode cX9_readFamily 12 = .ok (.putfield 88, 3) := by decide +kernel
theorem dX9_readFamily_15 : decode cX9_readFamily 15 = .ok (.aload_n 0, 1) := by decide +kernel
theorem dX9_readFamily_16 : decode cX9_readFamily 16 = .ok (.iconst 0, 1) := by decide +kernel
theorem dX9_readFamily_17 : decode cX9_readFamily 17 = .ok (.putfield 94, 3) := by decide +kernel
theorem dX9_readFamily_20 : decode cX9_readFamily 20 = .ok (.aload_n 0, 1) := by decide +kernel
theorem dX9_readFamily_21 : decode cX9_readFamily 21 = .ok (.getfield 78, 3) := by decide +kernel
theorem dX9_readFamily_24 : decode cX9_readFamily 24 = .ok (.ifCond .eq 14, 3) := by decide +kernel
theorem dX9_readFamily_27 : decode cX9_readFamily 27 = .ok (.aload_n 0, 1) := by decide +kernel
theorem dX9_readFamily_28 : decode cX9_readFamily 28 = .ok (.getfield 7, 3) := by decide +kernel
theorem dX9_readFamily_31 : decode cX9_readFamily 31 = .ok (.iconst 0, 1) := by decide +kernel
theorem dX9_readFamily_32 : decode cX9_readFamily 32 = .ok (.iaload, 1) := by decide +kernel
theorem dX9_readFamily_33 : decode cX9_readFamily 33 = .ok (.bipush 70, 2) := by decide +kernel
theorem dX9_readFamily_35 : decode cX9_readFamily 35 = .ok (.if_icmp .eq 5, 3) := by decide +kernel
theorem dX9_readFamily_38 : decode cX9_readFamily 38 = .ok (.iconst 0, 1) := by decide +kernel
theorem dX9_readFamily_39 : decode cX9_readFamily 39 = .ok (.ireturn, 1) := by decide +kernel
theorem dX9_readFamily_40 : decode cX9_readFamily 40 = .ok (.aload_n 0, 1) := by decide +kernel
theorem dX9_readFamily_41 : decode cX9_readFamily 41 = .ok (.iconst 1, 1) := by decide +kernel
theorem dX9_readFamily_42 : decode cX9_readFamily 42 = .ok (.putfield 81, 3) := by decide +kernel
theorem dX9_readFamily_45 : decode cX9_readFamily 45 = .ok (.aload_n 0, 1) := by decide +kernel
theorem dX9_readFamily_46 : decode cX9_readFamily 46 = .ok (.getfield 81, 3) := by decide +kernel
theorem dX9_readFamily_49 : decode cX9_readFamily 49 = .ok (.aload_n 0, 1) := by decide +kernel
theorem dX9_readFamily_50 : decode cX9_readFamily 50 = .ok (.getfield 78, 3) := by decide +kernel
theorem dX9_readFamily_53 : decode cX9_readFamily 53 = .ok (.if_icmp .ge 15, 3) := by decide +kernel
theorem dX9_readFamily_56 : decode cX9_readFamily 56 = .ok (.aload_n 0, 1) := by decide +kernel
theorem dX9_readFamily_57 : decode cX9_readFamily 57 = .ok (.invokevirtual 107, 3) := by decide +kernel
theorem dX9_readFamily_60 : decode cX9_readFamily 60 = .ok (.ifCond .ne (-15), 3) := by decide +kernel
theorem dX9_readFamily_63 : decode cX9_readFamily 63 = .ok (.aload_n 0, 1) := by decide +kernel
theorem dX9_readFamily_64 : decode cX9_readFamily 64 = .ok (.getfield 81, 3) := by decide +kernel
theorem dX9_readFamily_67 : decode cX9_readFamily 67 = .ok (.ireturn, 1) := by decide +kernel
theorem dX9_readFamily_68 : decode cX9_readFamily 68 = .ok (.bipush (-9), 2) := by decide +kernel
theorem dX9_readFamily_70 : decode cX9_readFamily 70 = .ok (.ireturn, 1) := by decide +kernel
theorem dX9_fault_0 : decode cX9_fault 0 = .ok (.aload_n 0, 1) := by decide +kernel
theorem dX9_fault_1 : decode cX9_fault 1 = .ok (.iconst 0, 1) := by decide +kernel
theorem dX9_fault_2 : decode cX9_fault 2 = .ok (.putfield 68, 3) := by decide +kernel
theorem dX9_fault_5 : decode cX9_fault 5 = .ok (.aload_n 0, 1) := by decide +kernel
theorem dX9_fault_6 : decode cX9_fault 6 = .ok (.invokevirtual 110, 3) := by decide +kernel
theorem dX9_fault_9 : decode cX9_fault 9 = .ok (.ireturn, 1) := by decide +kernel
theorem dX9_copyRow_0 : decode cX9_copyRow 0 = .ok (.iconst 0, 1) := by decide +kernel
theorem dX9_copyRow_1 : decode cX9_copyRow 1 = .ok (.istore_n 3, 1) := by decide +kernel
theorem dX9_copyRow_2 : decode cX9_copyRow 2 = .ok (.iload_n 3, 1) := by decide +kernel
theorem dX9_copyRow_3 : decode cX9_copyRow 3 = .ok (.iload_n 2, 1) := by decide +kernel
theorem dX9_copyRow_4 : decode cX9_copyRow 4 = .ok (.if_icmp .ge 15, 3) := by decide +kernel
theorem dX9_copyRow_7 : decode cX9_copyRow 7 = .ok (.aload_n 1, 1) := by decide +kernel
theorem dX9_copyRow_8 : decode cX9_copyRow 8 = .ok (.iload_n 3, 1) := by decide +kernel
theorem dX9_copyRow_9 : decode cX9_copyRow 9 = .ok (.aload_n 0, 1) := by decide +kernel
theorem dX9_copyRow_10 : decode cX9_copyRow 10 = .ok (.iload_n 3, 1) := by decide +kernel
theorem dX9_copyRow_11 : decode cX9_copyRow 11 = .ok (.iaload, 1) := by decide +kernel
theorem dX9_copyRow_12 : decode cX9_copyRow 12 = .ok (.iastore, 1) := by decide +kernel
theorem dX9_copyRow_13 : decode cX9_copyRow 13 = .ok (.iinc 3 1, 3) := by decide +kernel
theorem dX9_copyRow_16 : decode cX9_copyRow 16 = .ok (.goto (-14), 3) := by decide +kernel
theorem dX9_copyRow_19 : decode cX9_copyRow 19 = .ok (.return_, 1) := by decide +kernel
theorem dX9_family_0 : decode cX9_family 0 = .ok (.aload_n 0, 1) := by decide +kernel
theorem dX9_family_1 : decode cX9_family 1 = .ok (.iconst 0, 1) := by decide +kernel
theorem dX9_family_2 : decode cX9_family 2 = .ok (.putfield 68, 3) := by decide +kernel
theorem dX9_family_5 : decode cX9_family 5 = .ok (.aload_n 0, 1) := by decide +kernel
theorem dX9_family_6 : decode cX9_family 6 = .ok (.invokevirtual 110, 3) := by decide +kernel
theorem dX9_family_9 : decode cX9_family 9 = .ok (.bipush (-9), 2) := by decide +kernel
theorem dX9_family_11 : decode cX9_family 11 = .ok (.if_icmp .eq 6, 3) := by decide +kernel
theorem dX9_family_14 : decode cX9_family 14 = .ok (.bipush (-3), 2) := by decide +kernel
theorem dX9_family_16 : decode cX9_family 16 = .ok (.ireturn, 1) := by decide +kernel
theorem dX9_family_17 : decode cX9_family 17 = .ok (.aload_n 0, 1) := by decide +kernel
theorem dX9_family_18 : decode cX9_family 18 = .ok (.aload_n 0, 1) := by decide +kernel
theorem dX9_family_19 : decode cX9_family 19 = .ok (.getfield 91, 3) := by decide +kernel
theorem dX9_family_22 : decode cX9_family 22 = .ok (.putfield 114, 3) := by decide +kernel
theorem dX9_family_25 : decode cX9_family 25 = .ok (.aload_n 0, 1) := by decide +kernel
theorem dX9_family_26 : decode cX9_family 26 = .ok (.aload_n 0, 1) := by decide +kernel
theorem dX9_family_27 : decode cX9_family 27 = .ok (.getfield 88, 3) := by decide +kernel
theorem dX9_family_30 : decode cX9_family 30 = .ok (.putfield 117, 3) := by decide +kernel
theorem dX9_family_33 : decode cX9_family 33 = .ok (.aload_n 0, 1) := by decide +kernel
theorem dX9_family_34 : decode cX9_family 34 = .ok (.aload_n 0, 1) := by decide +kernel
theorem dX9_family_35 : decode cX9_family 35 = .ok (.getfield 94, 3) := by decide +kernel
theorem dX9_family_38 : decode cX9_family 38 = .ok (.putfield 120, 3) := by decide +kernel
theorem dX9_family_41 : decode cX9_family 41 = .ok (.aload_n 0, 1) := by decide +kernel
theorem dX9_family_42 : decode cX9_family 42 = .ok (.getfield 25, 3) := by decide +kernel
theorem dX9_family_45 : decode cX9_family 45 = .ok (.aload_n 0, 1) := by decide +kernel
theorem dX9_family_46 : decode cX9_family 46 = .ok (.getfield 13, 3) := by decide +kernel
theorem dX9_family_49 : decode cX9_family 49 = .ok (.iconst 5, 1) := by decide +kernel
theorem dX9_family_50 : decode cX9_family 50 = .ok (.invokestatic 123, 3) := by decide +kernel
theorem dX9_family_53 : decode cX9_family 53 = .ok (.aload_n 0, 1) := by decide +kernel
theorem dX9_family_54 : decode cX9_family 54 = .ok (.getfield 28, 3) := by decide +kernel
theorem dX9_family_57 : decode cX9_family 57 = .ok (.aload_n 0, 1) := by decide +kernel
theorem dX9_family_58 : decode cX9_family 58 = .ok (.getfield 16, 3) := by decide +kernel
theorem dX9_family_61 : decode cX9_family 61 = .ok (.iconst 4, 1) := by decide +kernel
theorem dX9_family_62 : decode cX9_family 62 = .ok (.invokestatic 123, 3) := by decide +kernel
theorem dX9_family_65 : decode cX9_family 65 = .ok (.aload_n 0, 1) := by decide +kernel
theorem dX9_family_66 : decode cX9_family 66 = .ok (.getfield 31, 3) := by decide +kernel
theorem dX9_family_69 : decode cX9_family 69 = .ok (.aload_n 0, 1) := by decide +kernel
theorem dX9_family_70 : decode cX9_family 70 = .ok (.getfield 19, 3) := by decide +kernel
theorem dX9_family_73 : decode cX9_family 73 = .ok (.iconst 4, 1) := by decide +kernel
theorem dX9_family_74 : decode cX9_family 74 = .ok (.invokestatic 123, 3) := by decide +kernel
theorem dX9_family_77 : decode cX9_family 77 = .ok (.iconst 0, 1) := by decide +kernel
theorem dX9_family_78 : decode cX9_family 78 = .ok (.istore_n 1, 1) := by decide +kernel
theorem dX9_family_79 : decode cX9_family 79 = .ok (.iload_n 1, 1) := by decide +kernel
theorem dX9_family_80 : decode cX9_family 80 = .ok (.bipush 31, 2) := by decide +kernel
theorem dX9_family_82 : decode cX9_family 82 = .ok (.if_icmp .ge 28, 3) := by decide +kernel
theorem dX9_family_85 : decode cX9_family 85 = .ok (.aload_n 0, 1) := by decide +kernel
theorem dX9_family_86 : decode cX9_family 86 = .ok (.getfield 34, 3) := by decide +kernel
theorem dX9_family_89 : decode cX9_family 89 = .ok (.iload_n 1, 1) := by decide +kernel
theorem dX9_family_90 : decode cX9_family 90 = .ok (.iload_n 1, 1) := by decide +kernel
theorem dX9_family_91 : decode cX9_family 91 = .ok (.aload_n 0, 1) := by decide +kernel
theorem dX9_family_92 : decode cX9_family 92 = .ok (.getfield 114, 3) := by decide +kernel
theorem dX9_family_95 : decode cX9_family 95 = .ok (.if_icmp .ge 7, 3) := by decide +kernel
theorem dX9_family_98 : decode cX9_family 98 = .ok (.iconst 2, 1) := by decide +kernel
theorem dX9_family_99 : decode cX9_family 99 = .ok (.goto 4, 3) := by decide +kernel
theorem dX9_family_102 : decode cX9_family 102 = .ok (.iconst 0, 1) := by decide +kernel
theorem dX9_family_103 : decode cX9_family 103 = .ok (.iastore, 1) := by decide +kernel
theorem dX9_family_104 : decode cX9_family 104 = .ok (.iinc 1 1, 3) := by decide +kernel
theorem dX9_family_107 : decode cX9_family 107 = .ok (.goto (-28), 3) := by decide +kernel
theorem dX9_family_110 : decode cX9_family 110 = .ok (.iconst 0, 1) := by decide +kernel
theorem dX9_family_111 : decode cX9_family 111 = .ok (.istore_n 1, 1) := by decide +kernel
theorem dX9_family_112 : decode cX9_family 112 = .ok (.iload_n 1, 1) := by decide +kernel
theorem dX9_family_113 : decode cX9_family 113 = .ok (.iconst 5, 1) := by decide +kernel
theorem dX9_family_114 : decode cX9_family 114 = .ok (.aload_n 0, 1) := by decide +kernel
theorem dX9_family_115 : decode cX9_family 115 = .ok (.getfield 114, 3) := by decide +kernel
theorem dX9_family_118 : decode cX9_family 118 = .ok (.imul, 1) := by decide +kernel
theorem dX9_family_119 : decode cX9_family 119 = .ok (.if_icmp .ge 23, 3) := by decide +kernel
theorem dX9_family_122 : decode cX9_family 122 = .ok (.aload_n 0, 1) := by decide +kernel
theorem dX9_family_123 : decode cX9_family 123 = .ok (.getfield 34, 3) := by decide +kernel
theorem dX9_family_126 : decode cX9_family 126 = .ok (.iconst 5, 1) := by decide +kernel
theorem dX9_family_127 : decode cX9_family 127 = .ok (.iload_n 1, 1) := by decide +kernel
theorem dX9_family_128 : decode cX9_family 128 = .ok (.iadd, 1) := by decide +kernel
theorem dX9_family_129 : decode cX9_family 129 = .ok (.aload_n 0, 1) := by decide +kernel
theorem dX9_family_130 : decode cX9_family 130 = .ok (.getfield 22, 3) := by decide +kernel
theorem dX9_family_133 : decode cX9_family 133 = .ok (.iload_n 1, 1) := by decide +kernel
theorem dX9_family_134 : decode cX9_family 134 = .ok (.iaload, 1) := by decide +kernel
theorem dX9_family_135 : decode cX9_family 135 = .ok (.iastore, 1) := by decide +kernel
theorem dX9_family_136 : decode cX9_family 136 = .ok (.iinc 1 1, 3) := by decide +kernel
theorem dX9_family_139 : decode cX9_family 139 = .ok (.goto (-27), 3) := by decide +kernel
theorem dX9_family_142 : decode cX9_family 142 = .ok (.aload_n 0, 1) := by decide +kernel
theorem dX9_family_143 : decode cX9_family 143 = .ok (.iconst 0, 1) := by decide +kernel
theorem dX9_family_144 : decode cX9_family 144 = .ok (.putfield 127, 3) := by decide +kernel
theorem dX9_family_147 : decode cX9_family 147 = .ok (.aload_n 0, 1) := by decide +kernel
theorem dX9_family_148 : decode cX9_family 148 = .ok (.getfield 46, 3) := by decide +kernel
theorem dX9_family_151 : decode cX9_family 151 = .ok (.iconst 0, 1) := by decide +kernel
theorem dX9_family_152 : decode cX9_family 152 = .ok (.iconst 0, 1) := by decide +kernel
theorem dX9_family_153 : decode cX9_family 153 = .ok (.bastore, 1) := by decide +kernel
theorem dX9_family_154 : decode cX9_family 154 = .ok (.aload_n 0, 1) := by decide +kernel
theorem dX9_family_155 : decode cX9_family 155 = .ok (.getfield 46, 3) := by decide +kernel
theorem dX9_family_158 : decode cX9_family 158 = .ok (.iconst 1, 1) := by decide +kernel
theorem dX9_family_159 : decode cX9_family 159 = .ok (.iconst 0, 1) := by decide +kernel
theorem dX9_family_160 : decode cX9_family 160 = .ok (.bastore, 1) := by decide +kernel
theorem dX9_family_161 : decode cX9_family 161 = .ok (.bipush 100, 2) := by decide +kernel
theorem dX9_family_163 : decode cX9_family 163 = .ok (.aload_n 0, 1) := by decide +kernel
theorem dX9_family_164 : decode cX9_family 164 = .ok (.getfield 114, 3) := by decide +kernel
theorem dX9_family_167 : decode cX9_family 167 = .ok (.imul, 1) := by decide +kernel
theorem dX9_family_168 : decode cX9_family 168 = .ok (.bipush 10, 2) := by decide +kernel
theorem dX9_family_170 : decode cX9_family 170 = .ok (.aload_n 0, 1) := by decide +kernel
theorem dX9_family_171 : decode cX9_family 171 = .ok (.getfield 117, 3) := by decide +kernel
theorem dX9_family_174 : decode cX9_family 174 = .ok (.imul, 1) := by decide +kernel
theorem dX9_family_175 : decode cX9_family 175 = .ok (.iadd, 1) := by decide +kernel
theorem dX9_family_176 : decode cX9_family 176 = .ok (.aload_n 0, 1) := by decide +kernel
theorem dX9_family_177 : decode cX9_family 177 = .ok (.getfield 120, 3) := by decide +kernel
theorem dX9_family_180 : decode cX9_family 180 = .ok (.iadd, 1) := by decide +kernel
theorem dX9_family_181 : decode cX9_family 181 = .ok (.ireturn, 1) := by decide +kernel
theorem dX9_layHalves_0 : decode cX9_layHalves 0 = .ok (.iconst 0, 1) := by decide +kernel
theorem dX9_layHalves_1 : decode cX9_layHalves 1 = .ok (.istore_n 2, 1) := by decide +kernel
theorem dX9_layHalves_2 : decode cX9_layHalves 2 = .ok (.iload_n 2, 1) := by decide +kernel
theorem dX9_layHalves_3 : decode cX9_layHalves 3 = .ok (.iconst 5, 1) := by decide +kernel
theorem dX9_layHalves_4 : decode cX9_layHalves 4 = .ok (.if_icmp .ge 23, 3) := by decide +kernel
theorem dX9_layHalves_7 : decode cX9_layHalves 7 = .ok (.aload_n 0, 1) := by decide +kernel
theorem dX9_layHalves_8 : decode cX9_layHalves 8 = .ok (.getfield 56, 3) := by decide +kernel
theorem dX9_layHalves_11 : decode cX9_layHalves 11 = .ok (.iload_n 2, 1) := by decide +kernel
theorem dX9_layHalves_12 : decode cX9_layHalves 12 = .ok (.iconst 0, 1) := by decide +kernel
theorem dX9_layHalves_13 : decode cX9_layHalves 13 = .ok (.iastore, 1) := by decide +kernel
theorem dX9_layHalves_14 : decode cX9_layHalves 14 = .ok (.aload_n 0, 1) := by decide +kernel
theorem dX9_layHalves_15 : decode cX9_layHalves 15 = .ok (.getfield 59, 3) := by decide +kernel
theorem dX9_layHalves_18 : decode cX9_layHalves 18 = .ok (.iload_n 2, 1) := by decide +kernel
theorem dX9_layHalves_19 : decode cX9_layHalves 19 = .ok (.iconst 0, 1) := by decide +kernel
theorem dX9_layHalves_20 : decode cX9_layHalves 20 = .ok (.iastore, 1) := by decide +kernel
theorem dX9_layHalves_21 : decode cX9_layHalves 21 = .ok (.iinc 2 1, 3) := by decide +kernel
theorem dX9_layHalves_24 : decode cX9_layHalves 24 = .ok (.goto (-22), 3) := by decide +kernel
theorem dX9_layHalves_27 : decode cX9_layHalves 27 = .ok (.iconst 0, 1) := by decide +kernel
theorem dX9_layHalves_28 : decode cX9_layHalves 28 = .ok (.istore_n 2, 1) := by decide +kernel
theorem dX9_layHalves_29 : decode cX9_layHalves 29 = .ok (.iload_n 2, 1) := by decide +kernel
theorem dX9_layHalves_30 : decode cX9_layHalves 30 = .ok (.aload_n 0, 1) := by decide +kernel
theorem dX9_layHalves_31 : decode cX9_layHalves 31 = .ok (.getfield 114, 3) := by decide +kernel
theorem dX9_layHalves_34 : decode cX9_layHalves 34 = .ok (.if_icmp .ge 79, 3) := by decide +kernel
theorem dX9_layHalves_37 : decode cX9_layHalves 37 = .ok (.iconst 0, 1) := by decide +kernel
theorem dX9_layHalves_38 : decode cX9_layHalves 38 = .ok (.istore_n 3, 1) := by decide +kernel
theorem dX9_layHalves_39 : decode cX9_layHalves 39 = .ok (.iload_n 3, 1) := by decide +kernel
theorem dX9_layHalves_40 : decode cX9_layHalves 40 = .ok (.iconst 5, 1) := by decide +kernel
theorem dX9_layHalves_41 : decode cX9_layHalves 41 = .ok (.if_icmp .ge 66, 3) := by decide +kernel
theorem dX9_layHalves_44 : decode cX9_layHalves 44 = .ok (.aload_n 1, 1) := by decide +kernel
theorem dX9_layHalves_45 : decode cX9_layHalves 45 = .ok (.iconst 5, 1) := by decide +kernel
theorem dX9_layHalves_46 : decode cX9_layHalves 46 = .ok (.iconst 5, 1) := by decide +kernel
theorem dX9_layHalves_47 : decode cX9_layHalves 47 = .ok (.iload_n 2, 1) := by decide +kernel
theorem dX9_layHalves_48 : decode cX9_layHalves 48 = .ok (.imul, 1) := by decide +kernel
theorem dX9_layHalves_49 : decode cX9_layHalves 49 = .ok (.iadd, 1) := by decide +kernel
theorem dX9_layHalves_50 : decode cX9_layHalves 50 = .ok (.iload_n 3, 1) := by decide +kernel
theorem dX9_layHalves_51 : decode cX9_layHalves 51 = .ok (.iadd, 1) := by decide +kernel
theorem dX9_layHalves_52 : decode cX9_layHalves 52 = .ok (.iaload, 1) := by decide +kernel
theorem dX9_layHalves_53 : decode cX9_layHalves 53 = .ok (.iconst 4, 1) := by decide +kernel
theorem dX9_layHalves_54 : decode cX9_layHalves 54 = .ok (.idiv, 1) := by decide +kernel
theorem dX9_layHalves_55 : decode cX9_layHalves 55 = .ok (.istore 4, 2) := by decide +kernel
theorem dX9_layHalves_57 : decode cX9_layHalves 57 = .ok (.aload_n 0, 1) := by decide +kernel
theorem dX9_layHalves_58 : decode cX9_layHalves 58 = .ok (.getfield 56, 3) := by decide +kernel
theorem dX9_layHalves_61 : decode cX9_layHalves 61 = .ok (.iload 4, 2) := by decide +kernel
theorem dX9_layHalves_63 : decode cX9_layHalves 63 = .ok (.dup2, 1) := by decide +kernel
theorem dX9_layHalves_64 : decode cX9_layHalves 64 = .ok (.iaload, 1) := by decide +kernel
theorem dX9_layHalves_65 : decode cX9_layHalves 65 = .ok (.iload_n 3, 1) := by decide +kernel
theorem dX9_layHalves_66 : decode cX9_layHalves 66 = .ok (.aload_n 1, 1) := by decide +kernel
theorem dX9_layHalves_67 : decode cX9_layHalves 67 = .ok (.iload_n 2, 1) := by decide +kernel
theorem dX9_layHalves_68 : decode cX9_layHalves 68 = .ok (.iaload, 1) := by decide +kernel
theorem dX9_layHalves_69 : decode cX9_layHalves 69 = .ok (.if_icmp .ge 7, 3) := by decide +kernel
theorem dX9_layHalves_72 : decode cX9_layHalves 72 = .ok (.iconst 1, 1) := by decide +kernel
theorem dX9_layHalves_73 : decode cX9_layHalves 73 = .ok (.goto 4, 3) := by decide +kernel
theorem dX9_layHalves_76 : decode cX9_layHalves 76 = .ok (.iconst 0, 1) := by decide +kernel
theorem dX9_layHalves_77 : decode cX9_layHalves 77 = .ok (.iadd, 1) := by decide +kernel
theorem dX9_layHalves_78 : decode cX9_layHalves 78 = .ok (.iastore, 1) := by decide +kernel
theorem dX9_layHalves_79 : decode cX9_layHalves 79 = .ok (.aload_n 0, 1) := by decide +kernel
theorem dX9_layHalves_80 : decode cX9_layHalves 80 = .ok (.getfield 59, 3) := by decide +kernel
theorem dX9_layHalves_83 : decode cX9_layHalves 83 = .ok (.iload 4, 2) := by decide +kernel
theorem dX9_layHalves_85 : decode cX9_layHalves 85 = .ok (.dup2, 1) := by decide +kernel
theorem dX9_layHalves_86 : decode cX9_layHalves 86 = .ok (.iaload, 1) := by decide +kernel
theorem dX9_layHalves_87 : decode cX9_layHalves 87 = .ok (.iload_n 3, 1) := by decide +kernel
theorem dX9_layHalves_88 : decode cX9_layHalves 88 = .ok (.aload_n 1, 1) := by decide +kernel
theorem dX9_layHalves_89 : decode cX9_layHalves 89 = .ok (.iload_n 2, 1) := by decide +kernel
theorem dX9_layHalves_90 : decode cX9_layHalves 90 = .ok (.iaload, 1) := by decide +kernel
theorem dX9_layHalves_91 : decode cX9_layHalves 91 = .ok (.if_icmp .ge 7, 3) := by decide +kernel
theorem dX9_layHalves_94 : decode cX9_layHalves 94 = .ok (.iconst 0, 1) := by decide +kernel
theorem dX9_layHalves_95 : decode cX9_layHalves 95 = .ok (.goto 4, 3) := by decide +kernel
theorem dX9_layHalves_98 : decode cX9_layHalves 98 = .ok (.iconst 1, 1) := by decide +kernel
theorem dX9_layHalves_99 : decode cX9_layHalves 99 = .ok (.iadd, 1) := by decide +kernel
theorem dX9_layHalves_100 : decode cX9_layHalves 100 = .ok (.iastore, 1) := by decide +kernel
theorem dX9_layHalves_101 : decode cX9_layHalves 101 = .ok (.iinc 3 1, 3) := by decide +kernel
theorem dX9_layHalves_104 : decode cX9_layHalves 104 = .ok (.goto (-65), 3) := by decide +kernel
theorem dX9_layHalves_107 : decode cX9_layHalves 107 = .ok (.iinc 2 1, 3) := by decide +kernel
theorem dX9_layHalves_110 : decode cX9_layHalves 110 = .ok (.goto (-81), 3) := by decide +kernel
theorem dX9_layHalves_113 : decode cX9_layHalves 113 = .ok (.return_, 1) := by decide +kernel
theorem dX9_partedLaid_0 : decode cX9_partedLaid 0 = .ok (.iconst 0, 1) := by decide +kernel
theorem dX9_partedLaid_1 : decode cX9_partedLaid 1 = .ok (.istore_n 1, 1) := by decide +kernel
theorem dX9_partedLaid_2 : decode cX9_partedLaid 2 = .ok (.iconst 0, 1) := by decide +kernel
theorem dX9_partedLaid_3 : decode cX9_partedLaid 3 = .ok (.istore_n 2, 1) := by decide +kernel
theorem dX9_partedLaid_4 : decode cX9_partedLaid 4 = .ok (.iload_n 2, 1) := by decide +kernel
theorem dX9_partedLaid_5 : decode cX9_partedLaid 5 = .ok (.aload_n 0, 1) := by decide +kernel
theorem dX9_partedLaid_6 : decode cX9_partedLaid 6 = .ok (.getfield 117, 3) := by decide +kernel
theorem dX9_partedLaid_9 : decode cX9_partedLaid 9 = .ok (.if_icmp .ge 37, 3) := by decide +kernel
theorem dX9_partedLaid_12 : decode cX9_partedLaid 12 = .ok (.iload_n 1, 1) := by decide +kernel
theorem dX9_partedLaid_13 : decode cX9_partedLaid 13 = .ok (.aload_n 0, 1) := by decide +kernel
theorem dX9_partedLaid_14 : decode cX9_partedLaid 14 = .ok (.getfield 56, 3) := by decide +kernel
theorem dX9_partedLaid_17 : decode cX9_partedLaid 17 = .ok (.iload_n 2, 1) := by decide +kernel
theorem dX9_partedLaid_18 : decode cX9_partedLaid 18 = .ok (.iaload, 1) := by decide +kernel
theorem dX9_partedLaid_19 : decode cX9_partedLaid 19 = .ok (.ifCond .le 18, 3) := by decide +kernel
theorem dX9_partedLaid_22 : decode cX9_partedLaid 22 = .ok (.aload_n 0, 1) := by decide +kernel
theorem dX9_partedLaid_23 : decode cX9_partedLaid 23 = .ok (.getfield 59, 3) := by decide +kernel
theorem dX9_partedLaid_26 : decode cX9_partedLaid 26 = .ok (.iload_n 2, 1) := by decide +kernel
theorem dX9_partedLaid_27 : decode cX9_partedLaid 27 = .ok (.iaload, 1) := by decide +kernel
theorem dX9_partedLaid_28 : decode cX9_partedLaid 28 = .ok (.ifCond .le 9, 3) := by decide +kernel
theorem dX9_partedLaid_31 : decode cX9_partedLaid 31 = .ok (.iconst 1, 1) := by decide +kernel
theorem dX9_partedLaid_32 : decode cX9_partedLaid 32 = .ok (.iload_n 2, 1) := by decide +kernel
theorem dX9_partedLaid_33 : decode cX9_partedLaid 33 = .ok (.ishl, 1) := by decide +kernel
theorem dX9_partedLaid_34 : decode cX9_partedLaid 34 = .ok (.goto 4, 3) := by decide +kernel
theorem dX9_partedLaid_37 : decode cX9_partedLaid 37 = .ok (.iconst 0, 1) := by decide +kernel
theorem dX9_partedLaid_38 : decode cX9_partedLaid 38 = .ok (.ior, 1) := by decide +kernel
theorem dX9_partedLaid_39 : decode cX9_partedLaid 39 = .ok (.istore_n 1, 1) := by decide +kernel
theorem dX9_partedLaid_40 : decode cX9_partedLaid 40 = .ok (.iinc 2 1, 3) := by decide +kernel
theorem dX9_partedLaid_43 : decode cX9_partedLaid 43 = .ok (.goto (-39), 3) := by decide +kernel
theorem dX9_partedLaid_46 : decode cX9_partedLaid 46 = .ok (.iload_n 1, 1) := by decide +kernel
theorem dX9_partedLaid_47 : decode cX9_partedLaid 47 = .ok (.ireturn, 1) := by decide +kernel
theorem dX9_countsFor_0 : decode cX9_countsFor 0 = .ok (.aload_n 1, 1) := by decide +kernel
theorem dX9_countsFor_1 : decode cX9_countsFor 1 = .ok (.iconst 5, 1) := by decide +kernel
theorem dX9_countsFor_2 : decode cX9_countsFor 2 = .ok (.iconst 5, 1) := by decide +kernel
theorem dX9_countsFor_3 : decode cX9_countsFor 3 = .ok (.iload_n 2, 1) := by decide +kernel
theorem dX9_countsFor_4 : decode cX9_countsFor 4 = .ok (.imul, 1) := by decide +kernel
theorem dX9_countsFor_5 : decode cX9_countsFor 5 = .ok (.iadd, 1) := by decide +kernel
theorem dX9_countsFor_6 : decode cX9_countsFor 6 = .ok (.iload_n 3, 1) := by decide +kernel
theorem dX9_countsFor_7 : decode cX9_countsFor 7 = .ok (.iadd, 1) := by decide +kernel
theorem dX9_countsFor_8 : decode cX9_countsFor 8 = .ok (.iaload, 1) := by decide +kernel
theorem dX9_countsFor_9 : decode cX9_countsFor 9 = .ok (.istore 4, 2) := by decide +kernel
theorem dX9_countsFor_11 : decode cX9_countsFor 11 = .ok (.iload 4, 2) := by decide +kernel
theorem dX9_countsFor_13 : decode cX9_countsFor 13 = .ok (.iconst 4, 1) := by decide +kernel
theorem dX9_countsFor_14 : decode cX9_countsFor 14 = .ok (.idiv, 1) := by decide +kernel
theorem dX9_countsFor_15 : decode cX9_countsFor 15 = .ok (.istore 5, 2) := by decide +kernel
theorem dX9_countsFor_17 : decode cX9_countsFor 17 = .ok (.aload_n 0, 1) := by decide +kernel
theorem dX9_countsFor_18 : decode cX9_countsFor 18 = .ok (.getfield 13, 3) := by decide +kernel
theorem dX9_countsFor_21 : decode cX9_countsFor 21 = .ok (.iload 5, 2) := by decide +kernel
theorem dX9_countsFor_23 : decode cX9_countsFor 23 = .ok (.iaload, 1) := by decide +kernel
theorem dX9_countsFor_24 : decode cX9_countsFor 24 = .ok (.iconst 1, 1) := by decide +kernel
theorem dX9_countsFor_25 : decode cX9_countsFor 25 = .ok (.if_icmp .eq 21, 3) := by decide +kernel
theorem dX9_countsFor_28 : decode cX9_countsFor 28 = .ok (.aload_n 0, 1) := by decide +kernel
theorem dX9_countsFor_29 : decode cX9_countsFor 29 = .ok (.getfield 13, 3) := by decide +kernel
theorem dX9_countsFor_32 : decode cX9_countsFor 32 = .ok (.iload 5, 2) := by decide +kernel
theorem dX9_countsFor_34 : decode cX9_countsFor 34 = .ok (.iaload, 1) := by decide +kernel
theorem dX9_countsFor_35 : decode cX9_countsFor 35 = .ok (.iconst 2, 1) := by decide +kernel
theorem dX9_countsFor_36 : decode cX9_countsFor 36 = .ok (.if_icmp .ne 12, 3) := by decide +kernel
theorem dX9_countsFor_39 : decode cX9_countsFor 39 = .ok (.iload 4, 2) := by decide +kernel
theorem dX9_countsFor_41 : decode cX9_countsFor 41 = .ok (.iconst 4, 1) := by decide +kernel
theorem dX9_countsFor_42 : decode cX9_countsFor 42 = .ok (.irem, 1) := by decide +kernel
theorem dX9_countsFor_43 : decode cX9_countsFor 43 = .ok (.ifCond .ne 5, 3) := by decide +kernel
theorem dX9_countsFor_46 : decode cX9_countsFor 46 = .ok (.iconst 3, 1) := by decide +kernel
theorem dX9_countsFor_47 : decode cX9_countsFor 47 = .ok (.ireturn, 1) := by decide +kernel
theorem dX9_countsFor_48 : decode cX9_countsFor 48 = .ok (.aload_n 0, 1) := by decide +kernel
theorem dX9_countsFor_49 : decode cX9_countsFor 49 = .ok (.getfield 13, 3) := by decide +kernel
theorem dX9_countsFor_52 : decode cX9_countsFor 52 = .ok (.iload 5, 2) := by decide +kernel
theorem dX9_countsFor_54 : decode cX9_countsFor 54 = .ok (.iaload, 1) := by decide +kernel
theorem dX9_countsFor_55 : decode cX9_countsFor 55 = .ok (.iconst 3, 1) := by decide +kernel
theorem dX9_countsFor_56 : decode cX9_countsFor 56 = .ok (.if_icmp .ne 25, 3) := by decide +kernel
theorem dX9_countsFor_59 : decode cX9_countsFor 59 = .ok (.aload_n 0, 1) := by decide +kernel
theorem dX9_countsFor_60 : decode cX9_countsFor 60 = .ok (.getfield 56, 3) := by decide +kernel
theorem dX9_countsFor_63 : decode cX9_countsFor 63 = .ok (.iload 5, 2) := by decide +kernel
theorem dX9_countsFor_65 : decode cX9_countsFor 65 = .ok (.iaload, 1) := by decide +kernel
theorem dX9_countsFor_66 : decode cX9_countsFor 66 = .ok (.ifCond .le 15, 3) := by decide +kernel
theorem dX9_countsFor_69 : decode cX9_countsFor 69 = .ok (.aload_n 0, 1) := by decide +kernel
theorem dX9_countsFor_70 : decode cX9_countsFor 70 = .ok (.getfield 59, 3) := by decide +kernel
theorem dX9_countsFor_73 : decode cX9_countsFor 73 = .ok (.iload 5, 2) := by decide +kernel
theorem dX9_countsFor_75 : decode cX9_countsFor 75 = .ok (.iaload, 1) := by decide +kernel
theorem dX9_countsFor_76 : decode cX9_countsFor 76 = .ok (.ifCond .le 5, 3) := by decide +kernel
theorem dX9_countsFor_79 : decode cX9_countsFor 79 = .ok (.iconst 0, 1) := by decide +kernel
theorem dX9_countsFor_80 : decode cX9_countsFor 80 = .ok (.ireturn, 1) := by decide +kernel
theorem dX9_countsFor_81 : decode cX9_countsFor 81 = .ok (.iload_n 3, 1) := by decide +kernel
theorem dX9_countsFor_82 : decode cX9_countsFor 82 = .ok (.aload_n 1, 1) := by decide +kernel
theorem dX9_countsFor_83 : decode cX9_countsFor 83 = .ok (.iload_n 2, 1) := by decide +kernel
theorem dX9_countsFor_84 : decode cX9_countsFor 84 = .ok (.iaload, 1) := by decide +kernel
theorem dX9_countsFor_85 : decode cX9_countsFor 85 = .ok (.if_icmp .ge 7, 3) := by decide +kernel
theorem dX9_countsFor_88 : decode cX9_countsFor 88 = .ok (.iconst 1, 1) := by decide +kernel
theorem dX9_countsFor_89 : decode cX9_countsFor 89 = .ok (.goto 4, 3) := by decide +kernel
theorem dX9_countsFor_92 : decode cX9_countsFor 92 = .ok (.iconst 2, 1) := by decide +kernel
theorem dX9_countsFor_93 : decode cX9_countsFor 93 = .ok (.ireturn, 1) := by decide +kernel
theorem dX9_countOf_0 : decode cX9_countOf 0 = .ok (.iconst 0, 1) := by decide +kernel
theorem dX9_countOf_1 : decode cX9_countOf 1 = .ok (.istore 5, 2) := by decide +kernel
theorem dX9_countOf_3 : decode cX9_countOf 3 = .ok (.iconst 0, 1) := by decide +kernel
theorem dX9_countOf_4 : decode cX9_countOf 4 = .ok (.istore 6, 2) := by decide +kernel
theorem dX9_countOf_6 : decode cX9_countOf 6 = .ok (.iload 6, 2) := by decide +kernel
theorem dX9_countOf_8 : decode cX9_countOf 8 = .ok (.aload_n 0, 1) := by decide +kernel
theorem dX9_countOf_9 : decode cX9_countOf 9 = .ok (.getfield 114, 3) := by decide +kernel
theorem dX9_countOf_12 : decode cX9_countOf 12 = .ok (.if_icmp .ge 83, 3) := by decide +kernel
theorem dX9_countOf_15 : decode cX9_countOf 15 = .ok (.iconst 0, 1) := by decide +kernel
theorem dX9_countOf_16 : decode cX9_countOf 16 = .ok (.istore 7, 2) := by decide +kernel
theorem dX9_countOf_18 : decode cX9_countOf 18 = .ok (.iload 7, 2) := by decide +kernel
theorem dX9_countOf_20 : decode cX9_countOf 20 = .ok (.iconst 5, 1) := by decide +kernel
theorem dX9_countOf_21 : decode cX9_countOf 21 = .ok (.if_icmp .ge 68, 3) := by decide +kernel
theorem dX9_countOf_24 : decode cX9_countOf 24 = .ok (.aload_n 1, 1) := by decide +kernel
theorem dX9_countOf_25 : decode cX9_countOf 25 = .ok (.iconst 5, 1) := by decide +kernel
theorem dX9_countOf_26 : decode cX9_countOf 26 = .ok (.iconst 5, 1) := by decide +kernel
theorem dX9_countOf_27 : decode cX9_countOf 27 = .ok (.iload 6, 2) := by decide +kernel
theorem dX9_countOf_29 : decode cX9_countOf 29 = .ok (.imul, 1) := by decide +kernel
theorem dX9_countOf_30 : decode cX9_countOf 30 = .ok (.iadd, 1) := by decide +kernel
theorem dX9_countOf_31 : decode cX9_countOf 31 = .ok (.iload 7, 2) := by decide +kernel
theorem dX9_countOf_33 : decode cX9_countOf 33 = .ok (.iadd, 1) := by decide +kernel
theorem dX9_countOf_34 : decode cX9_countOf 34 = .ok (.iaload, 1) := by decide +kernel
theorem dX9_countOf_35 : decode cX9_countOf 35 = .ok (.istore 8, 2) := by decide +kernel
theorem dX9_countOf_37 : decode cX9_countOf 37 = .ok (.iload 5, 2) := by decide +kernel
theorem dX9_countOf_39 : decode cX9_countOf 39 = .ok (.iload 8, 2) := by decide +kernel
theorem dX9_countOf_41 : decode cX9_countOf 41 = .ok (.iconst 4, 1) := by decide +kernel
theorem dX9_countOf_42 : decode cX9_countOf 42 = .ok (.irem, 1) := by decide +kernel
theorem dX9_countOf_43 : decode cX9_countOf 43 = .ok (.iload_n 3, 1) := by decide +kernel
theorem dX9_countOf_44 : decode cX9_countOf 44 = .ok (.if_icmp .ne 35, 3) := by decide +kernel
theorem dX9_countOf_47 : decode cX9_countOf 47 = .ok (.iload 4, 2) := by decide +kernel
theorem dX9_countOf_49 : decode cX9_countOf 49 = .ok (.iload 8, 2) := by decide +kernel
theorem dX9_countOf_51 : decode cX9_countOf 51 = .ok (.iconst 4, 1) := by decide +kernel
theorem dX9_countOf_52 : decode cX9_countOf 52 = .ok (.idiv, 1) := by decide +kernel
theorem dX9_countOf_53 : decode cX9_countOf 53 = .ok (.invokestatic 130, 3) := by decide +kernel
theorem dX9_countOf_56 : decode cX9_countOf 56 = .ok (.ifCond .eq 23, 3) := by decide +kernel
theorem dX9_countOf_59 : decode cX9_countOf 59 = .ok (.aload_n 0, 1) := by decide +kernel
theorem dX9_countOf_60 : decode cX9_countOf 60 = .ok (.aload_n 1, 1) := by decide +kernel
theorem dX9_countOf_61 : decode cX9_countOf 61 = .ok (.iload 6, 2) := by decide +kernel
theorem dX9_countOf_63 : decode cX9_countOf 63 = .ok (.iload 7, 2) := by decide +kernel
theorem dX9_countOf_65 : decode cX9_countOf 65 = .ok (.invokevirtual 134, 3) := by decide +kernel
theorem dX9_countOf_68 : decode cX9_countOf 68 = .ok (.iload_n 2, 1) := by decide +kernel
theorem dX9_countOf_69 : decode cX9_countOf 69 = .ok (.invokestatic 130, 3) := by decide +kernel
theorem dX9_countOf_72 : decode cX9_countOf 72 = .ok (.ifCond .eq 7, 3) := by decide +kernel
theorem dX9_countOf_75 : decode cX9_countOf 75 = .ok (.iconst 1, 1) := by decide +kernel
theorem dX9_countOf_76 : decode cX9_countOf 76 = .ok (.goto 4, 3) := by decide +kernel
theorem dX9_countOf_79 : decode cX9_countOf 79 = .ok (.iconst 0, 1) := by decide +kernel
theorem dX9_countOf_80 : decode cX9_countOf 80 = .ok (.iadd, 1) := by decide +kernel
theorem dX9_countOf_81 : decode cX9_countOf 81 = .ok (.istore 5, 2) := by decide +kernel
theorem dX9_countOf_83 : decode cX9_countOf 83 = .ok (.iinc 7 1, 3) := by decide +kernel
theorem dX9_countOf_86 : decode cX9_countOf 86 = .ok (.goto (-68), 3) := by decide +kernel
theorem dX9_countOf_89 : decode cX9_countOf 89 = .ok (.iinc 6 1, 3) := by decide +kernel
theorem dX9_countOf_92 : decode cX9_countOf 92 = .ok (.goto (-86), 3) := by decide +kernel
theorem dX9_countOf_95 : decode cX9_countOf 95 = .ok (.iload 5, 2) := by decide +kernel
theorem dX9_countOf_97 : decode cX9_countOf 97 = .ok (.ireturn, 1) := by decide +kernel
theorem dX9_canOf_0 : decode cX9_canOf 0 = .ok (.iconst 0, 1) := by decide +kernel
theorem dX9_canOf_1 : decode cX9_canOf 1 = .ok (.istore 4, 2) := by decide +kernel
theorem dX9_canOf_3 : decode cX9_canOf 3 = .ok (.iconst 0, 1) := by decide +kernel
theorem dX9_canOf_4 : decode cX9_canOf 4 = .ok (.istore 5, 2) := by decide +kernel
theorem dX9_canOf_6 : decode cX9_canOf 6 = .ok (.iload 5, 2) := by decide +kernel
theorem dX9_canOf_8 : decode cX9_canOf 8 = .ok (.aload_n 0, 1) := by decide +kernel
theorem dX9_canOf_9 : decode cX9_canOf 9 = .ok (.getfield 120, 3) := by decide +kernel
theorem dX9_canOf_12 : decode cX9_canOf 12 = .ok (.if_icmp .ge 46, 3) := by decide +kernel
theorem dX9_canOf_15 : decode cX9_canOf 15 = .ok (.iload 4, 2) := by decide +kernel
theorem dX9_canOf_17 : decode cX9_canOf 17 = .ok (.aload_n 0, 1) := by decide +kernel
theorem dX9_canOf_18 : decode cX9_canOf 18 = .ok (.aload_n 1, 1) := by decide +kernel
theorem dX9_canOf_19 : decode cX9_canOf 19 = .ok (.iload_n 2, 1) := by decide +kernel
theorem dX9_canOf_20 : decode cX9_canOf 20 = .ok (.aload_n 0, 1) := by decide +kernel
theorem dX9_canOf_21 : decode cX9_canOf 21 = .ok (.getfield 16, 3) := by decide +kernel
theorem dX9_canOf_24 : decode cX9_canOf 24 = .ok (.iload 5, 2) := by decide +kernel
theorem dX9_canOf_26 : decode cX9_canOf 26 = .ok (.iaload, 1) := by decide +kernel
theorem dX9_canOf_27 : decode cX9_canOf 27 = .ok (.iload_n 3, 1) := by decide +kernel
theorem dX9_canOf_28 : decode cX9_canOf 28 = .ok (.invokevirtual 138, 3) := by decide +kernel
theorem dX9_canOf_31 : decode cX9_canOf 31 = .ok (.aload_n 0, 1) := by decide +kernel
theorem dX9_canOf_32 : decode cX9_canOf 32 = .ok (.getfield 19, 3) := by decide +kernel
theorem dX9_canOf_35 : decode cX9_canOf 35 = .ok (.iload 5, 2) := by decide +kernel
theorem dX9_canOf_37 : decode cX9_canOf 37 = .ok (.iaload, 1) := by decide +kernel
theorem dX9_canOf_38 : decode cX9_canOf 38 = .ok (.if_icmp .lt 10, 3) := by decide +kernel
theorem dX9_canOf_41 : decode cX9_canOf 41 = .ok (.iconst 1, 1) := by decide +kernel
theorem dX9_canOf_42 : decode cX9_canOf 42 = .ok (.iload 5, 2) := by decide +kernel
theorem dX9_canOf_44 : decode cX9_canOf 44 = .ok (.ishl, 1) := by decide +kernel
theorem dX9_canOf_45 : decode cX9_canOf 45 = .ok (.goto 4, 3) := by decide +kernel
theorem dX9_canOf_48 : decode cX9_canOf 48 = .ok (.iconst 0, 1) := by decide +kernel
theorem dX9_canOf_49 : decode cX9_canOf 49 = .ok (.ior, 1) := by decide +kernel
theorem dX9_canOf_50 : decode cX9_canOf 50 = .ok (.istore 4, 2) := by decide +kernel
theorem dX9_canOf_52 : decode cX9_canOf 52 = .ok (.iinc 5 1, 3) := by decide +kernel
theorem dX9_canOf_55 : decode cX9_canOf 55 = .ok (.goto (-49), 3) := by decide +kernel
theorem dX9_canOf_58 : decode cX9_canOf 58 = .ok (.iload 4, 2) := by decide +kernel
theorem dX9_canOf_60 : decode cX9_canOf 60 = .ok (.ireturn, 1) := by decide +kernel
theorem dX9_slipsOf_0 : decode cX9_slipsOf 0 = .ok (.iconst 0, 1) := by decide +kernel
theorem dX9_slipsOf_1 : decode cX9_slipsOf 1 = .ok (.istore_n 2, 1) := by decide +kernel
theorem dX9_slipsOf_2 : decode cX9_slipsOf 2 = .ok (.iconst 1, 1) := by decide +kernel
theorem dX9_slipsOf_3 : decode cX9_slipsOf 3 = .ok (.istore_n 3, 1) := by decide +kernel
theorem dX9_slipsOf_4 : decode cX9_slipsOf 4 = .ok (.iload_n 3, 1) := by decide +kernel
theorem dX9_slipsOf_5 : decode cX9_slipsOf 5 = .ok (.aload_n 0, 1) := by decide +kernel
theorem dX9_slipsOf_6 : decode cX9_slipsOf 6 = .ok (.getfield 114, 3) := by decide +kernel
theorem dX9_slipsOf_9 : decode cX9_slipsOf 9 = .ok (.if_icmp .ge 28, 3) := by decide +kernel
theorem dX9_slipsOf_12 : decode cX9_slipsOf 12 = .ok (.iload_n 2, 1) := by decide +kernel
theorem dX9_slipsOf_13 : decode cX9_slipsOf 13 = .ok (.aload_n 1, 1) := by decide +kernel
theorem dX9_slipsOf_14 : decode cX9_slipsOf 14 = .ok (.iload_n 3, 1) := by decide +kernel
theorem dX9_slipsOf_15 : decode cX9_slipsOf 15 = .ok (.iaload, 1) := by decide +kernel
theorem dX9_slipsOf_16 : decode cX9_slipsOf 16 = .ok (.aload_n 1, 1) := by decide +kernel
theorem dX9_slipsOf_17 : decode cX9_slipsOf 17 = .ok (.iload_n 3, 1) := by decide +kernel
theorem dX9_slipsOf_18 : decode cX9_slipsOf 18 = .ok (.iconst 1, 1) := by decide +kernel
theorem dX9_slipsOf_19 : decode cX9_slipsOf 19 = .ok (.isub, 1) := by decide +kernel
theorem dX9_slipsOf_20 : decode cX9_slipsOf 20 = .ok (.iaload, 1) := by decide +kernel
theorem dX9_slipsOf_21 : decode cX9_slipsOf 21 = .ok (.if_icmp .eq 7, 3) := by decide +kernel
theorem dX9_slipsOf_24 : decode cX9_slipsOf 24 = .ok (.iconst 1, 1) := by decide +kernel
theorem dX9_slipsOf_25 : decode cX9_slipsOf 25 = .ok (.goto 4, 3) := by decide +kernel
theorem dX9_slipsOf_28 : decode cX9_slipsOf 28 = .ok (.iconst 0, 1) := by decide +kernel
theorem dX9_slipsOf_29 : decode cX9_slipsOf 29 = .ok (.iadd, 1) := by decide +kernel
theorem dX9_slipsOf_30 : decode cX9_slipsOf 30 = .ok (.istore_n 2, 1) := by decide +kernel
theorem dX9_slipsOf_31 : decode cX9_slipsOf 31 = .ok (.iinc 3 1, 3) := by decide +kernel
theorem dX9_slipsOf_34 : decode cX9_slipsOf 34 = .ok (.goto (-30), 3) := by decide +kernel
theorem dX9_slipsOf_37 : decode cX9_slipsOf 37 = .ok (.iload_n 2, 1) := by decide +kernel
theorem dX9_slipsOf_38 : decode cX9_slipsOf 38 = .ok (.ireturn, 1) := by decide +kernel
theorem dX9_figuresOf_0 : decode cX9_figuresOf 0 = .ok (.iconst 1, 1) := by decide +kernel
theorem dX9_figuresOf_1 : decode cX9_figuresOf 1 = .ok (.istore_n 2, 1) := by decide +kernel
theorem dX9_figuresOf_2 : decode cX9_figuresOf 2 = .ok (.iconst 0, 1) := by decide +kernel
theorem dX9_figuresOf_3 : decode cX9_figuresOf 3 = .ok (.istore_n 3, 1) := by decide +kernel
theorem dX9_figuresOf_4 : decode cX9_figuresOf 4 = .ok (.iload_n 3, 1) := by decide +kernel
theorem dX9_figuresOf_5 : decode cX9_figuresOf 5 = .ok (.aload_n 0, 1) := by decide +kernel
theorem dX9_figuresOf_6 : decode cX9_figuresOf 6 = .ok (.getfield 114, 3) := by decide +kernel
theorem dX9_figuresOf_9 : decode cX9_figuresOf 9 = .ok (.if_icmp .ge 18, 3) := by decide +kernel
theorem dX9_figuresOf_12 : decode cX9_figuresOf 12 = .ok (.bipush 10, 2) := by decide +kernel
theorem dX9_figuresOf_14 : decode cX9_figuresOf 14 = .ok (.iload_n 2, 1) := by decide +kernel
theorem dX9_figuresOf_15 : decode cX9_figuresOf 15 = .ok (.imul, 1) := by decide +kernel
theorem dX9_figuresOf_16 : decode cX9_figuresOf 16 = .ok (.aload_n 1, 1) := by decide +kernel
theorem dX9_figuresOf_17 : decode cX9_figuresOf 17 = .ok (.iload_n 3, 1) := by decide +kernel
theorem dX9_figuresOf_18 : decode cX9_figuresOf 18 = .ok (.iaload, 1) := by decide +kernel
theorem dX9_figuresOf_19 : decode cX9_figuresOf 19 = .ok (.iadd, 1) := by decide +kernel
theorem dX9_figuresOf_20 : decode cX9_figuresOf 20 = .ok (.istore_n 2, 1) := by decide +kernel
theorem dX9_figuresOf_21 : decode cX9_figuresOf 21 = .ok (.iinc 3 1, 3) := by decide +kernel
theorem dX9_figuresOf_24 : decode cX9_figuresOf 24 = .ok (.goto (-20), 3) := by decide +kernel
theorem dX9_figuresOf_27 : decode cX9_figuresOf 27 = .ok (.iload_n 2, 1) := by decide +kernel
theorem dX9_figuresOf_28 : decode cX9_figuresOf 28 = .ok (.ireturn, 1) := by decide +kernel
theorem dX9_power_0 : decode cX9_power 0 = .ok (.iconst 1, 1) := by decide +kernel
theorem dX9_power_1 : decode cX9_power 1 = .ok (.istore_n 2, 1) := by decide +kernel
theorem dX9_power_2 : decode cX9_power 2 = .ok (.iconst 0, 1) := by decide +kernel
theorem dX9_power_3 : decode cX9_power 3 = .ok (.istore_n 3, 1) := by decide +kernel
theorem dX9_power_4 : decode cX9_power 4 = .ok (.iload_n 3, 1) := by decide +kernel
theorem dX9_power_5 : decode cX9_power 5 = .ok (.iload_n 1, 1) := by decide +kernel
theorem dX9_power_6 : decode cX9_power 6 = .ok (.if_icmp .ge 13, 3) := by decide +kernel
theorem dX9_power_9 : decode cX9_power 9 = .ok (.iload_n 2, 1) := by decide +kernel
theorem dX9_power_10 : decode cX9_power 10 = .ok (.iload_n 0, 1) := by decide +kernel
theorem dX9_power_11 : decode cX9_power 11 = .ok (.imul, 1) := by decide +kernel
theorem dX9_power_12 : decode cX9_power 12 = .ok (.istore_n 2, 1) := by decide +kernel
theorem dX9_power_13 : decode cX9_power 13 = .ok (.iinc 3 1, 3) := by decide +kernel
theorem dX9_power_16 : decode cX9_power 16 = .ok (.goto (-12), 3) := by decide +kernel
theorem dX9_power_19 : decode cX9_power 19 = .ok (.iload_n 2, 1) := by decide +kernel
theorem dX9_power_20 : decode cX9_power 20 = .ok (.ireturn, 1) := by decide +kernel
theorem dX9_layWire_0 : decode cX9_layWire 0 = .ok (.iconst 1, 1) := by decide +kernel
theorem dX9_layWire_1 : decode cX9_layWire 1 = .ok (.istore_n 2, 1) := by decide +kernel
theorem dX9_layWire_2 : decode cX9_layWire 2 = .ok (.iconst 0, 1) := by decide +kernel
theorem dX9_layWire_3 : decode cX9_layWire 3 = .ok (.istore_n 3, 1) := by decide +kernel
theorem dX9_layWire_4 : decode cX9_layWire 4 = .ok (.iload_n 3, 1) := by decide +kernel
theorem dX9_layWire_5 : decode cX9_layWire 5 = .ok (.aload_n 0, 1) := by decide +kernel
theorem dX9_layWire_6 : decode cX9_layWire 6 = .ok (.getfield 114, 3) := by decide +kernel
theorem dX9_layWire_9 : decode cX9_layWire 9 = .ok (.if_icmp .ge 73, 3) := by decide +kernel
theorem dX9_layWire_12 : decode cX9_layWire 12 = .ok (.aload_n 0, 1) := by decide +kernel
theorem dX9_layWire_13 : decode cX9_layWire 13 = .ok (.getfield 62, 3) := by decide +kernel
theorem dX9_layWire_16 : decode cX9_layWire 16 = .ok (.iload_n 3, 1) := by decide +kernel
theorem dX9_layWire_17 : decode cX9_layWire 17 = .ok (.iload_n 1, 1) := by decide +kernel
theorem dX9_layWire_18 : decode cX9_layWire 18 = .ok (.bipush 6, 2) := by decide +kernel
theorem dX9_layWire_20 : decode cX9_layWire 20 = .ok (.aload_n 0, 1) := by decide +kernel
theorem dX9_layWire_21 : decode cX9_layWire 21 = .ok (.getfield 114, 3) := by decide +kernel
theorem dX9_layWire_24 : decode cX9_layWire 24 = .ok (.iconst 1, 1) := by decide +kernel
theorem dX9_layWire_25 : decode cX9_layWire 25 = .ok (.isub, 1) := by decide +kernel
theorem dX9_layWire_26 : decode cX9_layWire 26 = .ok (.iload_n 3, 1) := by decide +kernel
theorem dX9_layWire_27 : decode cX9_layWire 27 = .ok (.isub, 1) := by decide +kernel
theorem dX9_layWire_28 : decode cX9_layWire 28 = .ok (.invokestatic 142, 3) := by decide +kernel
theorem dX9_layWire_31 : decode cX9_layWire 31 = .ok (.idiv, 1) := by decide +kernel
theorem dX9_layWire_32 : decode cX9_layWire 32 = .ok (.bipush 6, 2) := by decide +kernel
theorem dX9_layWire_34 : decode cX9_layWire 34 = .ok (.irem, 1) := by decide +kernel
theorem dX9_layWire_35 : decode cX9_layWire 35 = .ok (.iastore, 1) := by decide +kernel
theorem dX9_layWire_36 : decode cX9_layWire 36 = .ok (.iload_n 2, 1) := by decide +kernel
theorem dX9_layWire_37 : decode cX9_layWire 37 = .ok (.ifCond .eq 37, 3) := by decide +kernel
theorem dX9_layWire_40 : decode cX9_layWire 40 = .ok (.iload_n 3, 1) := by decide +kernel
theorem dX9_layWire_41 : decode cX9_layWire 41 = .ok (.ifCond .eq 29, 3) := by decide +kernel
theorem dX9_layWire_44 : decode cX9_layWire 44 = .ok (.aload_n 0, 1) := by decide +kernel
theorem dX9_layWire_45 : decode cX9_layWire 45 = .ok (.getfield 62, 3) := by decide +kernel
theorem dX9_layWire_48 : decode cX9_layWire 48 = .ok (.iload_n 3, 1) := by decide +kernel
theorem dX9_layWire_49 : decode cX9_layWire 49 = .ok (.iaload, 1) := by decide +kernel
theorem dX9_layWire_50 : decode cX9_layWire 50 = .ok (.aload_n 0, 1) := by decide +kernel
theorem dX9_layWire_51 : decode cX9_layWire 51 = .ok (.getfield 62, 3) := by decide +kernel
theorem dX9_layWire_54 : decode cX9_layWire 54 = .ok (.iload_n 3, 1) := by decide +kernel
theorem dX9_layWire_55 : decode cX9_layWire 55 = .ok (.iconst 1, 1) := by decide +kernel
theorem dX9_layWire_56 : decode cX9_layWire 56 = .ok (.isub, 1) := by decide +kernel
theorem dX9_layWire_57 : decode cX9_layWire 57 = .ok (.iaload, 1) := by decide +kernel
theorem dX9_layWire_58 : decode cX9_layWire 58 = .ok (.isub, 1) := by decide +kernel
theorem dX9_layWire_59 : decode cX9_layWire 59 = .ok (.i2l, 1) := by decide +kernel
theorem dX9_layWire_60 : decode cX9_layWire 60 = .ok (.ldc2_w 146, 3) := by decide +kernel
theorem dX9_layWire_63 : decode cX9_layWire 63 = .ok (.lconst 1, 1) := by decide +kernel
theorem dX9_layWire_64 : decode cX9_layWire 64 = .ok (.invokestatic 74, 3) := by decide +kernel
theorem dX9_layWire_67 : decode cX9_layWire 67 = .ok (.ifCond .eq 7, 3) := by decide +kernel
theorem dX9_layWire_70 : decode cX9_layWire 70 = .ok (.iconst 1, 1) := by decide +kernel
theorem dX9_layWire_71 : decode cX9_layWire 71 = .ok (.goto 4, 3) := by decide +kernel
theorem dX9_layWire_74 : decode cX9_layWire 74 = .ok (.iconst 0, 1) := by decide +kernel
theorem dX9_layWire_75 : decode cX9_layWire 75 = .ok (.istore_n 2, 1) := by decide +kernel
theorem dX9_layWire_76 : decode cX9_layWire 76 = .ok (.iinc 3 1, 3) := by decide +kernel
theorem dX9_layWire_79 : decode cX9_layWire 79 = .ok (.goto (-75), 3) := by decide +kernel
theorem dX9_layWire_82 : decode cX9_layWire 82 = .ok (.iload_n 2, 1) := by decide +kernel
theorem dX9_layWire_83 : decode cX9_layWire 83 = .ok (.ifCond .eq 31, 3) := by decide +kernel
theorem dX9_layWire_86 : decode cX9_layWire 86 = .ok (.aload_n 0, 1) := by decide +kernel
theorem dX9_layWire_87 : decode cX9_layWire 87 = .ok (.getfield 34, 3) := by decide +kernel
theorem dX9_layWire_90 : decode cX9_layWire 90 = .ok (.aload_n 0, 1) := by decide +kernel
theorem dX9_layWire_91 : decode cX9_layWire 91 = .ok (.getfield 37, 3) := by decide +kernel
theorem dX9_layWire_94 : decode cX9_layWire 94 = .ok (.bipush 31, 2) := by decide +kernel
theorem dX9_layWire_96 : decode cX9_layWire 96 = .ok (.invokestatic 123, 3) := by decide +kernel
theorem dX9_layWire_99 : decode cX9_layWire 99 = .ok (.aload_n 0, 1) := by decide +kernel
theorem dX9_layWire_100 : decode cX9_layWire 100 = .ok (.getfield 62, 3) := by decide +kernel
theorem dX9_layWire_103 : decode cX9_layWire 103 = .ok (.aload_n 0, 1) := by decide +kernel
theorem dX9_layWire_104 : decode cX9_layWire 104 = .ok (.getfield 37, 3) := by decide +kernel
theorem dX9_layWire_107 : decode cX9_layWire 107 = .ok (.aload_n 0, 1) := by decide +kernel
theorem dX9_layWire_108 : decode cX9_layWire 108 = .ok (.getfield 114, 3) := by decide +kernel
theorem dX9_layWire_111 : decode cX9_layWire 111 = .ok (.invokestatic 123, 3) := by decide +kernel
theorem dX9_layWire_114 : decode cX9_layWire 114 = .ok (.iload_n 2, 1) := by decide +kernel
theorem dX9_layWire_115 : decode cX9_layWire 115 = .ok (.ireturn, 1) := by decide +kernel
theorem dX9_wires_0 : decode cX9_wires 0 = .ok (.iconst 0, 1) := by decide +kernel
theorem dX9_wires_1 : decode cX9_wires 1 = .ok (.istore_n 1, 1) := by decide +kernel
theorem dX9_wires_2 : decode cX9_wires 2 = .ok (.iconst 0, 1) := by decide +kernel
theorem dX9_wires_3 : decode cX9_wires 3 = .ok (.istore_n 2, 1) := by decide +kernel
theorem dX9_wires_4 : decode cX9_wires 4 = .ok (.iload_n 2, 1) := by decide +kernel
theorem dX9_wires_5 : decode cX9_wires 5 = .ok (.bipush 6, 2) := by decide +kernel
theorem dX9_wires_7 : decode cX9_wires 7 = .ok (.aload_n 0, 1) := by decide +kernel
theorem dX9_wires_8 : decode cX9_wires 8 = .ok (.getfield 114, 3) := by decide +kernel
theorem dX9_wires_11 : decode cX9_wires 11 = .ok (.invokestatic 142, 3) := by decide +kernel
theorem dX9_wires_14 : decode cX9_wires 14 = .ok (.if_icmp .ge 25, 3) := by decide +kernel
theorem dX9_wires_17 : decode cX9_wires 17 = .ok (.iload_n 1, 1) := by decide +kernel
theorem dX9_wires_18 : decode cX9_wires 18 = .ok (.aload_n 0, 1) := by decide +kernel
theorem dX9_wires_19 : decode cX9_wires 19 = .ok (.iload_n 2, 1) := by decide +kernel
theorem dX9_wires_20 : decode cX9_wires 20 = .ok (.invokevirtual 148, 3) := by decide +kernel
theorem dX9_wires_23 : decode cX9_wires 23 = .ok (.ifCond .eq 7, 3) := by decide +kernel
theorem dX9_wires_26 : decode cX9_wires 26 = .ok (.iconst 1, 1) := by decide +kernel
theorem dX9_wires_27 : decode cX9_wires 27 = .ok (.goto 4, 3) := by decide +kernel
theorem dX9_wires_30 : decode cX9_wires 30 = .ok (.iconst 0, 1) := by decide +kernel
theorem dX9_wires_31 : decode cX9_wires 31 = .ok (.iadd, 1) := by decide +kernel
theorem dX9_wires_32 : decode cX9_wires 32 = .ok (.istore_n 1, 1) := by decide +kernel
theorem dX9_wires_33 : decode cX9_wires 33 = .ok (.iinc 2 1, 3) := by decide +kernel
theorem dX9_wires_36 : decode cX9_wires 36 = .ok (.goto (-32), 3) := by decide +kernel
theorem dX9_wires_39 : decode cX9_wires 39 = .ok (.iload_n 1, 1) := by decide +kernel
theorem dX9_wires_40 : decode cX9_wires 40 = .ok (.ireturn, 1) := by decide +kernel
theorem dX9_about_0 : decode cX9_about 0 = .ok (.aload_n 0, 1) := by decide +kernel
theorem dX9_about_1 : decode cX9_about 1 = .ok (.iconst 0, 1) := by decide +kernel
theorem dX9_about_2 : decode cX9_about 2 = .ok (.putfield 68, 3) := by decide +kernel
theorem dX9_about_5 : decode cX9_about 5 = .ok (.aload_n 0, 1) := by decide +kernel
theorem dX9_about_6 : decode cX9_about 6 = .ok (.aload_n 0, 1) := by decide +kernel
theorem dX9_about_7 : decode cX9_about 7 = .ok (.getfield 34, 3) := by decide +kernel
theorem dX9_about_10 : decode cX9_about 10 = .ok (.invokevirtual 152, 3) := by decide +kernel
theorem dX9_about_13 : decode cX9_about 13 = .ok (.iload_n 1, 1) := by decide +kernel
theorem dX9_about_14 : decode cX9_about 14 = .ok (.tableswitch 124 0 10 #[58, 63, 68, 73, 81, 90, 99, 104, 109, 114, 119], 58) := by decide +kernel
theorem dX9_about_72 : decode cX9_about 72 = .ok (.aload_n 0, 1) := by decide +kernel
theorem dX9_about_73 : decode cX9_about 73 = .ok (.getfield 114, 3) := by decide +kernel
theorem dX9_about_76 : decode cX9_about 76 = .ok (.ireturn, 1) := by decide +kernel
theorem dX9_about_77 : decode cX9_about 77 = .ok (.aload_n 0, 1) := by decide +kernel
theorem dX9_about_78 : decode cX9_about 78 = .ok (.getfield 117, 3) := by decide +kernel
theorem dX9_about_81 : decode cX9_about 81 = .ok (.ireturn, 1) := by decide +kernel
theorem dX9_about_82 : decode cX9_about 82 = .ok (.aload_n 0, 1) := by decide +kernel
theorem dX9_about_83 : decode cX9_about 83 = .ok (.getfield 120, 3) := by decide +kernel
theorem dX9_about_86 : decode cX9_about 86 = .ok (.ireturn, 1) := by decide +kernel
theorem dX9_about_87 : decode cX9_about 87 = .ok (.aload_n 0, 1) := by decide +kernel
theorem dX9_about_88 : decode cX9_about 88 = .ok (.getfield 34, 3) := by decide +kernel
theorem dX9_about_91 : decode cX9_about 91 = .ok (.bipush 30, 2) := by decide +kernel
theorem dX9_about_93 : decode cX9_about 93 = .ok (.iaload, 1) := by decide +kernel
theorem dX9_about_94 : decode cX9_about 94 = .ok (.ireturn, 1) := by decide +kernel
theorem dX9_about_95 : decode cX9_about 95 = .ok (.aload_n 0, 1) := by decide +kernel
theorem dX9_about_96 : decode cX9_about 96 = .ok (.aload_n 0, 1) := by decide +kernel
theorem dX9_about_97 : decode cX9_about 97 = .ok (.getfield 34, 3) := by decide +kernel
theorem dX9_about_100 : decode cX9_about 100 = .ok (.invokevirtual 156, 3) := by decide +kernel
theorem dX9_about_103 : decode cX9_about 103 = .ok (.ireturn, 1) := by decide +kernel
theorem dX9_about_104 : decode cX9_about 104 = .ok (.aload_n 0, 1) := by decide +kernel
theorem dX9_about_105 : decode cX9_about 105 = .ok (.aload_n 0, 1) := by decide +kernel
theorem dX9_about_106 : decode cX9_about 106 = .ok (.getfield 34, 3) := by decide +kernel
theorem dX9_about_109 : decode cX9_about 109 = .ok (.invokevirtual 160, 3) := by decide +kernel
theorem dX9_about_112 : decode cX9_about 112 = .ok (.ireturn, 1) := by decide +kernel
theorem dX9_about_113 : decode cX9_about 113 = .ok (.aload_n 0, 1) := by decide +kernel
theorem dX9_about_114 : decode cX9_about 114 = .ok (.invokevirtual 163, 3) := by decide +kernel
theorem dX9_about_117 : decode cX9_about 117 = .ok (.ireturn, 1) := by decide +kernel
theorem dX9_about_118 : decode cX9_about 118 = .ok (.aload_n 0, 1) := by decide +kernel
theorem dX9_about_119 : decode cX9_about 119 = .ok (.invokevirtual 166, 3) := by decide +kernel
theorem dX9_about_122 : decode cX9_about 122 = .ok (.ireturn, 1) := by decide +kernel
theorem dX9_about_123 : decode cX9_about 123 = .ok (.aload_n 0, 1) := by decide +kernel
theorem dX9_about_124 : decode cX9_about 124 = .ok (.getfield 127, 3) := by decide +kernel
theorem dX9_about_127 : decode cX9_about 127 = .ok (.ireturn, 1) := by decide +kernel
theorem dX9_about_128 : decode cX9_about 128 = .ok (.aload_n 0, 1) := by decide +kernel
theorem dX9_about_129 : decode cX9_about 129 = .ok (.getfield 169, 3) := by decide +kernel
theorem dX9_about_132 : decode cX9_about 132 = .ok (.ireturn, 1) := by decide +kernel
theorem dX9_about_133 : decode cX9_about 133 = .ok (.aload_n 0, 1) := by decide +kernel
theorem dX9_about_134 : decode cX9_about 134 = .ok (.getfield 78, 3) := by decide +kernel
theorem dX9_about_137 : decode cX9_about 137 = .ok (.ireturn, 1) := by decide +kernel
theorem dX9_about_138 : decode cX9_about 138 = .ok (.bipush (-2), 2) := by decide +kernel
theorem dX9_about_140 : decode cX9_about 140 = .ok (.ireturn, 1) := by decide +kernel
theorem dX9_cell_0 : decode cX9_cell 0 = .ok (.aload_n 0, 1) := by decide +kernel
theorem dX9_cell_1 : decode cX9_cell 1 = .ok (.iconst 0, 1) := by decide +kernel
theorem dX9_cell_2 : decode cX9_cell 2 = .ok (.putfield 68, 3) := by decide +kernel
theorem dX9_cell_5 : decode cX9_cell 5 = .ok (.iload_n 1, 1) := by decide +kernel
theorem dX9_cell_6 : decode cX9_cell 6 = .ok (.i2l, 1) := by decide +kernel
theorem dX9_cell_7 : decode cX9_cell 7 = .ok (.lconst 0, 1) := by decide +kernel
theorem dX9_cell_8 : decode cX9_cell 8 = .ok (.aload_n 0, 1) := by decide +kernel
theorem dX9_cell_9 : decode cX9_cell 9 = .ok (.getfield 114, 3) := by decide +kernel
theorem dX9_cell_12 : decode cX9_cell 12 = .ok (.iconst 1, 1) := by decide +kernel
theorem dX9_cell_13 : decode cX9_cell 13 = .ok (.isub, 1) := by decide +kernel
theorem dX9_cell_14 : decode cX9_cell 14 = .ok (.i2l, 1) := by decide +kernel
theorem dX9_cell_15 : decode cX9_cell 15 = .ok (.invokestatic 74, 3) := by decide +kernel
theorem dX9_cell_18 : decode cX9_cell 18 = .ok (.ifCond .ne 5, 3) := by decide +kernel
theorem dX9_cell_21 : decode cX9_cell 21 = .ok (.iconst (-1), 1) := by decide +kernel
theorem dX9_cell_22 : decode cX9_cell 22 = .ok (.ireturn, 1) := by decide +kernel
theorem dX9_cell_23 : decode cX9_cell 23 = .ok (.iload_n 2, 1) := by decide +kernel
theorem dX9_cell_24 : decode cX9_cell 24 = .ok (.i2l, 1) := by decide +kernel
theorem dX9_cell_25 : decode cX9_cell 25 = .ok (.lconst 0, 1) := by decide +kernel
theorem dX9_cell_26 : decode cX9_cell 26 = .ok (.ldc2_w 172, 3) := by decide +kernel
theorem dX9_cell_29 : decode cX9_cell 29 = .ok (.invokestatic 74, 3) := by decide +kernel
theorem dX9_cell_32 : decode cX9_cell 32 = .ok (.ifCond .ne 6, 3) := by decide +kernel
theorem dX9_cell_35 : decode cX9_cell 35 = .ok (.bipush (-2), 2) := by decide +kernel
theorem dX9_cell_37 : decode cX9_cell 37 = .ok (.ireturn, 1) := by decide +kernel
theorem dX9_cell_38 : decode cX9_cell 38 = .ok (.aload_n 0, 1) := by decide +kernel
theorem dX9_cell_39 : decode cX9_cell 39 = .ok (.aload_n 0, 1) := by decide +kernel
theorem dX9_cell_40 : decode cX9_cell 40 = .ok (.getfield 34, 3) := by decide +kernel
theorem dX9_cell_43 : decode cX9_cell 43 = .ok (.invokevirtual 152, 3) := by decide +kernel
theorem dX9_cell_46 : decode cX9_cell 46 = .ok (.aload_n 0, 1) := by decide +kernel
theorem dX9_cell_47 : decode cX9_cell 47 = .ok (.getfield 34, 3) := by decide +kernel
theorem dX9_cell_50 : decode cX9_cell 50 = .ok (.iconst 5, 1) := by decide +kernel
theorem dX9_cell_51 : decode cX9_cell 51 = .ok (.iconst 5, 1) := by decide +kernel
theorem dX9_cell_52 : decode cX9_cell 52 = .ok (.iload_n 1, 1) := by decide +kernel
theorem dX9_cell_53 : decode cX9_cell 53 = .ok (.imul, 1) := by decide +kernel
theorem dX9_cell_54 : decode cX9_cell 54 = .ok (.iadd, 1) := by decide +kernel
theorem dX9_cell_55 : decode cX9_cell 55 = .ok (.iload_n 2, 1) := by decide +kernel
theorem dX9_cell_56 : decode cX9_cell 56 = .ok (.iadd, 1) := by decide +kernel
theorem dX9_cell_57 : decode cX9_cell 57 = .ok (.iaload, 1) := by decide +kernel
theorem dX9_cell_58 : decode cX9_cell 58 = .ok (.istore 4, 2) := by decide +kernel
theorem dX9_cell_60 : decode cX9_cell 60 = .ok (.iload_n 3, 1) := by decide +kernel
theorem dX9_cell_61 : decode cX9_cell 61 = .ok (.tableswitch 68 0 3 #[31, 36, 41, 57], 31) := by decide +kernel
theorem dX9_cell_92 : decode cX9_cell 92 = .ok (.iload 4, 2) := by decide +kernel
theorem dX9_cell_94 : decode cX9_cell 94 = .ok (.iconst 4, 1) := by decide +kernel
theorem dX9_cell_95 : decode cX9_cell 95 = .ok (.idiv, 1) := by decide +kernel
theorem dX9_cell_96 : decode cX9_cell 96 = .ok (.ireturn, 1) := by decide +kernel
theorem dX9_cell_97 : decode cX9_cell 97 = .ok (.iload 4, 2) := by decide +kernel
theorem dX9_cell_99 : decode cX9_cell 99 = .ok (.iconst 4, 1) := by decide +kernel
theorem dX9_cell_100 : decode cX9_cell 100 = .ok (.irem, 1) := by decide +kernel
theorem dX9_cell_101 : decode cX9_cell 101 = .ok (.ireturn, 1) := by decide +kernel
theorem dX9_cell_102 : decode cX9_cell 102 = .ok (.iload_n 2, 1) := by decide +kernel
theorem dX9_cell_103 : decode cX9_cell 103 = .ok (.aload_n 0, 1) := by decide +kernel
theorem dX9_cell_104 : decode cX9_cell 104 = .ok (.getfield 34, 3) := by decide +kernel
theorem dX9_cell_107 : decode cX9_cell 107 = .ok (.iload_n 1, 1) := by decide +kernel
theorem dX9_cell_108 : decode cX9_cell 108 = .ok (.iaload, 1) := by decide +kernel
theorem dX9_cell_109 : decode cX9_cell 109 = .ok (.if_icmp .ge 7, 3) := by decide +kernel
theorem dX9_cell_112 : decode cX9_cell 112 = .ok (.iconst 0, 1) := by decide +kernel
theorem dX9_cell_113 : decode cX9_cell 113 = .ok (.goto 4, 3) := by decide +kernel
theorem dX9_cell_116 : decode cX9_cell 116 = .ok (.iconst 1, 1) := by decide +kernel
theorem dX9_cell_117 : decode cX9_cell 117 = .ok (.ireturn, 1) := by decide +kernel
theorem dX9_cell_118 : decode cX9_cell 118 = .ok (.aload_n 0, 1) := by decide +kernel
theorem dX9_cell_119 : decode cX9_cell 119 = .ok (.aload_n 0, 1) := by decide +kernel
theorem dX9_cell_120 : decode cX9_cell 120 = .ok (.getfield 34, 3) := by decide +kernel
theorem dX9_cell_123 : decode cX9_cell 123 = .ok (.iload_n 1, 1) := by decide +kernel
theorem dX9_cell_124 : decode cX9_cell 124 = .ok (.iload_n 2, 1) := by decide +kernel
theorem dX9_cell_125 : decode cX9_cell 125 = .ok (.invokevirtual 134, 3) := by decide +kernel
theorem dX9_cell_128 : decode cX9_cell 128 = .ok (.ireturn, 1) := by decide +kernel
theorem dX9_cell_129 : decode cX9_cell 129 = .ok (.bipush (-2), 2) := by decide +kernel
theorem dX9_cell_131 : decode cX9_cell 131 = .ok (.ireturn, 1) := by decide +kernel
theorem dX9_countsOf_0 : decode cX9_countsOf 0 = .ok (.iconst 0, 1) := by decide +kernel
theorem dX9_countsOf_1 : decode cX9_countsOf 1 = .ok (.istore_n 3, 1) := by decide +kernel
theorem dX9_countsOf_2 : decode cX9_countsOf 2 = .ok (.iconst 0, 1) := by decide +kernel
theorem dX9_countsOf_3 : decode cX9_countsOf 3 = .ok (.istore 4, 2) := by decide +kernel
theorem dX9_countsOf_5 : decode cX9_countsOf 5 = .ok (.iload 4, 2) := by decide +kernel
theorem dX9_countsOf_7 : decode cX9_countsOf 7 = .ok (.iconst 4, 1) := by decide +kernel
theorem dX9_countsOf_8 : decode cX9_countsOf 8 = .ok (.if_icmp .ge 26, 3) := by decide +kernel
theorem dX9_countsOf_11 : decode cX9_countsOf 11 = .ok (.iload_n 3, 1) := by decide +kernel
theorem dX9_countsOf_12 : decode cX9_countsOf 12 = .ok (.aload_n 0, 1) := by decide +kernel
theorem dX9_countsOf_13 : decode cX9_countsOf 13 = .ok (.aload_n 0, 1) := by decide +kernel
theorem dX9_countsOf_14 : decode cX9_countsOf 14 = .ok (.getfield 34, 3) := by decide +kernel
theorem dX9_countsOf_17 : decode cX9_countsOf 17 = .ok (.iload_n 2, 1) := by decide +kernel
theorem dX9_countsOf_18 : decode cX9_countsOf 18 = .ok (.iload 4, 2) := by decide +kernel
theorem dX9_countsOf_20 : decode cX9_countsOf 20 = .ok (.iconst 1, 1) := by decide +kernel
theorem dX9_countsOf_21 : decode cX9_countsOf 21 = .ok (.iload_n 1, 1) := by decide +kernel
theorem dX9_countsOf_22 : decode cX9_countsOf 22 = .ok (.ishl, 1) := by decide +kernel
theorem dX9_countsOf_23 : decode cX9_countsOf 23 = .ok (.invokevirtual 138, 3) := by decide +kernel
theorem dX9_countsOf_26 : decode cX9_countsOf 26 = .ok (.iadd, 1) := by decide +kernel
theorem dX9_countsOf_27 : decode cX9_countsOf 27 = .ok (.istore_n 3, 1) := by decide +kernel
theorem dX9_countsOf_28 : decode cX9_countsOf 28 = .ok (.iinc 4 1, 3) := by decide +kernel
theorem dX9_countsOf_31 : decode cX9_countsOf 31 = .ok (.goto (-26), 3) := by decide +kernel
theorem dX9_countsOf_34 : decode cX9_countsOf 34 = .ok (.iload_n 3, 1) := by decide +kernel
theorem dX9_countsOf_35 : decode cX9_countsOf 35 = .ok (.ireturn, 1) := by decide +kernel
theorem dX9_kin_0 : decode cX9_kin 0 = .ok (.aload_n 0, 1) := by decide +kernel
theorem dX9_kin_1 : decode cX9_kin 1 = .ok (.iconst 0, 1) := by decide +kernel
theorem dX9_kin_2 : decode cX9_kin 2 = .ok (.putfield 68, 3) := by decide +kernel
theorem dX9_kin_5 : decode cX9_kin 5 = .ok (.iload_n 1, 1) := by decide +kernel
theorem dX9_kin_6 : decode cX9_kin 6 = .ok (.i2l, 1) := by decide +kernel
theorem dX9_kin_7 : decode cX9_kin 7 = .ok (.lconst 0, 1) := by decide +kernel
theorem dX9_kin_8 : decode cX9_kin 8 = .ok (.aload_n 0, 1) := by decide +kernel
theorem dX9_kin_9 : decode cX9_kin 9 = .ok (.getfield 117, 3) := by decide +kernel
theorem dX9_kin_12 : decode cX9_kin 12 = .ok (.iconst 1, 1) := by decide +kernel
theorem dX9_kin_13 : decode cX9_kin 13 = .ok (.isub, 1) := by decide +kernel
theorem dX9_kin_14 : decode cX9_kin 14 = .ok (.i2l, 1) := by decide +kernel
theorem dX9_kin_15 : decode cX9_kin 15 = .ok (.invokestatic 74, 3) := by decide +kernel
theorem dX9_kin_18 : decode cX9_kin 18 = .ok (.ifCond .ne 5, 3) := by decide +kernel
theorem dX9_kin_21 : decode cX9_kin 21 = .ok (.iconst (-1), 1) := by decide +kernel
theorem dX9_kin_22 : decode cX9_kin 22 = .ok (.ireturn, 1) := by decide +kernel
theorem dX9_kin_23 : decode cX9_kin 23 = .ok (.aload_n 0, 1) := by decide +kernel
theorem dX9_kin_24 : decode cX9_kin 24 = .ok (.aload_n 0, 1) := by decide +kernel
theorem dX9_kin_25 : decode cX9_kin 25 = .ok (.getfield 34, 3) := by decide +kernel
theorem dX9_kin_28 : decode cX9_kin 28 = .ok (.invokevirtual 152, 3) := by decide +kernel
theorem dX9_kin_31 : decode cX9_kin 31 = .ok (.iload_n 2, 1) := by decide +kernel
theorem dX9_kin_32 : decode cX9_kin 32 = .ok (.tableswitch 71 0 4 #[36, 43, 50, 57, 64], 36) := by decide +kernel
theorem dX9_kin_68 : decode cX9_kin 68 = .ok (.aload_n 0, 1) := by decide +kernel
theorem dX9_kin_69 : decode cX9_kin 69 = .ok (.getfield 13, 3) := by decide +kernel
theorem dX9_kin_72 : decode cX9_kin 72 = .ok (.iload_n 1, 1) := by decide +kernel
theorem dX9_kin_73 : decode cX9_kin 73 = .ok (.iaload, 1) := by decide +kernel
theorem dX9_kin_74 : decode cX9_kin 74 = .ok (.ireturn, 1) := by decide +kernel
theorem dX9_kin_75 : decode cX9_kin 75 = .ok (.aload_n 0, 1) := by decide +kernel
theorem dX9_kin_76 : decode cX9_kin 76 = .ok (.getfield 56, 3) := by decide +kernel
theorem dX9_kin_79 : decode cX9_kin 79 = .ok (.iload_n 1, 1) := by decide +kernel
theorem dX9_kin_80 : decode cX9_kin 80 = .ok (.iaload, 1) := by decide +kernel
theorem dX9_kin_81 : decode cX9_kin 81 = .ok (.ireturn, 1) := by decide +kernel
theorem dX9_kin_82 : decode cX9_kin 82 = .ok (.aload_n 0, 1) := by decide +kernel
theorem dX9_kin_83 : decode cX9_kin 83 = .ok (.getfield 59, 3) := by decide +kernel
theorem dX9_kin_86 : decode cX9_kin 86 = .ok (.iload_n 1, 1) := by decide +kernel
theorem dX9_kin_87 : decode cX9_kin 87 = .ok (.iaload, 1) := by decide +kernel
theorem dX9_kin_88 : decode cX9_kin 88 = .ok (.ireturn, 1) := by decide +kernel
theorem dX9_kin_89 : decode cX9_kin 89 = .ok (.aload_n 0, 1) := by decide +kernel
theorem dX9_kin_90 : decode cX9_kin 90 = .ok (.iload_n 1, 1) := by decide +kernel
theorem dX9_kin_91 : decode cX9_kin 91 = .ok (.iconst 0, 1) := by decide +kernel
theorem dX9_kin_92 : decode cX9_kin 92 = .ok (.invokevirtual 174, 3) := by decide +kernel
theorem dX9_kin_95 : decode cX9_kin 95 = .ok (.ireturn, 1) := by decide +kernel
theorem dX9_kin_96 : decode cX9_kin 96 = .ok (.aload_n 0, 1) := by decide +kernel
theorem dX9_kin_97 : decode cX9_kin 97 = .ok (.iload_n 1, 1) := by decide +kernel
theorem dX9_kin_98 : decode cX9_kin 98 = .ok (.iconst 1, 1) := by decide +kernel
theorem dX9_kin_99 : decode cX9_kin 99 = .ok (.invokevirtual 174, 3) := by decide +kernel
theorem dX9_kin_102 : decode cX9_kin 102 = .ok (.ireturn, 1) := by decide +kernel
theorem dX9_kin_103 : decode cX9_kin 103 = .ok (.bipush (-2), 2) := by decide +kernel
theorem dX9_kin_105 : decode cX9_kin 105 = .ok (.ireturn, 1) := by decide +kernel
theorem dX9_has_0 : decode cX9_has 0 = .ok (.aload_n 0, 1) := by decide +kernel
theorem dX9_has_1 : decode cX9_has 1 = .ok (.iconst 0, 1) := by decide +kernel
theorem dX9_has_2 : decode cX9_has 2 = .ok (.putfield 68, 3) := by decide +kernel
theorem dX9_has_5 : decode cX9_has 5 = .ok (.iload_n 1, 1) := by decide +kernel
theorem dX9_has_6 : decode cX9_has 6 = .ok (.i2l, 1) := by decide +kernel
theorem dX9_has_7 : decode cX9_has 7 = .ok (.lconst 0, 1) := by decide +kernel
theorem dX9_has_8 : decode cX9_has 8 = .ok (.lconst 1, 1) := by decide +kernel
theorem dX9_has_9 : decode cX9_has 9 = .ok (.invokestatic 74, 3) := by decide +kernel
theorem dX9_has_12 : decode cX9_has 12 = .ok (.ifCond .eq 15, 3) := by decide +kernel
theorem dX9_has_15 : decode cX9_has 15 = .ok (.iload_n 2, 1) := by decide +kernel
theorem dX9_has_16 : decode cX9_has 16 = .ok (.i2l, 1) := by decide +kernel
theorem dX9_has_17 : decode cX9_has 17 = .ok (.lconst 0, 1) := by decide +kernel
theorem dX9_has_18 : decode cX9_has 18 = .ok (.ldc2_w 177, 3) := by decide +kernel
theorem dX9_has_21 : decode cX9_has 21 = .ok (.invokestatic 74, 3) := by decide +kernel
theorem dX9_has_24 : decode cX9_has 24 = .ok (.ifCond .ne 6, 3) := by decide +kernel
theorem dX9_has_27 : decode cX9_has 27 = .ok (.bipush (-2), 2) := by decide +kernel
theorem dX9_has_29 : decode cX9_has 29 = .ok (.ireturn, 1) := by decide +kernel
theorem dX9_has_30 : decode cX9_has 30 = .ok (.aload_n 0, 1) := by decide +kernel
theorem dX9_has_31 : decode cX9_has 31 = .ok (.aload_n 0, 1) := by decide +kernel
theorem dX9_has_32 : decode cX9_has 32 = .ok (.getfield 34, 3) := by decide +kernel
theorem dX9_has_35 : decode cX9_has 35 = .ok (.invokevirtual 152, 3) := by decide +kernel
theorem dX9_has_38 : decode cX9_has 38 = .ok (.aload_n 0, 1) := by decide +kernel
theorem dX9_has_39 : decode cX9_has 39 = .ok (.aload_n 0, 1) := by decide +kernel
theorem dX9_has_40 : decode cX9_has 40 = .ok (.getfield 34, 3) := by decide +kernel
theorem dX9_has_43 : decode cX9_has 43 = .ok (.iload_n 1, 1) := by decide +kernel
theorem dX9_has_44 : decode cX9_has 44 = .ok (.iload_n 2, 1) := by decide +kernel
theorem dX9_has_45 : decode cX9_has 45 = .ok (.bipush 31, 2) := by decide +kernel
theorem dX9_has_47 : decode cX9_has 47 = .ok (.invokevirtual 138, 3) := by decide +kernel
theorem dX9_has_50 : decode cX9_has 50 = .ok (.ireturn, 1) := by decide +kernel
theorem dX9_can_0 : decode cX9_can 0 = .ok (.aload_n 0, 1) := by decide +kernel
theorem dX9_can_1 : decode cX9_can 1 = .ok (.iconst 0, 1) := by decide +kernel
theorem dX9_can_2 : decode cX9_can 2 = .ok (.putfield 68, 3) := by decide +kernel
theorem dX9_can_5 : decode cX9_can 5 = .ok (.iload_n 1, 1) := by decide +kernel
theorem dX9_can_6 : decode cX9_can 6 = .ok (.i2l, 1) := by decide +kernel
theorem dX9_can_7 : decode cX9_can 7 = .ok (.lconst 0, 1) := by decide +kernel
theorem dX9_can_8 : decode cX9_can 8 = .ok (.lconst 1, 1) := by decide +kernel
theorem dX9_can_9 : decode cX9_can 9 = .ok (.invokestatic 74, 3) := by decide +kernel
theorem dX9_can_12 : decode cX9_can 12 = .ok (.ifCond .ne 6, 3) := by decide +kernel
theorem dX9_can_15 : decode cX9_can 15 = .ok (.bipush (-2), 2) := by decide +kernel
theorem dX9_can_17 : decode cX9_can 17 = .ok (.ireturn, 1) := by decide +kernel
theorem dX9_can_18 : decode cX9_can 18 = .ok (.aload_n 0, 1) := by decide +kernel
theorem dX9_can_19 : decode cX9_can 19 = .ok (.aload_n 0, 1) := by decide +kernel
theorem dX9_can_20 : decode cX9_can 20 = .ok (.getfield 34, 3) := by decide +kernel
theorem dX9_can_23 : decode cX9_can 23 = .ok (.invokevirtual 152, 3) := by decide +kernel
theorem dX9_can_26 : decode cX9_can 26 = .ok (.aload_n 0, 1) := by decide +kernel
theorem dX9_can_27 : decode cX9_can 27 = .ok (.aload_n 0, 1) := by decide +kernel
theorem dX9_can_28 : decode cX9_can 28 = .ok (.getfield 34, 3) := by decide +kernel
theorem dX9_can_31 : decode cX9_can 31 = .ok (.iload_n 1, 1) := by decide +kernel
theorem dX9_can_32 : decode cX9_can 32 = .ok (.bipush 31, 2) := by decide +kernel
theorem dX9_can_34 : decode cX9_can 34 = .ok (.invokevirtual 179, 3) := by decide +kernel
theorem dX9_can_37 : decode cX9_can 37 = .ok (.ireturn, 1) := by decide +kernel
theorem dX9_note_0 : decode cX9_note 0 = .ok (.aload_n 0, 1) := by decide +kernel
theorem dX9_note_1 : decode cX9_note 1 = .ok (.getfield 127, 3) := by decide +kernel
theorem dX9_note_4 : decode cX9_note 4 = .ok (.bipush 14, 2) := by decide +kernel
theorem dX9_note_6 : decode cX9_note 6 = .ok (.if_icmp .ne 43, 3) := by decide +kernel
theorem dX9_note_9 : decode cX9_note 9 = .ok (.iconst 0, 1) := by decide +kernel
theorem dX9_note_10 : decode cX9_note 10 = .ok (.istore_n 1, 1) := by decide +kernel
theorem dX9_note_11 : decode cX9_note 11 = .ok (.iload_n 1, 1) := by decide +kernel
theorem dX9_note_12 : decode cX9_note 12 = .ok (.sipush 403, 3) := by decide +kernel
theorem dX9_note_15 : decode cX9_note 15 = .ok (.if_icmp .ge 24, 3) := by decide +kernel
theorem dX9_note_18 : decode cX9_note 18 = .ok (.aload_n 0, 1) := by decide +kernel
theorem dX9_note_19 : decode cX9_note 19 = .ok (.getfield 40, 3) := by decide +kernel
theorem dX9_note_22 : decode cX9_note 22 = .ok (.iload_n 1, 1) := by decide +kernel
theorem dX9_note_23 : decode cX9_note 23 = .ok (.aload_n 0, 1) := by decide +kernel
theorem dX9_note_24 : decode cX9_note 24 = .ok (.getfield 40, 3) := by decide +kernel
theorem dX9_note_27 : decode cX9_note 27 = .ok (.iload_n 1, 1) := by decide +kernel
theorem dX9_note_28 : decode cX9_note 28 = .ok (.bipush 31, 2) := by decide +kernel
theorem dX9_note_30 : decode cX9_note 30 = .ok (.iadd, 1) := by decide +kernel
theorem dX9_note_31 : decode cX9_note 31 = .ok (.iaload, 1) := by decide +kernel
theorem dX9_note_32 : decode cX9_note 32 = .ok (.iastore, 1) := by decide +kernel
theorem dX9_note_33 : decode cX9_note 33 = .ok (.iinc 1 1, 3) := by decide +kernel
theorem dX9_note_36 : decode cX9_note 36 = .ok (.goto (-25), 3) := by decide +kernel
theorem dX9_note_39 : decode cX9_note 39 = .ok (.aload_n 0, 1) := by decide +kernel
theorem dX9_note_40 : decode cX9_note 40 = .ok (.dup, 1) := by decide +kernel
theorem dX9_note_41 : decode cX9_note 41 = .ok (.getfield 127, 3) := by decide +kernel
theorem dX9_note_44 : decode cX9_note 44 = .ok (.iconst 1, 1) := by decide +kernel
theorem dX9_note_45 : decode cX9_note 45 = .ok (.isub, 1) := by decide +kernel
theorem dX9_note_46 : decode cX9_note 46 = .ok (.putfield 127, 3) := by decide +kernel
theorem dX9_note_49 : decode cX9_note 49 = .ok (.iconst 0, 1) := by decide +kernel
theorem dX9_note_50 : decode cX9_note 50 = .ok (.istore_n 1, 1) := by decide +kernel
theorem dX9_note_51 : decode cX9_note 51 = .ok (.iload_n 1, 1) := by decide +kernel
theorem dX9_note_52 : decode cX9_note 52 = .ok (.bipush 31, 2) := by decide +kernel
theorem dX9_note_54 : decode cX9_note 54 = .ok (.if_icmp .ge 29, 3) := by decide +kernel
theorem dX9_note_57 : decode cX9_note 57 = .ok (.aload_n 0, 1) := by decide +kernel
theorem dX9_note_58 : decode cX9_note 58 = .ok (.getfield 40, 3) := by decide +kernel
theorem dX9_note_61 : decode cX9_note 61 = .ok (.bipush 31, 2) := by decide +kernel
theorem dX9_note_63 : decode cX9_note 63 = .ok (.aload_n 0, 1) := by decide +kernel
theorem dX9_note_64 : decode cX9_note 64 = .ok (.getfield 127, 3) := by decide +kernel
theorem dX9_note_67 : decode cX9_note 67 = .ok (.imul, 1) := by decide +kernel
theorem dX9_note_68 : decode cX9_note 68 = .ok (.iload_n 1, 1) := by decide +kernel
theorem dX9_note_69 : decode cX9_note 69 = .ok (.iadd, 1) := by decide +kernel
theorem dX9_note_70 : decode cX9_note 70 = .ok (.aload_n 0, 1) := by decide +kernel
theorem dX9_note_71 : decode cX9_note 71 = .ok (.getfield 34, 3) := by decide +kernel
theorem dX9_note_74 : decode cX9_note 74 = .ok (.iload_n 1, 1) := by decide +kernel
theorem dX9_note_75 : decode cX9_note 75 = .ok (.iaload, 1) := by decide +kernel
theorem dX9_note_76 : decode cX9_note 76 = .ok (.iastore, 1) := by decide +kernel
theorem dX9_note_77 : decode cX9_note 77 = .ok (.iinc 1 1, 3) := by decide +kernel
theorem dX9_note_80 : decode cX9_note 80 = .ok (.goto (-29), 3) := by decide +kernel
theorem dX9_note_83 : decode cX9_note 83 = .ok (.aload_n 0, 1) := by decide +kernel
theorem dX9_note_84 : decode cX9_note 84 = .ok (.dup, 1) := by decide +kernel
theorem dX9_note_85 : decode cX9_note 85 = .ok (.getfield 127, 3) := by decide +kernel
theorem dX9_note_88 : decode cX9_note 88 = .ok (.iconst 1, 1) := by decide +kernel
theorem dX9_note_89 : decode cX9_note 89 = .ok (.iadd, 1) := by decide +kernel
theorem dX9_note_90 : decode cX9_note 90 = .ok (.putfield 127, 3) := by decide +kernel
theorem dX9_note_93 : decode cX9_note 93 = .ok (.return_, 1) := by decide +kernel
theorem dX9_canDraw_0 : decode cX9_canDraw 0 = .ok (.aload_n 1, 1) := by decide +kernel
theorem dX9_canDraw_1 : decode cX9_canDraw 1 = .ok (.iload_n 2, 1) := by decide +kernel
theorem dX9_canDraw_2 : decode cX9_canDraw 2 = .ok (.iaload, 1) := by decide +kernel
theorem dX9_canDraw_3 : decode cX9_canDraw 3 = .ok (.iload_n 3, 1) := by decide +kernel
theorem dX9_canDraw_4 : decode cX9_canDraw 4 = .ok (.ifCond .ne 7, 3) := by decide +kernel
theorem dX9_canDraw_7 : decode cX9_canDraw 7 = .ok (.iconst (-1), 1) := by decide +kernel
theorem dX9_canDraw_8 : decode cX9_canDraw 8 = .ok (.goto 4, 3) := by decide +kernel
theorem dX9_canDraw_11 : decode cX9_canDraw 11 = .ok (.iconst 1, 1) := by decide +kernel
theorem dX9_canDraw_12 : decode cX9_canDraw 12 = .ok (.iadd, 1) := by decide +kernel
theorem dX9_canDraw_13 : decode cX9_canDraw 13 = .ok (.istore 4, 2) := by decide +kernel
theorem dX9_canDraw_15 : decode cX9_canDraw 15 = .ok (.iload 4, 2) := by decide +kernel
theorem dX9_canDraw_17 : decode cX9_canDraw 17 = .ok (.i2l, 1) := by decide +kernel
theorem dX9_canDraw_18 : decode cX9_canDraw 18 = .ok (.lconst 0, 1) := by decide +kernel
theorem dX9_canDraw_19 : decode cX9_canDraw 19 = .ok (.ldc2_w 182, 3) := by decide +kernel
theorem dX9_canDraw_22 : decode cX9_canDraw 22 = .ok (.invokestatic 74, 3) := by decide +kernel
theorem dX9_canDraw_25 : decode cX9_canDraw 25 = .ok (.ifCond .eq 59, 3) := by decide +kernel
theorem dX9_canDraw_28 : decode cX9_canDraw 28 = .ok (.iload_n 2, 1) := by decide +kernel
theorem dX9_canDraw_29 : decode cX9_canDraw 29 = .ok (.ifCond .eq 22, 3) := by decide +kernel
theorem dX9_canDraw_32 : decode cX9_canDraw 32 = .ok (.iload 4, 2) := by decide +kernel
theorem dX9_canDraw_34 : decode cX9_canDraw 34 = .ok (.aload_n 1, 1) := by decide +kernel
theorem dX9_canDraw_35 : decode cX9_canDraw 35 = .ok (.iload_n 2, 1) := by decide +kernel
theorem dX9_canDraw_36 : decode cX9_canDraw 36 = .ok (.iconst 1, 1) := by decide +kernel
theorem dX9_canDraw_37 : decode cX9_canDraw 37 = .ok (.isub, 1) := by decide +kernel
theorem dX9_canDraw_38 : decode cX9_canDraw 38 = .ok (.iaload, 1) := by decide +kernel
theorem dX9_canDraw_39 : decode cX9_canDraw 39 = .ok (.isub, 1) := by decide +kernel
theorem dX9_canDraw_40 : decode cX9_canDraw 40 = .ok (.i2l, 1) := by decide +kernel
theorem dX9_canDraw_41 : decode cX9_canDraw 41 = .ok (.ldc2_w 146, 3) := by decide +kernel
theorem dX9_canDraw_44 : decode cX9_canDraw 44 = .ok (.lconst 1, 1) := by decide +kernel
theorem dX9_canDraw_45 : decode cX9_canDraw 45 = .ok (.invokestatic 74, 3) := by decide +kernel
theorem dX9_canDraw_48 : decode cX9_canDraw 48 = .ok (.ifCond .eq 36, 3) := by decide +kernel
theorem dX9_canDraw_51 : decode cX9_canDraw 51 = .ok (.iload_n 2, 1) := by decide +kernel
theorem dX9_canDraw_52 : decode cX9_canDraw 52 = .ok (.aload_n 0, 1) := by decide +kernel
theorem dX9_canDraw_53 : decode cX9_canDraw 53 = .ok (.getfield 114, 3) := by decide +kernel
theorem dX9_canDraw_56 : decode cX9_canDraw 56 = .ok (.iconst 1, 1) := by decide +kernel
theorem dX9_canDraw_57 : decode cX9_canDraw 57 = .ok (.isub, 1) := by decide +kernel
theorem dX9_canDraw_58 : decode cX9_canDraw 58 = .ok (.if_icmp .eq 22, 3) := by decide +kernel
theorem dX9_canDraw_61 : decode cX9_canDraw 61 = .ok (.iload 4, 2) := by decide +kernel
theorem dX9_canDraw_63 : decode cX9_canDraw 63 = .ok (.aload_n 1, 1) := by decide +kernel
theorem dX9_canDraw_64 : decode cX9_canDraw 64 = .ok (.iload_n 2, 1) := by decide +kernel
theorem dX9_canDraw_65 : decode cX9_canDraw 65 = .ok (.iconst 1, 1) := by decide +kernel
theorem dX9_canDraw_66 : decode cX9_canDraw 66 = .ok (.iadd, 1) := by decide +kernel
theorem dX9_canDraw_67 : decode cX9_canDraw 67 = .ok (.iaload, 1) := by decide +kernel
theorem dX9_canDraw_68 : decode cX9_canDraw 68 = .ok (.isub, 1) := by decide +kernel
theorem dX9_canDraw_69 : decode cX9_canDraw 69 = .ok (.i2l, 1) := by decide +kernel
theorem dX9_canDraw_70 : decode cX9_canDraw 70 = .ok (.ldc2_w 146, 3) := by decide +kernel
theorem dX9_canDraw_73 : decode cX9_canDraw 73 = .ok (.lconst 1, 1) := by decide +kernel
theorem dX9_canDraw_74 : decode cX9_canDraw 74 = .ok (.invokestatic 74, 3) := by decide +kernel
theorem dX9_canDraw_77 : decode cX9_canDraw 77 = .ok (.ifCond .eq 7, 3) := by decide +kernel
theorem dX9_canDraw_80 : decode cX9_canDraw 80 = .ok (.iconst 1, 1) := by decide +kernel
theorem dX9_canDraw_81 : decode cX9_canDraw 81 = .ok (.goto 4, 3) := by decide +kernel
theorem dX9_canDraw_84 : decode cX9_canDraw 84 = .ok (.iconst 0, 1) := by decide +kernel
theorem dX9_canDraw_85 : decode cX9_canDraw 85 = .ok (.ireturn, 1) := by decide +kernel
theorem dX9_draw_0 : decode cX9_draw 0 = .ok (.aload_n 0, 1) := by decide +kernel
theorem dX9_draw_1 : decode cX9_draw 1 = .ok (.iconst 0, 1) := by decide +kernel
theorem dX9_draw_2 : decode cX9_draw 2 = .ok (.putfield 68, 3) := by decide +kernel
theorem dX9_draw_5 : decode cX9_draw 5 = .ok (.iload_n 1, 1) := by decide +kernel
theorem dX9_draw_6 : decode cX9_draw 6 = .ok (.i2l, 1) := by decide +kernel
theorem dX9_draw_7 : decode cX9_draw 7 = .ok (.lconst 0, 1) := by decide +kernel
theorem dX9_draw_8 : decode cX9_draw 8 = .ok (.aload_n 0, 1) := by decide +kernel
theorem dX9_draw_9 : decode cX9_draw 9 = .ok (.getfield 114, 3) := by decide +kernel
theorem dX9_draw_12 : decode cX9_draw 12 = .ok (.iconst 1, 1) := by decide +kernel
theorem dX9_draw_13 : decode cX9_draw 13 = .ok (.isub, 1) := by decide +kernel
theorem dX9_draw_14 : decode cX9_draw 14 = .ok (.i2l, 1) := by decide +kernel
theorem dX9_draw_15 : decode cX9_draw 15 = .ok (.invokestatic 74, 3) := by decide +kernel
theorem dX9_draw_18 : decode cX9_draw 18 = .ok (.ifCond .ne 5, 3) := by decide +kernel
theorem dX9_draw_21 : decode cX9_draw 21 = .ok (.iconst (-1), 1) := by decide +kernel
theorem dX9_draw_22 : decode cX9_draw 22 = .ok (.ireturn, 1) := by decide +kernel
theorem dX9_draw_23 : decode cX9_draw 23 = .ok (.iload_n 2, 1) := by decide +kernel
theorem dX9_draw_24 : decode cX9_draw 24 = .ok (.i2l, 1) := by decide +kernel
theorem dX9_draw_25 : decode cX9_draw 25 = .ok (.lconst 0, 1) := by decide +kernel
theorem dX9_draw_26 : decode cX9_draw 26 = .ok (.lconst 1, 1) := by decide +kernel
theorem dX9_draw_27 : decode cX9_draw 27 = .ok (.invokestatic 74, 3) := by decide +kernel
theorem dX9_draw_30 : decode cX9_draw 30 = .ok (.ifCond .ne 6, 3) := by decide +kernel
theorem dX9_draw_33 : decode cX9_draw 33 = .ok (.bipush (-2), 2) := by decide +kernel
theorem dX9_draw_35 : decode cX9_draw 35 = .ok (.ireturn, 1) := by decide +kernel
theorem dX9_draw_36 : decode cX9_draw 36 = .ok (.aload_n 0, 1) := by decide +kernel
theorem dX9_draw_37 : decode cX9_draw 37 = .ok (.aload_n 0, 1) := by decide +kernel
theorem dX9_draw_38 : decode cX9_draw 38 = .ok (.getfield 34, 3) := by decide +kernel
theorem dX9_draw_41 : decode cX9_draw 41 = .ok (.iload_n 1, 1) := by decide +kernel
theorem dX9_draw_42 : decode cX9_draw 42 = .ok (.iload_n 2, 1) := by decide +kernel
theorem dX9_draw_43 : decode cX9_draw 43 = .ok (.invokevirtual 184, 3) := by decide +kernel
theorem dX9_draw_46 : decode cX9_draw 46 = .ok (.ifCond .ne 6, 3) := by decide +kernel
theorem dX9_draw_49 : decode cX9_draw 49 = .ok (.bipush (-3), 2) := by decide +kernel
theorem dX9_draw_51 : decode cX9_draw 51 = .ok (.ireturn, 1) := by decide +kernel
theorem dX9_draw_52 : decode cX9_draw 52 = .ok (.aload_n 0, 1) := by decide +kernel
theorem dX9_draw_53 : decode cX9_draw 53 = .ok (.invokevirtual 188, 3) := by decide +kernel
theorem dX9_draw_56 : decode cX9_draw 56 = .ok (.aload_n 0, 1) := by decide +kernel
theorem dX9_draw_57 : decode cX9_draw 57 = .ok (.getfield 34, 3) := by decide +kernel
theorem dX9_draw_60 : decode cX9_draw 60 = .ok (.iload_n 1, 1) := by decide +kernel
theorem dX9_draw_61 : decode cX9_draw 61 = .ok (.dup2, 1) := by decide +kernel
theorem dX9_draw_62 : decode cX9_draw 62 = .ok (.iaload, 1) := by decide +kernel
theorem dX9_draw_63 : decode cX9_draw 63 = .ok (.iload_n 2, 1) := by decide +kernel
theorem dX9_draw_64 : decode cX9_draw 64 = .ok (.ifCond .ne 7, 3) := by decide +kernel
theorem dX9_draw_67 : decode cX9_draw 67 = .ok (.iconst (-1), 1) := by decide +kernel
theorem dX9_draw_68 : decode cX9_draw 68 = .ok (.goto 4, 3) := by decide +kernel
theorem dX9_draw_71 : decode cX9_draw 71 = .ok (.iconst 1, 1) := by decide +kernel
theorem dX9_draw_72 : decode cX9_draw 72 = .ok (.iadd, 1) := by decide +kernel
theorem dX9_draw_73 : decode cX9_draw 73 = .ok (.iastore, 1) := by decide +kernel
theorem dX9_draw_74 : decode cX9_draw 74 = .ok (.aload_n 0, 1) := by decide +kernel
theorem dX9_draw_75 : decode cX9_draw 75 = .ok (.getfield 34, 3) := by decide +kernel
theorem dX9_draw_78 : decode cX9_draw 78 = .ok (.iload_n 1, 1) := by decide +kernel
theorem dX9_draw_79 : decode cX9_draw 79 = .ok (.iaload, 1) := by decide +kernel
theorem dX9_draw_80 : decode cX9_draw 80 = .ok (.ireturn, 1) := by decide +kernel
theorem dX9_swap_0 : decode cX9_swap 0 = .ok (.iconst 5, 1) := by decide +kernel
theorem dX9_swap_1 : decode cX9_swap 1 = .ok (.iconst 5, 1) := by decide +kernel
theorem dX9_swap_2 : decode cX9_swap 2 = .ok (.iload_n 1, 1) := by decide +kernel
theorem dX9_swap_3 : decode cX9_swap 3 = .ok (.imul, 1) := by decide +kernel
theorem dX9_swap_4 : decode cX9_swap 4 = .ok (.iadd, 1) := by decide +kernel
theorem dX9_swap_5 : decode cX9_swap 5 = .ok (.aload_n 0, 1) := by decide +kernel
theorem dX9_swap_6 : decode cX9_swap 6 = .ok (.iload_n 1, 1) := by decide +kernel
theorem dX9_swap_7 : decode cX9_swap 7 = .ok (.iaload, 1) := by decide +kernel
theorem dX9_swap_8 : decode cX9_swap 8 = .ok (.iadd, 1) := by decide +kernel
theorem dX9_swap_9 : decode cX9_swap 9 = .ok (.istore_n 2, 1) := by decide +kernel
theorem dX9_swap_10 : decode cX9_swap 10 = .ok (.aload_n 0, 1) := by decide +kernel
theorem dX9_swap_11 : decode cX9_swap 11 = .ok (.iload_n 2, 1) := by decide +kernel
theorem dX9_swap_12 : decode cX9_swap 12 = .ok (.iaload, 1) := by decide +kernel
theorem dX9_swap_13 : decode cX9_swap 13 = .ok (.istore_n 3, 1) := by decide +kernel
theorem dX9_swap_14 : decode cX9_swap 14 = .ok (.aload_n 0, 1) := by decide +kernel
theorem dX9_swap_15 : decode cX9_swap 15 = .ok (.iload_n 2, 1) := by decide +kernel
theorem dX9_swap_16 : decode cX9_swap 16 = .ok (.aload_n 0, 1) := by decide +kernel
theorem dX9_swap_17 : decode cX9_swap 17 = .ok (.iload_n 2, 1) := by decide +kernel
theorem dX9_swap_18 : decode cX9_swap 18 = .ok (.iconst 1, 1) := by decide +kernel
theorem dX9_swap_19 : decode cX9_swap 19 = .ok (.isub, 1) := by decide +kernel
theorem dX9_swap_20 : decode cX9_swap 20 = .ok (.iaload, 1) := by decide +kernel
theorem dX9_swap_21 : decode cX9_swap 21 = .ok (.iastore, 1) := by decide +kernel
theorem dX9_swap_22 : decode cX9_swap 22 = .ok (.aload_n 0, 1) := by decide +kernel
theorem dX9_swap_23 : decode cX9_swap 23 = .ok (.iload_n 2, 1) := by decide +kernel
theorem dX9_swap_24 : decode cX9_swap 24 = .ok (.iconst 1, 1) := by decide +kernel
theorem dX9_swap_25 : decode cX9_swap 25 = .ok (.isub, 1) := by decide +kernel
theorem dX9_swap_26 : decode cX9_swap 26 = .ok (.iload_n 3, 1) := by decide +kernel
theorem dX9_swap_27 : decode cX9_swap 27 = .ok (.iastore, 1) := by decide +kernel
theorem dX9_swap_28 : decode cX9_swap 28 = .ok (.return_, 1) := by decide +kernel
theorem dX9_change_0 : decode cX9_change 0 = .ok (.aload_n 0, 1) := by decide +kernel
theorem dX9_change_1 : decode cX9_change 1 = .ok (.iconst 0, 1) := by decide +kernel
theorem dX9_change_2 : decode cX9_change 2 = .ok (.putfield 68, 3) := by decide +kernel
theorem dX9_change_5 : decode cX9_change 5 = .ok (.iload_n 1, 1) := by decide +kernel
theorem dX9_change_6 : decode cX9_change 6 = .ok (.i2l, 1) := by decide +kernel
theorem dX9_change_7 : decode cX9_change 7 = .ok (.lconst 0, 1) := by decide +kernel
theorem dX9_change_8 : decode cX9_change 8 = .ok (.aload_n 0, 1) := by decide +kernel
theorem dX9_change_9 : decode cX9_change 9 = .ok (.getfield 114, 3) := by decide +kernel
theorem dX9_change_12 : decode cX9_change 12 = .ok (.iconst 1, 1) := by decide +kernel
theorem dX9_change_13 : decode cX9_change 13 = .ok (.isub, 1) := by decide +kernel
theorem dX9_change_14 : decode cX9_change 14 = .ok (.i2l, 1) := by decide +kernel
theorem dX9_change_15 : decode cX9_change 15 = .ok (.invokestatic 74, 3) := by decide +kernel
theorem dX9_change_18 : decode cX9_change 18 = .ok (.ifCond .ne 5, 3) := by decide +kernel
theorem dX9_change_21 : decode cX9_change 21 = .ok (.iconst (-1), 1) := by decide +kernel
theorem dX9_change_22 : decode cX9_change 22 = .ok (.ireturn, 1) := by decide +kernel
theorem dX9_change_23 : decode cX9_change 23 = .ok (.aload_n 0, 1) := by decide +kernel
theorem dX9_change_24 : decode cX9_change 24 = .ok (.getfield 34, 3) := by decide +kernel
theorem dX9_change_27 : decode cX9_change 27 = .ok (.iload_n 1, 1) := by decide +kernel
theorem dX9_change_28 : decode cX9_change 28 = .ok (.iaload, 1) := by decide +kernel
theorem dX9_change_29 : decode cX9_change 29 = .ok (.i2l, 1) := by decide +kernel
theorem dX9_change_30 : decode cX9_change 30 = .ok (.lconst 1, 1) := by decide +kernel
theorem dX9_change_31 : decode cX9_change 31 = .ok (.ldc2_w 172, 3) := by decide +kernel
theorem dX9_change_34 : decode cX9_change 34 = .ok (.invokestatic 74, 3) := by decide +kernel
theorem dX9_change_37 : decode cX9_change 37 = .ok (.ifCond .ne 6, 3) := by decide +kernel
theorem dX9_change_40 : decode cX9_change 40 = .ok (.bipush (-3), 2) := by decide +kernel
theorem dX9_change_42 : decode cX9_change 42 = .ok (.ireturn, 1) := by decide +kernel
theorem dX9_change_43 : decode cX9_change 43 = .ok (.aload_n 0, 1) := by decide +kernel
theorem dX9_change_44 : decode cX9_change 44 = .ok (.invokevirtual 188, 3) := by decide +kernel
theorem dX9_change_47 : decode cX9_change 47 = .ok (.aload_n 0, 1) := by decide +kernel
theorem dX9_change_48 : decode cX9_change 48 = .ok (.getfield 34, 3) := by decide +kernel
theorem dX9_change_51 : decode cX9_change 51 = .ok (.iload_n 1, 1) := by decide +kernel
theorem dX9_change_52 : decode cX9_change 52 = .ok (.invokestatic 191, 3) := by decide +kernel
theorem dX9_change_55 : decode cX9_change 55 = .ok (.aload_n 0, 1) := by decide +kernel
theorem dX9_change_56 : decode cX9_change 56 = .ok (.getfield 34, 3) := by decide +kernel
theorem dX9_change_59 : decode cX9_change 59 = .ok (.iconst 5, 1) := by decide +kernel
theorem dX9_change_60 : decode cX9_change 60 = .ok (.iconst 5, 1) := by decide +kernel
theorem dX9_change_61 : decode cX9_change 61 = .ok (.iload_n 1, 1) := by decide +kernel
theorem dX9_change_62 : decode cX9_change 62 = .ok (.imul, 1) := by decide +kernel
theorem dX9_change_63 : decode cX9_change 63 = .ok (.iadd, 1) := by decide +kernel
theorem dX9_change_64 : decode cX9_change 64 = .ok (.aload_n 0, 1) := by decide +kernel
theorem dX9_change_65 : decode cX9_change 65 = .ok (.getfield 34, 3) := by decide +kernel
theorem dX9_change_68 : decode cX9_change 68 = .ok (.iload_n 1, 1) := by decide +kernel
theorem dX9_change_69 : decode cX9_change 69 = .ok (.iaload, 1) := by decide +kernel
theorem dX9_change_70 : decode cX9_change 70 = .ok (.iadd, 1) := by decide +kernel
theorem dX9_change_71 : decode cX9_change 71 = .ok (.iconst 1, 1) := by decide +kernel
theorem dX9_change_72 : decode cX9_change 72 = .ok (.isub, 1) := by decide +kernel
theorem dX9_change_73 : decode cX9_change 73 = .ok (.iaload, 1) := by decide +kernel
theorem dX9_change_74 : decode cX9_change 74 = .ok (.iconst 4, 1) := by decide +kernel
theorem dX9_change_75 : decode cX9_change 75 = .ok (.idiv, 1) := by decide +kernel
theorem dX9_change_76 : decode cX9_change 76 = .ok (.ireturn, 1) := by decide +kernel
theorem dX9_rejoin_0 : decode cX9_rejoin 0 = .ok (.aload_n 1, 1) := by decide +kernel
theorem dX9_rejoin_1 : decode cX9_rejoin 1 = .ok (.bipush 30, 2) := by decide +kernel
theorem dX9_rejoin_3 : decode cX9_rejoin 3 = .ok (.dup2, 1) := by decide +kernel
theorem dX9_rejoin_4 : decode cX9_rejoin 4 = .ok (.iaload, 1) := by decide +kernel
theorem dX9_rejoin_5 : decode cX9_rejoin 5 = .ok (.aload_n 0, 1) := by decide +kernel
theorem dX9_rejoin_6 : decode cX9_rejoin 6 = .ok (.aload_n 1, 1) := by decide +kernel
theorem dX9_rejoin_7 : decode cX9_rejoin 7 = .ok (.invokevirtual 160, 3) := by decide +kernel
theorem dX9_rejoin_10 : decode cX9_rejoin 10 = .ok (.iadd, 1) := by decide +kernel
theorem dX9_rejoin_11 : decode cX9_rejoin 11 = .ok (.iastore, 1) := by decide +kernel
theorem dX9_rejoin_12 : decode cX9_rejoin 12 = .ok (.iconst 0, 1) := by decide +kernel
theorem dX9_rejoin_13 : decode cX9_rejoin 13 = .ok (.istore_n 2, 1) := by decide +kernel
theorem dX9_rejoin_14 : decode cX9_rejoin 14 = .ok (.iload_n 2, 1) := by decide +kernel
theorem dX9_rejoin_15 : decode cX9_rejoin 15 = .ok (.aload_n 0, 1) := by decide +kernel
theorem dX9_rejoin_16 : decode cX9_rejoin 16 = .ok (.getfield 114, 3) := by decide +kernel
theorem dX9_rejoin_19 : decode cX9_rejoin 19 = .ok (.if_icmp .ge 13, 3) := by decide +kernel
theorem dX9_rejoin_22 : decode cX9_rejoin 22 = .ok (.aload_n 1, 1) := by decide +kernel
theorem dX9_rejoin_23 : decode cX9_rejoin 23 = .ok (.iload_n 2, 1) := by decide +kernel
theorem dX9_rejoin_24 : decode cX9_rejoin 24 = .ok (.iconst 2, 1) := by decide +kernel
theorem dX9_rejoin_25 : decode cX9_rejoin 25 = .ok (.iastore, 1) := by decide +kernel
theorem dX9_rejoin_26 : decode cX9_rejoin 26 = .ok (.iinc 2 1, 3) := by decide +kernel
theorem dX9_rejoin_29 : decode cX9_rejoin 29 = .ok (.goto (-15), 3) := by decide +kernel
theorem dX9_rejoin_32 : decode cX9_rejoin 32 = .ok (.return_, 1) := by decide +kernel
theorem dX9_join_0 : decode cX9_join 0 = .ok (.aload_n 0, 1) := by decide +kernel
theorem dX9_join_1 : decode cX9_join 1 = .ok (.iconst 0, 1) := by decide +kernel
theorem dX9_join_2 : decode cX9_join 2 = .ok (.putfield 68, 3) := by decide +kernel
theorem dX9_join_5 : decode cX9_join 5 = .ok (.aload_n 0, 1) := by decide +kernel
theorem dX9_join_6 : decode cX9_join 6 = .ok (.invokevirtual 188, 3) := by decide +kernel
theorem dX9_join_9 : decode cX9_join 9 = .ok (.aload_n 0, 1) := by decide +kernel
theorem dX9_join_10 : decode cX9_join 10 = .ok (.aload_n 0, 1) := by decide +kernel
theorem dX9_join_11 : decode cX9_join 11 = .ok (.getfield 34, 3) := by decide +kernel
theorem dX9_join_14 : decode cX9_join 14 = .ok (.invokevirtual 195, 3) := by decide +kernel
theorem dX9_join_17 : decode cX9_join 17 = .ok (.aload_n 0, 1) := by decide +kernel
theorem dX9_join_18 : decode cX9_join 18 = .ok (.getfield 34, 3) := by decide +kernel
theorem dX9_join_21 : decode cX9_join 21 = .ok (.bipush 30, 2) := by decide +kernel
theorem dX9_join_23 : decode cX9_join 23 = .ok (.iaload, 1) := by decide +kernel
theorem dX9_join_24 : decode cX9_join 24 = .ok (.ireturn, 1) := by decide +kernel
theorem dX9_undo_0 : decode cX9_undo 0 = .ok (.aload_n 0, 1) := by decide +kernel
theorem dX9_undo_1 : decode cX9_undo 1 = .ok (.iconst 0, 1) := by decide +kernel
theorem dX9_undo_2 : decode cX9_undo 2 = .ok (.putfield 68, 3) := by decide +kernel
theorem dX9_undo_5 : decode cX9_undo 5 = .ok (.aload_n 0, 1) := by decide +kernel
theorem dX9_undo_6 : decode cX9_undo 6 = .ok (.getfield 127, 3) := by decide +kernel
theorem dX9_undo_9 : decode cX9_undo 9 = .ok (.ifCond .ne 6, 3) := by decide +kernel
theorem dX9_undo_12 : decode cX9_undo 12 = .ok (.bipush (-3), 2) := by decide +kernel
theorem dX9_undo_14 : decode cX9_undo 14 = .ok (.ireturn, 1) := by decide +kernel
theorem dX9_undo_15 : decode cX9_undo 15 = .ok (.aload_n 0, 1) := by decide +kernel
theorem dX9_undo_16 : decode cX9_undo 16 = .ok (.dup, 1) := by decide +kernel
theorem dX9_undo_17 : decode cX9_undo 17 = .ok (.getfield 127, 3) := by decide +kernel
theorem dX9_undo_20 : decode cX9_undo 20 = .ok (.iconst 1, 1) := by decide +kernel
theorem dX9_undo_21 : decode cX9_undo 21 = .ok (.isub, 1) := by decide +kernel
theorem dX9_undo_22 : decode cX9_undo 22 = .ok (.putfield 127, 3) := by decide +kernel
theorem dX9_undo_25 : decode cX9_undo 25 = .ok (.iconst 0, 1) := by decide +kernel
theorem dX9_undo_26 : decode cX9_undo 26 = .ok (.istore_n 1, 1) := by decide +kernel
theorem dX9_undo_27 : decode cX9_undo 27 = .ok (.iload_n 1, 1) := by decide +kernel
theorem dX9_undo_28 : decode cX9_undo 28 = .ok (.bipush 31, 2) := by decide +kernel
theorem dX9_undo_30 : decode cX9_undo 30 = .ok (.if_icmp .ge 29, 3) := by decide +kernel
theorem dX9_undo_33 : decode cX9_undo 33 = .ok (.aload_n 0, 1) := by decide +kernel
theorem dX9_undo_34 : decode cX9_undo 34 = .ok (.getfield 34, 3) := by decide +kernel
theorem dX9_undo_37 : decode cX9_undo 37 = .ok (.iload_n 1, 1) := by decide +kernel
theorem dX9_undo_38 : decode cX9_undo 38 = .ok (.aload_n 0, 1) := by decide +kernel
theorem dX9_undo_39 : decode cX9_undo 39 = .ok (.getfield 40, 3) := by decide +kernel
theorem dX9_undo_42 : decode cX9_undo 42 = .ok (.bipush 31, 2) := by decide +kernel
theorem dX9_undo_44 : decode cX9_undo 44 = .ok (.aload_n 0, 1) := by decide +kernel
theorem dX9_undo_45 : decode cX9_undo 45 = .ok (.getfield 127, 3) := by decide +kernel
theorem dX9_undo_48 : decode cX9_undo 48 = .ok (.imul, 1) := by decide +kernel
theorem dX9_undo_49 : decode cX9_undo 49 = .ok (.iload_n 1, 1) := by decide +kernel
theorem dX9_undo_50 : decode cX9_undo 50 = .ok (.iadd, 1) := by decide +kernel
theorem dX9_undo_51 : decode cX9_undo 51 = .ok (.iaload, 1) := by decide +kernel
theorem dX9_undo_52 : decode cX9_undo 52 = .ok (.iastore, 1) := by decide +kernel
theorem dX9_undo_53 : decode cX9_undo 53 = .ok (.iinc 1 1, 3) := by decide +kernel
theorem dX9_undo_56 : decode cX9_undo 56 = .ok (.goto (-29), 3) := by decide +kernel
theorem dX9_undo_59 : decode cX9_undo 59 = .ok (.aload_n 0, 1) := by decide +kernel
theorem dX9_undo_60 : decode cX9_undo 60 = .ok (.getfield 127, 3) := by decide +kernel
theorem dX9_undo_63 : decode cX9_undo 63 = .ok (.ireturn, 1) := by decide +kernel
theorem dX9_best_0 : decode cX9_best 0 = .ok (.aload_n 0, 1) := by decide +kernel
theorem dX9_best_1 : decode cX9_best 1 = .ok (.iconst 0, 1) := by decide +kernel
theorem dX9_best_2 : decode cX9_best 2 = .ok (.putfield 68, 3) := by decide +kernel
theorem dX9_best_5 : decode cX9_best 5 = .ok (.iload_n 1, 1) := by decide +kernel
theorem dX9_best_6 : decode cX9_best 6 = .ok (.i2l, 1) := by decide +kernel
theorem dX9_best_7 : decode cX9_best 7 = .ok (.lconst 0, 1) := by decide +kernel
theorem dX9_best_8 : decode cX9_best 8 = .ok (.lconst 1, 1) := by decide +kernel
theorem dX9_best_9 : decode cX9_best 9 = .ok (.invokestatic 74, 3) := by decide +kernel
theorem dX9_best_12 : decode cX9_best 12 = .ok (.ifCond .ne 6, 3) := by decide +kernel
theorem dX9_best_15 : decode cX9_best 15 = .ok (.bipush (-2), 2) := by decide +kernel
theorem dX9_best_17 : decode cX9_best 17 = .ok (.ireturn, 1) := by decide +kernel
theorem dX9_best_18 : decode cX9_best 18 = .ok (.bipush (-9), 2) := by decide +kernel
theorem dX9_best_20 : decode cX9_best 20 = .ok (.istore_n 2, 1) := by decide +kernel
theorem dX9_best_21 : decode cX9_best 21 = .ok (.bipush (-9), 2) := by decide +kernel
theorem dX9_best_23 : decode cX9_best 23 = .ok (.istore_n 3, 1) := by decide +kernel
theorem dX9_best_24 : decode cX9_best 24 = .ok (.iconst 0, 1) := by decide +kernel
theorem dX9_best_25 : decode cX9_best 25 = .ok (.istore 4, 2) := by decide +kernel
theorem dX9_best_27 : decode cX9_best 27 = .ok (.iconst 0, 1) := by decide +kernel
theorem dX9_best_28 : decode cX9_best 28 = .ok (.istore 5, 2) := by decide +kernel
theorem dX9_best_30 : decode cX9_best 30 = .ok (.iload 5, 2) := by decide +kernel
theorem dX9_best_32 : decode cX9_best 32 = .ok (.bipush 6, 2) := by decide +kernel
theorem dX9_best_34 : decode cX9_best 34 = .ok (.aload_n 0, 1) := by decide +kernel
theorem dX9_best_35 : decode cX9_best 35 = .ok (.getfield 114, 3) := by decide +kernel
theorem dX9_best_38 : decode cX9_best 38 = .ok (.invokestatic 142, 3) := by decide +kernel
theorem dX9_best_41 : decode cX9_best 41 = .ok (.if_icmp .ge 101, 3) := by decide +kernel
theorem dX9_best_44 : decode cX9_best 44 = .ok (.aload_n 0, 1) := by decide +kernel
theorem dX9_best_45 : decode cX9_best 45 = .ok (.iload 5, 2) := by decide +kernel
theorem dX9_best_47 : decode cX9_best 47 = .ok (.invokevirtual 148, 3) := by decide +kernel
theorem dX9_best_50 : decode cX9_best 50 = .ok (.ifCond .eq 86, 3) := by decide +kernel
theorem dX9_best_53 : decode cX9_best 53 = .ok (.aload_n 0, 1) := by decide +kernel
theorem dX9_best_54 : decode cX9_best 54 = .ok (.aload_n 0, 1) := by decide +kernel
theorem dX9_best_55 : decode cX9_best 55 = .ok (.getfield 37, 3) := by decide +kernel
theorem dX9_best_58 : decode cX9_best 58 = .ok (.invokevirtual 152, 3) := by decide +kernel
theorem dX9_best_61 : decode cX9_best 61 = .ok (.aload_n 0, 1) := by decide +kernel
theorem dX9_best_62 : decode cX9_best 62 = .ok (.aload_n 0, 1) := by decide +kernel
theorem dX9_best_63 : decode cX9_best 63 = .ok (.getfield 37, 3) := by decide +kernel
theorem dX9_best_66 : decode cX9_best 66 = .ok (.iconst 0, 1) := by decide +kernel
theorem dX9_best_67 : decode cX9_best 67 = .ok (.bipush 31, 2) := by decide +kernel
theorem dX9_best_69 : decode cX9_best 69 = .ok (.invokevirtual 179, 3) := by decide +kernel
theorem dX9_best_72 : decode cX9_best 72 = .ok (.invokestatic 198, 3) := by decide +kernel
theorem dX9_best_75 : decode cX9_best 75 = .ok (.aload_n 0, 1) := by decide +kernel
theorem dX9_best_76 : decode cX9_best 76 = .ok (.aload_n 0, 1) := by decide +kernel
theorem dX9_best_77 : decode cX9_best 77 = .ok (.getfield 37, 3) := by decide +kernel
theorem dX9_best_80 : decode cX9_best 80 = .ok (.iconst 1, 1) := by decide +kernel
theorem dX9_best_81 : decode cX9_best 81 = .ok (.bipush 31, 2) := by decide +kernel
theorem dX9_best_83 : decode cX9_best 83 = .ok (.invokevirtual 179, 3) := by decide +kernel
theorem dX9_best_86 : decode cX9_best 86 = .ok (.invokestatic 198, 3) := by decide +kernel
theorem dX9_best_89 : decode cX9_best 89 = .ok (.iadd, 1) := by decide +kernel
theorem dX9_best_90 : decode cX9_best 90 = .ok (.istore 6, 2) := by decide +kernel
theorem dX9_best_92 : decode cX9_best 92 = .ok (.aload_n 0, 1) := by decide +kernel
theorem dX9_best_93 : decode cX9_best 93 = .ok (.invokevirtual 163, 3) := by decide +kernel
theorem dX9_best_96 : decode cX9_best 96 = .ok (.invokestatic 198, 3) := by decide +kernel
theorem dX9_best_99 : decode cX9_best 99 = .ok (.istore 7, 2) := by decide +kernel
theorem dX9_best_101 : decode cX9_best 101 = .ok (.iload 6, 2) := by decide +kernel
theorem dX9_best_103 : decode cX9_best 103 = .ok (.iload_n 3, 1) := by decide +kernel
theorem dX9_best_104 : decode cX9_best 104 = .ok (.if_icmp .gt 16, 3) := by decide +kernel
theorem dX9_best_107 : decode cX9_best 107 = .ok (.iload 6, 2) := by decide +kernel
theorem dX9_best_109 : decode cX9_best 109 = .ok (.iload_n 3, 1) := by decide +kernel
theorem dX9_best_110 : decode cX9_best 110 = .ok (.if_icmp .ne 26, 3) := by decide +kernel
theorem dX9_best_113 : decode cX9_best 113 = .ok (.iload 7, 2) := by decide +kernel
theorem dX9_best_115 : decode cX9_best 115 = .ok (.iload 4, 2) := by decide +kernel
theorem dX9_best_117 : decode cX9_best 117 = .ok (.if_icmp .ge 19, 3) := by decide +kernel
theorem dX9_best_120 : decode cX9_best 120 = .ok (.iload 6, 2) := by decide +kernel
theorem dX9_best_122 : decode cX9_best 122 = .ok (.istore_n 3, 1) := by decide +kernel
theorem dX9_best_123 : decode cX9_best 123 = .ok (.iload 7, 2) := by decide +kernel
theorem dX9_best_125 : decode cX9_best 125 = .ok (.istore 4, 2) := by decide +kernel
theorem dX9_best_127 : decode cX9_best 127 = .ok (.aload_n 0, 1) := by decide +kernel
theorem dX9_best_128 : decode cX9_best 128 = .ok (.aload_n 0, 1) := by decide +kernel
theorem dX9_best_129 : decode cX9_best 129 = .ok (.getfield 37, 3) := by decide +kernel
theorem dX9_best_132 : decode cX9_best 132 = .ok (.invokevirtual 156, 3) := by decide +kernel
theorem dX9_best_135 : decode cX9_best 135 = .ok (.istore_n 2, 1) := by decide +kernel
theorem dX9_best_136 : decode cX9_best 136 = .ok (.iinc 5 1, 3) := by decide +kernel
theorem dX9_best_139 : decode cX9_best 139 = .ok (.goto (-109), 3) := by decide +kernel
theorem dX9_best_142 : decode cX9_best 142 = .ok (.iload_n 1, 1) := by decide +kernel
theorem dX9_best_143 : decode cX9_best 143 = .ok (.ifCond .ne 7, 3) := by decide +kernel
theorem dX9_best_146 : decode cX9_best 146 = .ok (.iload_n 2, 1) := by decide +kernel
theorem dX9_best_147 : decode cX9_best 147 = .ok (.goto 4, 3) := by decide +kernel
theorem dX9_best_150 : decode cX9_best 150 = .ok (.iload_n 3, 1) := by decide +kernel
theorem dX9_best_151 : decode cX9_best 151 = .ok (.ireturn, 1) := by decide +kernel
theorem dX9_fewest_0 : decode cX9_fewest 0 = .ok (.aload_n 0, 1) := by decide +kernel
theorem dX9_fewest_1 : decode cX9_fewest 1 = .ok (.iconst 0, 1) := by decide +kernel
theorem dX9_fewest_2 : decode cX9_fewest 2 = .ok (.putfield 68, 3) := by decide +kernel
theorem dX9_fewest_5 : decode cX9_fewest 5 = .ok (.iload_n 1, 1) := by decide +kernel
theorem dX9_fewest_6 : decode cX9_fewest 6 = .ok (.i2l, 1) := by decide +kernel
theorem dX9_fewest_7 : decode cX9_fewest 7 = .ok (.lconst 0, 1) := by decide +kernel
theorem dX9_fewest_8 : decode cX9_fewest 8 = .ok (.aload_n 0, 1) := by decide +kernel
theorem dX9_fewest_9 : decode cX9_fewest 9 = .ok (.getfield 120, 3) := by decide +kernel
theorem dX9_fewest_12 : decode cX9_fewest 12 = .ok (.iconst 1, 1) := by decide +kernel
theorem dX9_fewest_13 : decode cX9_fewest 13 = .ok (.isub, 1) := by decide +kernel
theorem dX9_fewest_14 : decode cX9_fewest 14 = .ok (.i2l, 1) := by decide +kernel
theorem dX9_fewest_15 : decode cX9_fewest 15 = .ok (.invokestatic 74, 3) := by decide +kernel
theorem dX9_fewest_18 : decode cX9_fewest 18 = .ok (.ifCond .ne 5, 3) := by decide +kernel
theorem dX9_fewest_21 : decode cX9_fewest 21 = .ok (.iconst (-1), 1) := by decide +kernel
theorem dX9_fewest_22 : decode cX9_fewest 22 = .ok (.ireturn, 1) := by decide +kernel
theorem dX9_fewest_23 : decode cX9_fewest 23 = .ok (.iload_n 2, 1) := by decide +kernel
theorem dX9_fewest_24 : decode cX9_fewest 24 = .ok (.i2l, 1) := by decide +kernel
theorem dX9_fewest_25 : decode cX9_fewest 25 = .ok (.lconst 0, 1) := by decide +kernel
theorem dX9_fewest_26 : decode cX9_fewest 26 = .ok (.lconst 1, 1) := by decide +kernel
theorem dX9_fewest_27 : decode cX9_fewest 27 = .ok (.invokestatic 74, 3) := by decide +kernel
theorem dX9_fewest_30 : decode cX9_fewest 30 = .ok (.ifCond .ne 6, 3) := by decide +kernel
theorem dX9_fewest_33 : decode cX9_fewest 33 = .ok (.bipush (-2), 2) := by decide +kernel
theorem dX9_fewest_35 : decode cX9_fewest 35 = .ok (.ireturn, 1) := by decide +kernel
theorem dX9_fewest_36 : decode cX9_fewest 36 = .ok (.bipush (-9), 2) := by decide +kernel
theorem dX9_fewest_38 : decode cX9_fewest 38 = .ok (.istore_n 3, 1) := by decide +kernel
theorem dX9_fewest_39 : decode cX9_fewest 39 = .ok (.bipush (-9), 2) := by decide +kernel
theorem dX9_fewest_41 : decode cX9_fewest 41 = .ok (.istore 4, 2) := by decide +kernel
theorem dX9_fewest_43 : decode cX9_fewest 43 = .ok (.iconst 0, 1) := by decide +kernel
theorem dX9_fewest_44 : decode cX9_fewest 44 = .ok (.istore 5, 2) := by decide +kernel
theorem dX9_fewest_46 : decode cX9_fewest 46 = .ok (.iload 5, 2) := by decide +kernel
theorem dX9_fewest_48 : decode cX9_fewest 48 = .ok (.bipush 6, 2) := by decide +kernel
theorem dX9_fewest_50 : decode cX9_fewest 50 = .ok (.aload_n 0, 1) := by decide +kernel
theorem dX9_fewest_51 : decode cX9_fewest 51 = .ok (.getfield 114, 3) := by decide +kernel
theorem dX9_fewest_54 : decode cX9_fewest 54 = .ok (.invokestatic 142, 3) := by decide +kernel
theorem dX9_fewest_57 : decode cX9_fewest 57 = .ok (.if_icmp .ge 92, 3) := by decide +kernel
theorem dX9_fewest_60 : decode cX9_fewest 60 = .ok (.aload_n 0, 1) := by decide +kernel
theorem dX9_fewest_61 : decode cX9_fewest 61 = .ok (.iload 5, 2) := by decide +kernel
theorem dX9_fewest_63 : decode cX9_fewest 63 = .ok (.invokevirtual 148, 3) := by decide +kernel
theorem dX9_fewest_66 : decode cX9_fewest 66 = .ok (.ifCond .eq 77, 3) := by decide +kernel
theorem dX9_fewest_69 : decode cX9_fewest 69 = .ok (.aload_n 0, 1) := by decide +kernel
theorem dX9_fewest_70 : decode cX9_fewest 70 = .ok (.aload_n 0, 1) := by decide +kernel
theorem dX9_fewest_71 : decode cX9_fewest 71 = .ok (.getfield 37, 3) := by decide +kernel
theorem dX9_fewest_74 : decode cX9_fewest 74 = .ok (.invokevirtual 152, 3) := by decide +kernel
theorem dX9_fewest_77 : decode cX9_fewest 77 = .ok (.aload_n 0, 1) := by decide +kernel
theorem dX9_fewest_78 : decode cX9_fewest 78 = .ok (.invokevirtual 163, 3) := by decide +kernel
theorem dX9_fewest_81 : decode cX9_fewest 81 = .ok (.invokestatic 198, 3) := by decide +kernel
theorem dX9_fewest_84 : decode cX9_fewest 84 = .ok (.istore 6, 2) := by decide +kernel
theorem dX9_fewest_86 : decode cX9_fewest 86 = .ok (.aload_n 0, 1) := by decide +kernel
theorem dX9_fewest_87 : decode cX9_fewest 87 = .ok (.aload_n 0, 1) := by decide +kernel
theorem dX9_fewest_88 : decode cX9_fewest 88 = .ok (.getfield 37, 3) := by decide +kernel
theorem dX9_fewest_91 : decode cX9_fewest 91 = .ok (.iconst 0, 1) := by decide +kernel
theorem dX9_fewest_92 : decode cX9_fewest 92 = .ok (.bipush 31, 2) := by decide +kernel
theorem dX9_fewest_94 : decode cX9_fewest 94 = .ok (.invokevirtual 179, 3) := by decide +kernel
theorem dX9_fewest_97 : decode cX9_fewest 97 = .ok (.aload_n 0, 1) := by decide +kernel
theorem dX9_fewest_98 : decode cX9_fewest 98 = .ok (.aload_n 0, 1) := by decide +kernel
theorem dX9_fewest_99 : decode cX9_fewest 99 = .ok (.getfield 37, 3) := by decide +kernel
theorem dX9_fewest_102 : decode cX9_fewest 102 = .ok (.iconst 1, 1) := by decide +kernel
theorem dX9_fewest_103 : decode cX9_fewest 103 = .ok (.bipush 31, 2) := by decide +kernel
theorem dX9_fewest_105 : decode cX9_fewest 105 = .ok (.invokevirtual 179, 3) := by decide +kernel
theorem dX9_fewest_108 : decode cX9_fewest 108 = .ok (.iand, 1) := by decide +kernel
theorem dX9_fewest_109 : decode cX9_fewest 109 = .ok (.iload_n 1, 1) := by decide +kernel
theorem dX9_fewest_110 : decode cX9_fewest 110 = .ok (.invokestatic 130, 3) := by decide +kernel
theorem dX9_fewest_113 : decode cX9_fewest 113 = .ok (.ifCond .eq 30, 3) := by decide +kernel
theorem dX9_fewest_116 : decode cX9_fewest 116 = .ok (.iload 4, 2) := by decide +kernel
theorem dX9_fewest_118 : decode cX9_fewest 118 = .ok (.bipush (-9), 2) := by decide +kernel
theorem dX9_fewest_120 : decode cX9_fewest 120 = .ok (.if_icmp .eq 10, 3) := by decide +kernel
theorem dX9_fewest_123 : decode cX9_fewest 123 = .ok (.iload 6, 2) := by decide +kernel
theorem dX9_fewest_125 : decode cX9_fewest 125 = .ok (.iload 4, 2) := by decide +kernel
theorem dX9_fewest_127 : decode cX9_fewest 127 = .ok (.if_icmp .ge 16, 3) := by decide +kernel
theorem dX9_fewest_130 : decode cX9_fewest 130 = .ok (.iload 6, 2) := by decide +kernel
theorem dX9_fewest_132 : decode cX9_fewest 132 = .ok (.istore 4, 2) := by decide +kernel
theorem dX9_fewest_134 : decode cX9_fewest 134 = .ok (.aload_n 0, 1) := by decide +kernel
theorem dX9_fewest_135 : decode cX9_fewest 135 = .ok (.aload_n 0, 1) := by decide +kernel
theorem dX9_fewest_136 : decode cX9_fewest 136 = .ok (.getfield 37, 3) := by decide +kernel
theorem dX9_fewest_139 : decode cX9_fewest 139 = .ok (.invokevirtual 156, 3) := by decide +kernel
theorem dX9_fewest_142 : decode cX9_fewest 142 = .ok (.istore_n 3, 1) := by decide +kernel
theorem dX9_fewest_143 : decode cX9_fewest 143 = .ok (.iinc 5 1, 3) := by decide +kernel
theorem dX9_fewest_146 : decode cX9_fewest 146 = .ok (.goto (-100), 3) := by decide +kernel
theorem dX9_fewest_149 : decode cX9_fewest 149 = .ok (.iload_n 2, 1) := by decide +kernel
theorem dX9_fewest_150 : decode cX9_fewest 150 = .ok (.ifCond .ne 7, 3) := by decide +kernel
theorem dX9_fewest_153 : decode cX9_fewest 153 = .ok (.iload_n 3, 1) := by decide +kernel
theorem dX9_fewest_154 : decode cX9_fewest 154 = .ok (.goto 5, 3) := by decide +kernel
theorem dX9_fewest_157 : decode cX9_fewest 157 = .ok (.iload 4, 2) := by decide +kernel
theorem dX9_fewest_159 : decode cX9_fewest 159 = .ok (.ireturn, 1) := by decide +kernel
theorem dX9_worthOf_0 : decode cX9_worthOf 0 = .ok (.iconst 0, 1) := by decide +kernel
theorem dX9_worthOf_1 : decode cX9_worthOf 1 = .ok (.istore_n 3, 1) := by decide +kernel
theorem dX9_worthOf_2 : decode cX9_worthOf 2 = .ok (.iconst 0, 1) := by decide +kernel
theorem dX9_worthOf_3 : decode cX9_worthOf 3 = .ok (.istore 4, 2) := by decide +kernel
theorem dX9_worthOf_5 : decode cX9_worthOf 5 = .ok (.iload 4, 2) := by decide +kernel
theorem dX9_worthOf_7 : decode cX9_worthOf 7 = .ok (.iconst 4, 1) := by decide +kernel
theorem dX9_worthOf_8 : decode cX9_worthOf 8 = .ok (.if_icmp .ge 40, 3) := by decide +kernel
theorem dX9_worthOf_11 : decode cX9_worthOf 11 = .ok (.iload_n 3, 1) := by decide +kernel
theorem dX9_worthOf_12 : decode cX9_worthOf 12 = .ok (.iload_n 2, 1) := by decide +kernel
theorem dX9_worthOf_13 : decode cX9_worthOf 13 = .ok (.bipush 10, 2) := by decide +kernel
theorem dX9_worthOf_15 : decode cX9_worthOf 15 = .ok (.iconst 3, 1) := by decide +kernel
theorem dX9_worthOf_16 : decode cX9_worthOf 16 = .ok (.iload 4, 2) := by decide +kernel
theorem dX9_worthOf_18 : decode cX9_worthOf 18 = .ok (.isub, 1) := by decide +kernel
theorem dX9_worthOf_19 : decode cX9_worthOf 19 = .ok (.invokestatic 142, 3) := by decide +kernel
theorem dX9_worthOf_22 : decode cX9_worthOf 22 = .ok (.idiv, 1) := by decide +kernel
theorem dX9_worthOf_23 : decode cX9_worthOf 23 = .ok (.bipush 10, 2) := by decide +kernel
theorem dX9_worthOf_25 : decode cX9_worthOf 25 = .ok (.irem, 1) := by decide +kernel
theorem dX9_worthOf_26 : decode cX9_worthOf 26 = .ok (.aload_n 0, 1) := by decide +kernel
theorem dX9_worthOf_27 : decode cX9_worthOf 27 = .ok (.aload_n 0, 1) := by decide +kernel
theorem dX9_worthOf_28 : decode cX9_worthOf 28 = .ok (.getfield 37, 3) := by decide +kernel
theorem dX9_worthOf_31 : decode cX9_worthOf 31 = .ok (.iload_n 1, 1) := by decide +kernel
theorem dX9_worthOf_32 : decode cX9_worthOf 32 = .ok (.iload 4, 2) := by decide +kernel
theorem dX9_worthOf_34 : decode cX9_worthOf 34 = .ok (.bipush 31, 2) := by decide +kernel
theorem dX9_worthOf_36 : decode cX9_worthOf 36 = .ok (.invokevirtual 138, 3) := by decide +kernel
theorem dX9_worthOf_39 : decode cX9_worthOf 39 = .ok (.imul, 1) := by decide +kernel
theorem dX9_worthOf_40 : decode cX9_worthOf 40 = .ok (.iadd, 1) := by decide +kernel
theorem dX9_worthOf_41 : decode cX9_worthOf 41 = .ok (.istore_n 3, 1) := by decide +kernel
theorem dX9_worthOf_42 : decode cX9_worthOf 42 = .ok (.iinc 4 1, 3) := by decide +kernel
theorem dX9_worthOf_45 : decode cX9_worthOf 45 = .ok (.goto (-40), 3) := by decide +kernel
theorem dX9_worthOf_48 : decode cX9_worthOf 48 = .ok (.iload_n 3, 1) := by decide +kernel
theorem dX9_worthOf_49 : decode cX9_worthOf 49 = .ok (.ireturn, 1) := by decide +kernel
theorem dX9_fair_0 : decode cX9_fair 0 = .ok (.aload_n 0, 1) := by decide +kernel
theorem dX9_fair_1 : decode cX9_fair 1 = .ok (.iconst 0, 1) := by decide +kernel
theorem dX9_fair_2 : decode cX9_fair 2 = .ok (.putfield 68, 3) := by decide +kernel
theorem dX9_fair_5 : decode cX9_fair 5 = .ok (.iload_n 1, 1) := by decide +kernel
theorem dX9_fair_6 : decode cX9_fair 6 = .ok (.i2l, 1) := by decide +kernel
theorem dX9_fair_7 : decode cX9_fair 7 = .ok (.lconst 0, 1) := by decide +kernel
theorem dX9_fair_8 : decode cX9_fair 8 = .ok (.ldc2_w 202, 3) := by decide +kernel
theorem dX9_fair_11 : decode cX9_fair 11 = .ok (.invokestatic 74, 3) := by decide +kernel
theorem dX9_fair_14 : decode cX9_fair 14 = .ok (.ifCond .eq 25, 3) := by decide +kernel
theorem dX9_fair_17 : decode cX9_fair 17 = .ok (.iload_n 2, 1) := by decide +kernel
theorem dX9_fair_18 : decode cX9_fair 18 = .ok (.i2l, 1) := by decide +kernel
theorem dX9_fair_19 : decode cX9_fair 19 = .ok (.lconst 0, 1) := by decide +kernel
theorem dX9_fair_20 : decode cX9_fair 20 = .ok (.ldc2_w 202, 3) := by decide +kernel
theorem dX9_fair_23 : decode cX9_fair 23 = .ok (.invokestatic 74, 3) := by decide +kernel
theorem dX9_fair_26 : decode cX9_fair 26 = .ok (.ifCond .eq 13, 3) := by decide +kernel
theorem dX9_fair_29 : decode cX9_fair 29 = .ok (.iload_n 3, 1) := by decide +kernel
theorem dX9_fair_30 : decode cX9_fair 30 = .ok (.i2l, 1) := by decide +kernel
theorem dX9_fair_31 : decode cX9_fair 31 = .ok (.lconst 0, 1) := by decide +kernel
theorem dX9_fair_32 : decode cX9_fair 32 = .ok (.lconst 1, 1) := by decide +kernel
theorem dX9_fair_33 : decode cX9_fair 33 = .ok (.invokestatic 74, 3) := by decide +kernel
theorem dX9_fair_36 : decode cX9_fair 36 = .ok (.ifCond .ne 6, 3) := by decide +kernel
theorem dX9_fair_39 : decode cX9_fair 39 = .ok (.bipush (-2), 2) := by decide +kernel
theorem dX9_fair_41 : decode cX9_fair 41 = .ok (.ireturn, 1) := by decide +kernel
theorem dX9_fair_42 : decode cX9_fair 42 = .ok (.iconst 0, 1) := by decide +kernel
theorem dX9_fair_43 : decode cX9_fair 43 = .ok (.istore 4, 2) := by decide +kernel
theorem dX9_fair_45 : decode cX9_fair 45 = .ok (.bipush (-9), 2) := by decide +kernel
theorem dX9_fair_47 : decode cX9_fair 47 = .ok (.istore 5, 2) := by decide +kernel
theorem dX9_fair_49 : decode cX9_fair 49 = .ok (.iconst 0, 1) := by decide +kernel
theorem dX9_fair_50 : decode cX9_fair 50 = .ok (.istore 6, 2) := by decide +kernel
theorem dX9_fair_52 : decode cX9_fair 52 = .ok (.iload 6, 2) := by decide +kernel
theorem dX9_fair_54 : decode cX9_fair 54 = .ok (.bipush 6, 2) := by decide +kernel
theorem dX9_fair_56 : decode cX9_fair 56 = .ok (.aload_n 0, 1) := by decide +kernel
theorem dX9_fair_57 : decode cX9_fair 57 = .ok (.getfield 114, 3) := by decide +kernel
theorem dX9_fair_60 : decode cX9_fair 60 = .ok (.invokestatic 142, 3) := by decide +kernel
theorem dX9_fair_63 : decode cX9_fair 63 = .ok (.if_icmp .ge 103, 3) := by decide +kernel
theorem dX9_fair_66 : decode cX9_fair 66 = .ok (.aload_n 0, 1) := by decide +kernel
theorem dX9_fair_67 : decode cX9_fair 67 = .ok (.iload 6, 2) := by decide +kernel
theorem dX9_fair_69 : decode cX9_fair 69 = .ok (.invokevirtual 148, 3) := by decide +kernel
theorem dX9_fair_72 : decode cX9_fair 72 = .ok (.ifCond .eq 88, 3) := by decide +kernel
theorem dX9_fair_75 : decode cX9_fair 75 = .ok (.aload_n 0, 1) := by decide +kernel
theorem dX9_fair_76 : decode cX9_fair 76 = .ok (.aload_n 0, 1) := by decide +kernel
theorem dX9_fair_77 : decode cX9_fair 77 = .ok (.getfield 37, 3) := by decide +kernel
theorem dX9_fair_80 : decode cX9_fair 80 = .ok (.invokevirtual 152, 3) := by decide +kernel
theorem dX9_fair_83 : decode cX9_fair 83 = .ok (.aload_n 0, 1) := by decide +kernel
theorem dX9_fair_84 : decode cX9_fair 84 = .ok (.iconst 0, 1) := by decide +kernel
theorem dX9_fair_85 : decode cX9_fair 85 = .ok (.iload_n 1, 1) := by decide +kernel
theorem dX9_fair_86 : decode cX9_fair 86 = .ok (.invokevirtual 204, 3) := by decide +kernel
theorem dX9_fair_89 : decode cX9_fair 89 = .ok (.aload_n 0, 1) := by decide +kernel
theorem dX9_fair_90 : decode cX9_fair 90 = .ok (.iconst 1, 1) := by decide +kernel
theorem dX9_fair_91 : decode cX9_fair 91 = .ok (.iload_n 1, 1) := by decide +kernel
theorem dX9_fair_92 : decode cX9_fair 92 = .ok (.invokevirtual 204, 3) := by decide +kernel
theorem dX9_fair_95 : decode cX9_fair 95 = .ok (.if_icmp .lt 22, 3) := by decide +kernel
theorem dX9_fair_98 : decode cX9_fair 98 = .ok (.aload_n 0, 1) := by decide +kernel
theorem dX9_fair_99 : decode cX9_fair 99 = .ok (.iconst 1, 1) := by decide +kernel
theorem dX9_fair_100 : decode cX9_fair 100 = .ok (.iload_n 2, 1) := by decide +kernel
theorem dX9_fair_101 : decode cX9_fair 101 = .ok (.invokevirtual 204, 3) := by decide +kernel
theorem dX9_fair_104 : decode cX9_fair 104 = .ok (.aload_n 0, 1) := by decide +kernel
theorem dX9_fair_105 : decode cX9_fair 105 = .ok (.iconst 0, 1) := by decide +kernel
theorem dX9_fair_106 : decode cX9_fair 106 = .ok (.iload_n 2, 1) := by decide +kernel
theorem dX9_fair_107 : decode cX9_fair 107 = .ok (.invokevirtual 204, 3) := by decide +kernel
theorem dX9_fair_110 : decode cX9_fair 110 = .ok (.if_icmp .lt 7, 3) := by decide +kernel
theorem dX9_fair_113 : decode cX9_fair 113 = .ok (.iconst 1, 1) := by decide +kernel
theorem dX9_fair_114 : decode cX9_fair 114 = .ok (.goto 4, 3) := by decide +kernel
theorem dX9_fair_117 : decode cX9_fair 117 = .ok (.iconst 0, 1) := by decide +kernel
theorem dX9_fair_118 : decode cX9_fair 118 = .ok (.istore 7, 2) := by decide +kernel
theorem dX9_fair_120 : decode cX9_fair 120 = .ok (.iload 7, 2) := by decide +kernel
theorem dX9_fair_122 : decode cX9_fair 122 = .ok (.ifCond .eq 19, 3) := by decide +kernel
theorem dX9_fair_125 : decode cX9_fair 125 = .ok (.iload 4, 2) := by decide +kernel
theorem dX9_fair_127 : decode cX9_fair 127 = .ok (.ifCond .ne 14, 3) := by decide +kernel
theorem dX9_fair_130 : decode cX9_fair 130 = .ok (.aload_n 0, 1) := by decide +kernel
theorem dX9_fair_131 : decode cX9_fair 131 = .ok (.aload_n 0, 1) := by decide +kernel
theorem dX9_fair_132 : decode cX9_fair 132 = .ok (.getfield 37, 3) := by decide +kernel
theorem dX9_fair_135 : decode cX9_fair 135 = .ok (.invokevirtual 156, 3) := by decide +kernel
theorem dX9_fair_138 : decode cX9_fair 138 = .ok (.goto 5, 3) := by decide +kernel
theorem dX9_fair_141 : decode cX9_fair 141 = .ok (.iload 5, 2) := by decide +kernel
theorem dX9_fair_143 : decode cX9_fair 143 = .ok (.istore 5, 2) := by decide +kernel
theorem dX9_fair_145 : decode cX9_fair 145 = .ok (.iload 4, 2) := by decide +kernel
theorem dX9_fair_147 : decode cX9_fair 147 = .ok (.iload 7, 2) := by decide +kernel
theorem dX9_fair_149 : decode cX9_fair 149 = .ok (.ifCond .eq 7, 3) := by decide +kernel
theorem dX9_fair_152 : decode cX9_fair 152 = .ok (.iconst 1, 1) := by decide +kernel
theorem dX9_fair_153 : decode cX9_fair 153 = .ok (.goto 4, 3) := by decide +kernel
theorem dX9_fair_156 : decode cX9_fair 156 = .ok (.iconst 0, 1) := by decide +kernel
theorem dX9_fair_157 : decode cX9_fair 157 = .ok (.iadd, 1) := by decide +kernel
theorem dX9_fair_158 : decode cX9_fair 158 = .ok (.istore 4, 2) := by decide +kernel
theorem dX9_fair_160 : decode cX9_fair 160 = .ok (.iinc 6 1, 3) := by decide +kernel
theorem dX9_fair_163 : decode cX9_fair 163 = .ok (.goto (-111), 3) := by decide +kernel
theorem dX9_fair_166 : decode cX9_fair 166 = .ok (.iload_n 3, 1) := by decide +kernel
theorem dX9_fair_167 : decode cX9_fair 167 = .ok (.ifCond .ne 8, 3) := by decide +kernel
theorem dX9_fair_170 : decode cX9_fair 170 = .ok (.iload 4, 2) := by decide +kernel
theorem dX9_fair_172 : decode cX9_fair 172 = .ok (.goto 5, 3) := by decide +kernel
theorem dX9_fair_175 : decode cX9_fair 175 = .ok (.iload 5, 2) := by decide +kernel
theorem dX9_fair_177 : decode cX9_fair 177 = .ok (.ireturn, 1) := by decide +kernel
theorem dX9_does_0 : decode cX9_does 0 = .ok (.iload_n 1, 1) := by decide +kernel
theorem dX9_does_1 : decode cX9_does 1 = .ok (.bipush 10, 2) := by decide +kernel
theorem dX9_does_3 : decode cX9_does 3 = .ok (.idiv, 1) := by decide +kernel
theorem dX9_does_4 : decode cX9_does 4 = .ok (.istore_n 2, 1) := by decide +kernel
theorem dX9_does_5 : decode cX9_does 5 = .ok (.iload_n 1, 1) := by decide +kernel
theorem dX9_does_6 : decode cX9_does 6 = .ok (.bipush 10, 2) := by decide +kernel
theorem dX9_does_8 : decode cX9_does 8 = .ok (.irem, 1) := by decide +kernel
theorem dX9_does_9 : decode cX9_does 9 = .ok (.istore_n 3, 1) := by decide +kernel
theorem dX9_does_10 : decode cX9_does 10 = .ok (.iload_n 1, 1) := by decide +kernel
theorem dX9_does_11 : decode cX9_does 11 = .ok (.bipush 30, 2) := by decide +kernel
theorem dX9_does_13 : decode cX9_does 13 = .ok (.if_icmp .ne 13, 3) := by decide +kernel
theorem dX9_does_16 : decode cX9_does 16 = .ok (.aload_n 0, 1) := by decide +kernel
theorem dX9_does_17 : decode cX9_does 17 = .ok (.aload_n 0, 1) := by decide +kernel
theorem dX9_does_18 : decode cX9_does 18 = .ok (.getfield 37, 3) := by decide +kernel
theorem dX9_does_21 : decode cX9_does 21 = .ok (.invokevirtual 195, 3) := by decide +kernel
theorem dX9_does_24 : decode cX9_does 24 = .ok (.iconst 1, 1) := by decide +kernel
theorem dX9_does_25 : decode cX9_does 25 = .ok (.ireturn, 1) := by decide +kernel
theorem dX9_does_26 : decode cX9_does 26 = .ok (.iload_n 3, 1) := by decide +kernel
theorem dX9_does_27 : decode cX9_does 27 = .ok (.aload_n 0, 1) := by decide +kernel
theorem dX9_does_28 : decode cX9_does 28 = .ok (.getfield 114, 3) := by decide +kernel
theorem dX9_does_31 : decode cX9_does 31 = .ok (.if_icmp .ge 8, 3) := by decide +kernel
theorem dX9_does_34 : decode cX9_does 34 = .ok (.iload_n 2, 1) := by decide +kernel
theorem dX9_does_35 : decode cX9_does 35 = .ok (.iconst 2, 1) := by decide +kernel
theorem dX9_does_36 : decode cX9_does 36 = .ok (.if_icmp .le 5, 3) := by decide +kernel
theorem dX9_does_39 : decode cX9_does 39 = .ok (.iconst 0, 1) := by decide +kernel
theorem dX9_does_40 : decode cX9_does 40 = .ok (.ireturn, 1) := by decide +kernel
theorem dX9_does_41 : decode cX9_does 41 = .ok (.iload_n 2, 1) := by decide +kernel
theorem dX9_does_42 : decode cX9_does 42 = .ok (.iconst 2, 1) := by decide +kernel
theorem dX9_does_43 : decode cX9_does 43 = .ok (.if_icmp .ne 35, 3) := by decide +kernel
theorem dX9_does_46 : decode cX9_does 46 = .ok (.aload_n 0, 1) := by decide +kernel
theorem dX9_does_47 : decode cX9_does 47 = .ok (.getfield 37, 3) := by decide +kernel
theorem dX9_does_50 : decode cX9_does 50 = .ok (.iload_n 3, 1) := by decide +kernel
theorem dX9_does_51 : decode cX9_does 51 = .ok (.iaload, 1) := by decide +kernel
theorem dX9_does_52 : decode cX9_does 52 = .ok (.i2l, 1) := by decide +kernel
theorem dX9_does_53 : decode cX9_does 53 = .ok (.lconst 1, 1) := by decide +kernel
theorem dX9_does_54 : decode cX9_does 54 = .ok (.ldc2_w 172, 3) := by decide +kernel
theorem dX9_does_57 : decode cX9_does 57 = .ok (.invokestatic 74, 3) := by decide +kernel
theorem dX9_does_60 : decode cX9_does 60 = .ok (.istore 4, 2) := by decide +kernel
theorem dX9_does_62 : decode cX9_does 62 = .ok (.iload 4, 2) := by decide +kernel
theorem dX9_does_64 : decode cX9_does 64 = .ok (.ifCond .eq 11, 3) := by decide +kernel
theorem dX9_does_67 : decode cX9_does 67 = .ok (.aload_n 0, 1) := by decide +kernel
theorem dX9_does_68 : decode cX9_does 68 = .ok (.getfield 37, 3) := by decide +kernel
theorem dX9_does_71 : decode cX9_does 71 = .ok (.iload_n 3, 1) := by decide +kernel
theorem dX9_does_72 : decode cX9_does 72 = .ok (.invokestatic 191, 3) := by decide +kernel
theorem dX9_does_75 : decode cX9_does 75 = .ok (.iload 4, 2) := by decide +kernel
theorem dX9_does_77 : decode cX9_does 77 = .ok (.ireturn, 1) := by decide +kernel
theorem dX9_does_78 : decode cX9_does 78 = .ok (.aload_n 0, 1) := by decide +kernel
theorem dX9_does_79 : decode cX9_does 79 = .ok (.aload_n 0, 1) := by decide +kernel
theorem dX9_does_80 : decode cX9_does 80 = .ok (.getfield 37, 3) := by decide +kernel
theorem dX9_does_83 : decode cX9_does 83 = .ok (.iload_n 3, 1) := by decide +kernel
theorem dX9_does_84 : decode cX9_does 84 = .ok (.iload_n 2, 1) := by decide +kernel
theorem dX9_does_85 : decode cX9_does 85 = .ok (.invokevirtual 184, 3) := by decide +kernel
theorem dX9_does_88 : decode cX9_does 88 = .ok (.istore 4, 2) := by decide +kernel
theorem dX9_does_90 : decode cX9_does 90 = .ok (.aload_n 0, 1) := by decide +kernel
theorem dX9_does_91 : decode cX9_does 91 = .ok (.getfield 37, 3) := by decide +kernel
theorem dX9_does_94 : decode cX9_does 94 = .ok (.iload_n 3, 1) := by decide +kernel
theorem dX9_does_95 : decode cX9_does 95 = .ok (.dup2, 1) := by decide +kernel
theorem dX9_does_96 : decode cX9_does 96 = .ok (.iaload, 1) := by decide +kernel
theorem dX9_does_97 : decode cX9_does 97 = .ok (.iload 4, 2) := by decide +kernel
theorem dX9_does_99 : decode cX9_does 99 = .ok (.ifCond .eq 11, 3) := by decide +kernel
theorem dX9_does_102 : decode cX9_does 102 = .ok (.iconst 2, 1) := by decide +kernel
theorem dX9_does_103 : decode cX9_does 103 = .ok (.iload_n 2, 1) := by decide +kernel
theorem dX9_does_104 : decode cX9_does 104 = .ok (.imul, 1) := by decide +kernel
theorem dX9_does_105 : decode cX9_does 105 = .ok (.iconst 1, 1) := by decide +kernel
theorem dX9_does_106 : decode cX9_does 106 = .ok (.isub, 1) := by decide +kernel
theorem dX9_does_107 : decode cX9_does 107 = .ok (.goto 4, 3) := by decide +kernel
theorem dX9_does_110 : decode cX9_does 110 = .ok (.iconst 0, 1) := by decide +kernel
theorem dX9_does_111 : decode cX9_does 111 = .ok (.iadd, 1) := by decide +kernel
theorem dX9_does_112 : decode cX9_does 112 = .ok (.iastore, 1) := by decide +kernel
theorem dX9_does_113 : decode cX9_does 113 = .ok (.iload 4, 2) := by decide +kernel
theorem dX9_does_115 : decode cX9_does 115 = .ok (.ireturn, 1) := by decide +kernel
theorem dX9_judge_0 : decode cX9_judge 0 = .ok (.aload_n 0, 1) := by decide +kernel
theorem dX9_judge_1 : decode cX9_judge 1 = .ok (.iconst 0, 1) := by decide +kernel
theorem dX9_judge_2 : decode cX9_judge 2 = .ok (.putfield 68, 3) := by decide +kernel
theorem dX9_judge_5 : decode cX9_judge 5 = .ok (.iload_n 1, 1) := by decide +kernel
theorem dX9_judge_6 : decode cX9_judge 6 = .ok (.i2l, 1) := by decide +kernel
theorem dX9_judge_7 : decode cX9_judge 7 = .ok (.lconst 1, 1) := by decide +kernel
theorem dX9_judge_8 : decode cX9_judge 8 = .ok (.ldc2_w 172, 3) := by decide +kernel
theorem dX9_judge_11 : decode cX9_judge 11 = .ok (.invokestatic 74, 3) := by decide +kernel
theorem dX9_judge_14 : decode cX9_judge 14 = .ok (.ifCond .eq 21, 3) := by decide +kernel
theorem dX9_judge_17 : decode cX9_judge 17 = .ok (.iload_n 2, 1) := by decide +kernel
theorem dX9_judge_18 : decode cX9_judge 18 = .ok (.i2l, 1) := by decide +kernel
theorem dX9_judge_19 : decode cX9_judge 19 = .ok (.lconst 0, 1) := by decide +kernel
theorem dX9_judge_20 : decode cX9_judge 20 = .ok (.bipush 100, 2) := by decide +kernel
theorem dX9_judge_22 : decode cX9_judge 22 = .ok (.iload_n 1, 1) := by decide +kernel
theorem dX9_judge_23 : decode cX9_judge 23 = .ok (.invokestatic 142, 3) := by decide +kernel
theorem dX9_judge_26 : decode cX9_judge 26 = .ok (.iconst 1, 1) := by decide +kernel
theorem dX9_judge_27 : decode cX9_judge 27 = .ok (.isub, 1) := by decide +kernel
theorem dX9_judge_28 : decode cX9_judge 28 = .ok (.i2l, 1) := by decide +kernel
theorem dX9_judge_29 : decode cX9_judge 29 = .ok (.invokestatic 74, 3) := by decide +kernel
theorem dX9_judge_32 : decode cX9_judge 32 = .ok (.ifCond .ne 6, 3) := by decide +kernel
theorem dX9_judge_35 : decode cX9_judge 35 = .ok (.bipush (-2), 2) := by decide +kernel
theorem dX9_judge_37 : decode cX9_judge 37 = .ok (.ireturn, 1) := by decide +kernel
theorem dX9_judge_38 : decode cX9_judge 38 = .ok (.aload_n 0, 1) := by decide +kernel
theorem dX9_judge_39 : decode cX9_judge 39 = .ok (.getfield 34, 3) := by decide +kernel
theorem dX9_judge_42 : decode cX9_judge 42 = .ok (.aload_n 0, 1) := by decide +kernel
theorem dX9_judge_43 : decode cX9_judge 43 = .ok (.getfield 37, 3) := by decide +kernel
theorem dX9_judge_46 : decode cX9_judge 46 = .ok (.bipush 31, 2) := by decide +kernel
theorem dX9_judge_48 : decode cX9_judge 48 = .ok (.invokestatic 123, 3) := by decide +kernel
theorem dX9_judge_51 : decode cX9_judge 51 = .ok (.iconst 0, 1) := by decide +kernel
theorem dX9_judge_52 : decode cX9_judge 52 = .ok (.istore_n 3, 1) := by decide +kernel
theorem dX9_judge_53 : decode cX9_judge 53 = .ok (.iload_n 3, 1) := by decide +kernel
theorem dX9_judge_54 : decode cX9_judge 54 = .ok (.iload_n 1, 1) := by decide +kernel
theorem dX9_judge_55 : decode cX9_judge 55 = .ok (.if_icmp .ge 33, 3) := by decide +kernel
theorem dX9_judge_58 : decode cX9_judge 58 = .ok (.aload_n 0, 1) := by decide +kernel
theorem dX9_judge_59 : decode cX9_judge 59 = .ok (.iload_n 2, 1) := by decide +kernel
theorem dX9_judge_60 : decode cX9_judge 60 = .ok (.bipush 100, 2) := by decide +kernel
theorem dX9_judge_62 : decode cX9_judge 62 = .ok (.iload_n 1, 1) := by decide +kernel
theorem dX9_judge_63 : decode cX9_judge 63 = .ok (.iconst 1, 1) := by decide +kernel
theorem dX9_judge_64 : decode cX9_judge 64 = .ok (.isub, 1) := by decide +kernel
theorem dX9_judge_65 : decode cX9_judge 65 = .ok (.iload_n 3, 1) := by decide +kernel
theorem dX9_judge_66 : decode cX9_judge 66 = .ok (.isub, 1) := by decide +kernel
theorem dX9_judge_67 : decode cX9_judge 67 = .ok (.invokestatic 142, 3) := by decide +kernel
theorem dX9_judge_70 : decode cX9_judge 70 = .ok (.idiv, 1) := by decide +kernel
theorem dX9_judge_71 : decode cX9_judge 71 = .ok (.bipush 100, 2) := by decide +kernel
theorem dX9_judge_73 : decode cX9_judge 73 = .ok (.irem, 1) := by decide +kernel
theorem dX9_judge_74 : decode cX9_judge 74 = .ok (.invokevirtual 207, 3) := by decide +kernel
theorem dX9_judge_77 : decode cX9_judge 77 = .ok (.ifCond .ne 5, 3) := by decide +kernel
theorem dX9_judge_80 : decode cX9_judge 80 = .ok (.iload_n 3, 1) := by decide +kernel
theorem dX9_judge_81 : decode cX9_judge 81 = .ok (.ireturn, 1) := by decide +kernel
theorem dX9_judge_82 : decode cX9_judge 82 = .ok (.iinc 3 1, 3) := by decide +kernel
theorem dX9_judge_85 : decode cX9_judge 85 = .ok (.goto (-32), 3) := by decide +kernel
theorem dX9_judge_88 : decode cX9_judge 88 = .ok (.bipush (-9), 2) := by decide +kernel
theorem dX9_judge_90 : decode cX9_judge 90 = .ok (.ireturn, 1) := by decide +kernel
theorem dX9_ways_0 : decode cX9_ways 0 = .ok (.iconst 1, 1) := by decide +kernel
theorem dX9_ways_1 : decode cX9_ways 1 = .ok (.istore_n 1, 1) := by decide +kernel
theorem dX9_ways_2 : decode cX9_ways 2 = .ok (.iconst 2, 1) := by decide +kernel
theorem dX9_ways_3 : decode cX9_ways 3 = .ok (.istore_n 2, 1) := by decide +kernel
theorem dX9_ways_4 : decode cX9_ways 4 = .ok (.iload_n 2, 1) := by decide +kernel
theorem dX9_ways_5 : decode cX9_ways 5 = .ok (.iload_n 0, 1) := by decide +kernel
theorem dX9_ways_6 : decode cX9_ways 6 = .ok (.if_icmp .gt 13, 3) := by decide +kernel
theorem dX9_ways_9 : decode cX9_ways 9 = .ok (.iload_n 1, 1) := by decide +kernel
theorem dX9_ways_10 : decode cX9_ways 10 = .ok (.iload_n 2, 1) := by decide +kernel
theorem dX9_ways_11 : decode cX9_ways 11 = .ok (.imul, 1) := by decide +kernel
theorem dX9_ways_12 : decode cX9_ways 12 = .ok (.istore_n 1, 1) := by decide +kernel
theorem dX9_ways_13 : decode cX9_ways 13 = .ok (.iinc 2 1, 3) := by decide +kernel
theorem dX9_ways_16 : decode cX9_ways 16 = .ok (.goto (-12), 3) := by decide +kernel
theorem dX9_ways_19 : decode cX9_ways 19 = .ok (.iload_n 1, 1) := by decide +kernel
theorem dX9_ways_20 : decode cX9_ways 20 = .ok (.ireturn, 1) := by decide +kernel
theorem dX9_divisor_0 : decode cX9_divisor 0 = .ok (.iload_n 0, 1) := by decide +kernel
theorem dX9_divisor_1 : decode cX9_divisor 1 = .ok (.ifCond .ge 8, 3) := by decide +kernel
theorem dX9_divisor_4 : decode cX9_divisor 4 = .ok (.iload_n 0, 1) := by decide +kernel
theorem dX9_divisor_5 : decode cX9_divisor 5 = .ok (.ineg, 1) := by decide +kernel
theorem dX9_divisor_6 : decode cX9_divisor 6 = .ok (.goto 4, 3) := by decide +kernel
theorem dX9_divisor_9 : decode cX9_divisor 9 = .ok (.iload_n 0, 1) := by decide +kernel
theorem dX9_divisor_10 : decode cX9_divisor 10 = .ok (.istore_n 2, 1) := by decide +kernel
theorem dX9_divisor_11 : decode cX9_divisor 11 = .ok (.iload_n 1, 1) := by decide +kernel
theorem dX9_divisor_12 : decode cX9_divisor 12 = .ok (.istore_n 3, 1) := by decide +kernel
theorem dX9_divisor_13 : decode cX9_divisor 13 = .ok (.iload_n 3, 1) := by decide +kernel
theorem dX9_divisor_14 : decode cX9_divisor 14 = .ok (.ifCond .eq 16, 3) := by decide +kernel
theorem dX9_divisor_17 : decode cX9_divisor 17 = .ok (.iload_n 2, 1) := by decide +kernel
theorem dX9_divisor_18 : decode cX9_divisor 18 = .ok (.iload_n 3, 1) := by decide +kernel
theorem dX9_divisor_19 : decode cX9_divisor 19 = .ok (.irem, 1) := by decide +kernel
theorem dX9_divisor_20 : decode cX9_divisor 20 = .ok (.istore 4, 2) := by decide +kernel
theorem dX9_divisor_22 : decode cX9_divisor 22 = .ok (.iload_n 3, 1) := by decide +kernel
theorem dX9_divisor_23 : decode cX9_divisor 23 = .ok (.istore_n 2, 1) := by decide +kernel
theorem dX9_divisor_24 : decode cX9_divisor 24 = .ok (.iload 4, 2) := by decide +kernel
theorem dX9_divisor_26 : decode cX9_divisor 26 = .ok (.istore_n 3, 1) := by decide +kernel
theorem dX9_divisor_27 : decode cX9_divisor 27 = .ok (.goto (-14), 3) := by decide +kernel
theorem dX9_divisor_30 : decode cX9_divisor 30 = .ok (.iload_n 2, 1) := by decide +kernel
theorem dX9_divisor_31 : decode cX9_divisor 31 = .ok (.ireturn, 1) := by decide +kernel
theorem dX9_fraction_0 : decode cX9_fraction 0 = .ok (.iload_n 0, 1) := by decide +kernel
theorem dX9_fraction_1 : decode cX9_fraction 1 = .ok (.iload_n 1, 1) := by decide +kernel
theorem dX9_fraction_2 : decode cX9_fraction 2 = .ok (.invokestatic 210, 3) := by decide +kernel
theorem dX9_fraction_5 : decode cX9_fraction 5 = .ok (.istore_n 3, 1) := by decide +kernel
theorem dX9_fraction_6 : decode cX9_fraction 6 = .ok (.iload_n 2, 1) := by decide +kernel
theorem dX9_fraction_7 : decode cX9_fraction 7 = .ok (.ifCond .eq 9, 3) := by decide +kernel
theorem dX9_fraction_10 : decode cX9_fraction 10 = .ok (.iload_n 0, 1) := by decide +kernel
theorem dX9_fraction_11 : decode cX9_fraction 11 = .ok (.iload_n 3, 1) := by decide +kernel
theorem dX9_fraction_12 : decode cX9_fraction 12 = .ok (.idiv, 1) := by decide +kernel
theorem dX9_fraction_13 : decode cX9_fraction 13 = .ok (.goto 6, 3) := by decide +kernel
theorem dX9_fraction_16 : decode cX9_fraction 16 = .ok (.iload_n 1, 1) := by decide +kernel
theorem dX9_fraction_17 : decode cX9_fraction 17 = .ok (.iload_n 3, 1) := by decide +kernel
theorem dX9_fraction_18 : decode cX9_fraction 18 = .ok (.idiv, 1) := by decide +kernel
theorem dX9_fraction_19 : decode cX9_fraction 19 = .ok (.ireturn, 1) := by decide +kernel
theorem dX9_share_0 : decode cX9_share 0 = .ok (.aload_n 0, 1) := by decide +kernel
theorem dX9_share_1 : decode cX9_share 1 = .ok (.iconst 0, 1) := by decide +kernel
theorem dX9_share_2 : decode cX9_share 2 = .ok (.putfield 68, 3) := by decide +kernel
theorem dX9_share_5 : decode cX9_share 5 = .ok (.iload_n 1, 1) := by decide +kernel
theorem dX9_share_6 : decode cX9_share 6 = .ok (.i2l, 1) := by decide +kernel
theorem dX9_share_7 : decode cX9_share 7 = .ok (.lconst 0, 1) := by decide +kernel
theorem dX9_share_8 : decode cX9_share 8 = .ok (.aload_n 0, 1) := by decide +kernel
theorem dX9_share_9 : decode cX9_share 9 = .ok (.getfield 117, 3) := by decide +kernel
theorem dX9_share_12 : decode cX9_share 12 = .ok (.iconst 1, 1) := by decide +kernel
theorem dX9_share_13 : decode cX9_share 13 = .ok (.isub, 1) := by decide +kernel
theorem dX9_share_14 : decode cX9_share 14 = .ok (.i2l, 1) := by decide +kernel
theorem dX9_share_15 : decode cX9_share 15 = .ok (.invokestatic 74, 3) := by decide +kernel
theorem dX9_share_18 : decode cX9_share 18 = .ok (.ifCond .ne 5, 3) := by decide +kernel
theorem dX9_share_21 : decode cX9_share 21 = .ok (.iconst (-1), 1) := by decide +kernel
theorem dX9_share_22 : decode cX9_share 22 = .ok (.ireturn, 1) := by decide +kernel
theorem dX9_share_23 : decode cX9_share 23 = .ok (.iload_n 2, 1) := by decide +kernel
theorem dX9_share_24 : decode cX9_share 24 = .ok (.i2l, 1) := by decide +kernel
theorem dX9_share_25 : decode cX9_share 25 = .ok (.lconst 0, 1) := by decide +kernel
theorem dX9_share_26 : decode cX9_share 26 = .ok (.lconst 1, 1) := by decide +kernel
theorem dX9_share_27 : decode cX9_share 27 = .ok (.invokestatic 74, 3) := by decide +kernel
theorem dX9_share_30 : decode cX9_share 30 = .ok (.ifCond .ne 6, 3) := by decide +kernel
theorem dX9_share_33 : decode cX9_share 33 = .ok (.bipush (-2), 2) := by decide +kernel
theorem dX9_share_35 : decode cX9_share 35 = .ok (.ireturn, 1) := by decide +kernel
theorem dX9_share_36 : decode cX9_share 36 = .ok (.aload_n 0, 1) := by decide +kernel
theorem dX9_share_37 : decode cX9_share 37 = .ok (.aload_n 0, 1) := by decide +kernel
theorem dX9_share_38 : decode cX9_share 38 = .ok (.getfield 34, 3) := by decide +kernel
theorem dX9_share_41 : decode cX9_share 41 = .ok (.invokevirtual 152, 3) := by decide +kernel
theorem dX9_share_44 : decode cX9_share 44 = .ok (.iconst 0, 1) := by decide +kernel
theorem dX9_share_45 : decode cX9_share 45 = .ok (.istore 4, 2) := by decide +kernel
theorem dX9_share_47 : decode cX9_share 47 = .ok (.iload 4, 2) := by decide +kernel
theorem dX9_share_49 : decode cX9_share 49 = .ok (.iconst 1, 1) := by decide +kernel
theorem dX9_share_50 : decode cX9_share 50 = .ok (.aload_n 0, 1) := by decide +kernel
theorem dX9_share_51 : decode cX9_share 51 = .ok (.getfield 117, 3) := by decide +kernel
theorem dX9_share_54 : decode cX9_share 54 = .ok (.ishl, 1) := by decide +kernel
theorem dX9_share_55 : decode cX9_share 55 = .ok (.if_icmp .ge 30, 3) := by decide +kernel
theorem dX9_share_58 : decode cX9_share 58 = .ok (.aload_n 0, 1) := by decide +kernel
theorem dX9_share_59 : decode cX9_share 59 = .ok (.getfield 65, 3) := by decide +kernel
theorem dX9_share_62 : decode cX9_share 62 = .ok (.iload 4, 2) := by decide +kernel
theorem dX9_share_64 : decode cX9_share 64 = .ok (.aload_n 0, 1) := by decide +kernel
theorem dX9_share_65 : decode cX9_share 65 = .ok (.aload_n 0, 1) := by decide +kernel
theorem dX9_share_66 : decode cX9_share 66 = .ok (.getfield 34, 3) := by decide +kernel
theorem dX9_share_69 : decode cX9_share 69 = .ok (.iload_n 2, 1) := by decide +kernel
theorem dX9_share_70 : decode cX9_share 70 = .ok (.iload 4, 2) := by decide +kernel
theorem dX9_share_72 : decode cX9_share 72 = .ok (.invokevirtual 179, 3) := by decide +kernel
theorem dX9_share_75 : decode cX9_share 75 = .ok (.invokestatic 198, 3) := by decide +kernel
theorem dX9_share_78 : decode cX9_share 78 = .ok (.iastore, 1) := by decide +kernel
theorem dX9_share_79 : decode cX9_share 79 = .ok (.iinc 4 1, 3) := by decide +kernel
theorem dX9_share_82 : decode cX9_share 82 = .ok (.goto (-35), 3) := by decide +kernel
theorem dX9_share_85 : decode cX9_share 85 = .ok (.iconst 0, 1) := by decide +kernel
theorem dX9_share_86 : decode cX9_share 86 = .ok (.istore 4, 2) := by decide +kernel
theorem dX9_share_88 : decode cX9_share 88 = .ok (.iconst 0, 1) := by decide +kernel
theorem dX9_share_89 : decode cX9_share 89 = .ok (.istore 5, 2) := by decide +kernel
theorem dX9_share_91 : decode cX9_share 91 = .ok (.iload 5, 2) := by decide +kernel
theorem dX9_share_93 : decode cX9_share 93 = .ok (.iconst 1, 1) := by decide +kernel
theorem dX9_share_94 : decode cX9_share 94 = .ok (.aload_n 0, 1) := by decide +kernel
theorem dX9_share_95 : decode cX9_share 95 = .ok (.getfield 117, 3) := by decide +kernel
theorem dX9_share_98 : decode cX9_share 98 = .ok (.ishl, 1) := by decide +kernel
theorem dX9_share_99 : decode cX9_share 99 = .ok (.if_icmp .ge 68, 3) := by decide +kernel
theorem dX9_share_102 : decode cX9_share 102 = .ok (.iload 5, 2) := by decide +kernel
theorem dX9_share_104 : decode cX9_share 104 = .ok (.iload_n 1, 1) := by decide +kernel
theorem dX9_share_105 : decode cX9_share 105 = .ok (.invokestatic 130, 3) := by decide +kernel
theorem dX9_share_108 : decode cX9_share 108 = .ok (.ifCond .ne 53, 3) := by decide +kernel
theorem dX9_share_111 : decode cX9_share 111 = .ok (.iload 5, 2) := by decide +kernel
theorem dX9_share_113 : decode cX9_share 113 = .ok (.invokestatic 198, 3) := by decide +kernel
theorem dX9_share_116 : decode cX9_share 116 = .ok (.istore 6, 2) := by decide +kernel
theorem dX9_share_118 : decode cX9_share 118 = .ok (.iload 4, 2) := by decide +kernel
theorem dX9_share_120 : decode cX9_share 120 = .ok (.iload 6, 2) := by decide +kernel
theorem dX9_share_122 : decode cX9_share 122 = .ok (.invokestatic 213, 3) := by decide +kernel
theorem dX9_share_125 : decode cX9_share 125 = .ok (.aload_n 0, 1) := by decide +kernel
theorem dX9_share_126 : decode cX9_share 126 = .ok (.getfield 117, 3) := by decide +kernel
theorem dX9_share_129 : decode cX9_share 129 = .ok (.iconst 1, 1) := by decide +kernel
theorem dX9_share_130 : decode cX9_share 130 = .ok (.isub, 1) := by decide +kernel
theorem dX9_share_131 : decode cX9_share 131 = .ok (.iload 6, 2) := by decide +kernel
theorem dX9_share_133 : decode cX9_share 133 = .ok (.isub, 1) := by decide +kernel
theorem dX9_share_134 : decode cX9_share 134 = .ok (.invokestatic 213, 3) := by decide +kernel
theorem dX9_share_137 : decode cX9_share 137 = .ok (.imul, 1) := by decide +kernel
theorem dX9_share_138 : decode cX9_share 138 = .ok (.aload_n 0, 1) := by decide +kernel
theorem dX9_share_139 : decode cX9_share 139 = .ok (.getfield 65, 3) := by decide +kernel
theorem dX9_share_142 : decode cX9_share 142 = .ok (.iload 5, 2) := by decide +kernel
theorem dX9_share_144 : decode cX9_share 144 = .ok (.iconst 1, 1) := by decide +kernel
theorem dX9_share_145 : decode cX9_share 145 = .ok (.iload_n 1, 1) := by decide +kernel
theorem dX9_share_146 : decode cX9_share 146 = .ok (.ishl, 1) := by decide +kernel
theorem dX9_share_147 : decode cX9_share 147 = .ok (.ior, 1) := by decide +kernel
theorem dX9_share_148 : decode cX9_share 148 = .ok (.iaload, 1) := by decide +kernel
theorem dX9_share_149 : decode cX9_share 149 = .ok (.aload_n 0, 1) := by decide +kernel
theorem dX9_share_150 : decode cX9_share 150 = .ok (.getfield 65, 3) := by decide +kernel
theorem dX9_share_153 : decode cX9_share 153 = .ok (.iload 5, 2) := by decide +kernel
theorem dX9_share_155 : decode cX9_share 155 = .ok (.iaload, 1) := by decide +kernel
theorem dX9_share_156 : decode cX9_share 156 = .ok (.isub, 1) := by decide +kernel
theorem dX9_share_157 : decode cX9_share 157 = .ok (.imul, 1) := by decide +kernel
theorem dX9_share_158 : decode cX9_share 158 = .ok (.iadd, 1) := by decide +kernel
theorem dX9_share_159 : decode cX9_share 159 = .ok (.istore 4, 2) := by decide +kernel
theorem dX9_share_161 : decode cX9_share 161 = .ok (.iinc 5 1, 3) := by decide +kernel
theorem dX9_share_164 : decode cX9_share 164 = .ok (.goto (-73), 3) := by decide +kernel
theorem dX9_share_167 : decode cX9_share 167 = .ok (.iload 4, 2) := by decide +kernel
theorem dX9_share_169 : decode cX9_share 169 = .ok (.aload_n 0, 1) := by decide +kernel
theorem dX9_share_170 : decode cX9_share 170 = .ok (.getfield 117, 3) := by decide +kernel
theorem dX9_share_173 : decode cX9_share 173 = .ok (.invokestatic 213, 3) := by decide +kernel
theorem dX9_share_176 : decode cX9_share 176 = .ok (.iload_n 3, 1) := by decide +kernel
theorem dX9_share_177 : decode cX9_share 177 = .ok (.invokestatic 216, 3) := by decide +kernel
theorem dX9_share_180 : decode cX9_share 180 = .ok (.ireturn, 1) := by decide +kernel
theorem dX9_see_0 : decode cX9_see 0 = .ok (.aload_n 0, 1) := by decide +kernel
theorem dX9_see_1 : decode cX9_see 1 = .ok (.iconst 0, 1) := by decide +kernel
theorem dX9_see_2 : decode cX9_see 2 = .ok (.putfield 68, 3) := by decide +kernel
theorem dX9_see_5 : decode cX9_see 5 = .ok (.iload_n 1, 1) := by decide +kernel
theorem dX9_see_6 : decode cX9_see 6 = .ok (.i2l, 1) := by decide +kernel
theorem dX9_see_7 : decode cX9_see 7 = .ok (.lconst 0, 1) := by decide +kernel
theorem dX9_see_8 : decode cX9_see 8 = .ok (.aload_n 0, 1) := by decide +kernel
theorem dX9_see_9 : decode cX9_see 9 = .ok (.getfield 117, 3) := by decide +kernel
theorem dX9_see_12 : decode cX9_see 12 = .ok (.iconst 1, 1) := by decide +kernel
theorem dX9_see_13 : decode cX9_see 13 = .ok (.isub, 1) := by decide +kernel
theorem dX9_see_14 : decode cX9_see 14 = .ok (.i2l, 1) := by decide +kernel
theorem dX9_see_15 : decode cX9_see 15 = .ok (.invokestatic 74, 3) := by decide +kernel
theorem dX9_see_18 : decode cX9_see 18 = .ok (.ifCond .ne 5, 3) := by decide +kernel
theorem dX9_see_21 : decode cX9_see 21 = .ok (.iconst (-1), 1) := by decide +kernel
theorem dX9_see_22 : decode cX9_see 22 = .ok (.ireturn, 1) := by decide +kernel
theorem dX9_see_23 : decode cX9_see 23 = .ok (.iload_n 2, 1) := by decide +kernel
theorem dX9_see_24 : decode cX9_see 24 = .ok (.i2l, 1) := by decide +kernel
theorem dX9_see_25 : decode cX9_see 25 = .ok (.lconst 0, 1) := by decide +kernel
theorem dX9_see_26 : decode cX9_see 26 = .ok (.ldc2_w 220, 3) := by decide +kernel
theorem dX9_see_29 : decode cX9_see 29 = .ok (.invokestatic 74, 3) := by decide +kernel
theorem dX9_see_32 : decode cX9_see 32 = .ok (.ifCond .ne 6, 3) := by decide +kernel
theorem dX9_see_35 : decode cX9_see 35 = .ok (.bipush (-2), 2) := by decide +kernel
theorem dX9_see_37 : decode cX9_see 37 = .ok (.ireturn, 1) := by decide +kernel
theorem dX9_see_38 : decode cX9_see 38 = .ok (.aload_n 0, 1) := by decide +kernel
theorem dX9_see_39 : decode cX9_see 39 = .ok (.getfield 169, 3) := by decide +kernel
theorem dX9_see_42 : decode cX9_see 42 = .ok (.bipush 6, 2) := by decide +kernel
theorem dX9_see_44 : decode cX9_see 44 = .ok (.if_icmp .ne 6, 3) := by decide +kernel
theorem dX9_see_47 : decode cX9_see 47 = .ok (.bipush (-4), 2) := by decide +kernel
theorem dX9_see_49 : decode cX9_see 49 = .ok (.ireturn, 1) := by decide +kernel
theorem dX9_see_50 : decode cX9_see 50 = .ok (.aload_n 0, 1) := by decide +kernel
theorem dX9_see_51 : decode cX9_see 51 = .ok (.getfield 50, 3) := by decide +kernel
theorem dX9_see_54 : decode cX9_see 54 = .ok (.aload_n 0, 1) := by decide +kernel
theorem dX9_see_55 : decode cX9_see 55 = .ok (.getfield 169, 3) := by decide +kernel
theorem dX9_see_58 : decode cX9_see 58 = .ok (.iload_n 1, 1) := by decide +kernel
theorem dX9_see_59 : decode cX9_see 59 = .ok (.iastore, 1) := by decide +kernel
theorem dX9_see_60 : decode cX9_see 60 = .ok (.aload_n 0, 1) := by decide +kernel
theorem dX9_see_61 : decode cX9_see 61 = .ok (.getfield 53, 3) := by decide +kernel
theorem dX9_see_64 : decode cX9_see 64 = .ok (.aload_n 0, 1) := by decide +kernel
theorem dX9_see_65 : decode cX9_see 65 = .ok (.getfield 169, 3) := by decide +kernel
theorem dX9_see_68 : decode cX9_see 68 = .ok (.iload_n 2, 1) := by decide +kernel
theorem dX9_see_69 : decode cX9_see 69 = .ok (.iastore, 1) := by decide +kernel
theorem dX9_see_70 : decode cX9_see 70 = .ok (.aload_n 0, 1) := by decide +kernel
theorem dX9_see_71 : decode cX9_see 71 = .ok (.dup, 1) := by decide +kernel
theorem dX9_see_72 : decode cX9_see 72 = .ok (.getfield 169, 3) := by decide +kernel
theorem dX9_see_75 : decode cX9_see 75 = .ok (.iconst 1, 1) := by decide +kernel
theorem dX9_see_76 : decode cX9_see 76 = .ok (.iadd, 1) := by decide +kernel
theorem dX9_see_77 : decode cX9_see 77 = .ok (.putfield 169, 3) := by decide +kernel
theorem dX9_see_80 : decode cX9_see 80 = .ok (.aload_n 0, 1) := by decide +kernel
theorem dX9_see_81 : decode cX9_see 81 = .ok (.getfield 169, 3) := by decide +kernel
theorem dX9_see_84 : decode cX9_see 84 = .ok (.ireturn, 1) := by decide +kernel
theorem dX9_unsee_0 : decode cX9_unsee 0 = .ok (.aload_n 0, 1) := by decide +kernel
theorem dX9_unsee_1 : decode cX9_unsee 1 = .ok (.iconst 0, 1) := by decide +kernel
theorem dX9_unsee_2 : decode cX9_unsee 2 = .ok (.putfield 68, 3) := by decide +kernel
theorem dX9_unsee_5 : decode cX9_unsee 5 = .ok (.aload_n 0, 1) := by decide +kernel
theorem dX9_unsee_6 : decode cX9_unsee 6 = .ok (.getfield 169, 3) := by decide +kernel
theorem dX9_unsee_9 : decode cX9_unsee 9 = .ok (.istore_n 1, 1) := by decide +kernel
theorem dX9_unsee_10 : decode cX9_unsee 10 = .ok (.aload_n 0, 1) := by decide +kernel
theorem dX9_unsee_11 : decode cX9_unsee 11 = .ok (.iconst 0, 1) := by decide +kernel
theorem dX9_unsee_12 : decode cX9_unsee 12 = .ok (.putfield 169, 3) := by decide +kernel
theorem dX9_unsee_15 : decode cX9_unsee 15 = .ok (.iload_n 1, 1) := by decide +kernel
theorem dX9_unsee_16 : decode cX9_unsee 16 = .ok (.ireturn, 1) := by decide +kernel
theorem dX9_isSeen_0 : decode cX9_isSeen 0 = .ok (.iconst 1, 1) := by decide +kernel
theorem dX9_isSeen_1 : decode cX9_isSeen 1 = .ok (.istore_n 1, 1) := by decide +kernel
theorem dX9_isSeen_2 : decode cX9_isSeen 2 = .ok (.iconst 0, 1) := by decide +kernel
theorem dX9_isSeen_3 : decode cX9_isSeen 3 = .ok (.istore_n 2, 1) := by decide +kernel
theorem dX9_isSeen_4 : decode cX9_isSeen 4 = .ok (.iload_n 2, 1) := by decide +kernel
theorem dX9_isSeen_5 : decode cX9_isSeen 5 = .ok (.aload_n 0, 1) := by decide +kernel
theorem dX9_isSeen_6 : decode cX9_isSeen 6 = .ok (.getfield 169, 3) := by decide +kernel
theorem dX9_isSeen_9 : decode cX9_isSeen 9 = .ok (.if_icmp .ge 97, 3) := by decide +kernel
theorem dX9_isSeen_12 : decode cX9_isSeen 12 = .ok (.aload_n 0, 1) := by decide +kernel
theorem dX9_isSeen_13 : decode cX9_isSeen 13 = .ok (.getfield 50, 3) := by decide +kernel
theorem dX9_isSeen_16 : decode cX9_isSeen 16 = .ok (.iload_n 2, 1) := by decide +kernel
theorem dX9_isSeen_17 : decode cX9_isSeen 17 = .ok (.iaload, 1) := by decide +kernel
theorem dX9_isSeen_18 : decode cX9_isSeen 18 = .ok (.istore_n 3, 1) := by decide +kernel
theorem dX9_isSeen_19 : decode cX9_isSeen 19 = .ok (.iload_n 3, 1) := by decide +kernel
theorem dX9_isSeen_20 : decode cX9_isSeen 20 = .ok (.aload_n 0, 1) := by decide +kernel
theorem dX9_isSeen_21 : decode cX9_isSeen 21 = .ok (.getfield 117, 3) := by decide +kernel
theorem dX9_isSeen_24 : decode cX9_isSeen 24 = .ok (.if_icmp .ge 76, 3) := by decide +kernel
theorem dX9_isSeen_27 : decode cX9_isSeen 27 = .ok (.aload_n 0, 1) := by decide +kernel
theorem dX9_isSeen_28 : decode cX9_isSeen 28 = .ok (.getfield 56, 3) := by decide +kernel
theorem dX9_isSeen_31 : decode cX9_isSeen 31 = .ok (.iload_n 3, 1) := by decide +kernel
theorem dX9_isSeen_32 : decode cX9_isSeen 32 = .ok (.iaload, 1) := by decide +kernel
theorem dX9_isSeen_33 : decode cX9_isSeen 33 = .ok (.ifCond .le 16, 3) := by decide +kernel
theorem dX9_isSeen_36 : decode cX9_isSeen 36 = .ok (.aload_n 0, 1) := by decide +kernel
theorem dX9_isSeen_37 : decode cX9_isSeen 37 = .ok (.getfield 59, 3) := by decide +kernel
theorem dX9_isSeen_40 : decode cX9_isSeen 40 = .ok (.iload_n 3, 1) := by decide +kernel
theorem dX9_isSeen_41 : decode cX9_isSeen 41 = .ok (.iaload, 1) := by decide +kernel
theorem dX9_isSeen_42 : decode cX9_isSeen 42 = .ok (.ifCond .le 7, 3) := by decide +kernel
theorem dX9_isSeen_45 : decode cX9_isSeen 45 = .ok (.iconst 2, 1) := by decide +kernel
theorem dX9_isSeen_46 : decode cX9_isSeen 46 = .ok (.goto 31, 3) := by decide +kernel
theorem dX9_isSeen_49 : decode cX9_isSeen 49 = .ok (.aload_n 0, 1) := by decide +kernel
theorem dX9_isSeen_50 : decode cX9_isSeen 50 = .ok (.getfield 56, 3) := by decide +kernel
theorem dX9_isSeen_53 : decode cX9_isSeen 53 = .ok (.iload_n 3, 1) := by decide +kernel
theorem dX9_isSeen_54 : decode cX9_isSeen 54 = .ok (.iaload, 1) := by decide +kernel
theorem dX9_isSeen_55 : decode cX9_isSeen 55 = .ok (.ifCond .le 7, 3) := by decide +kernel
theorem dX9_isSeen_58 : decode cX9_isSeen 58 = .ok (.iconst 0, 1) := by decide +kernel
theorem dX9_isSeen_59 : decode cX9_isSeen 59 = .ok (.goto 18, 3) := by decide +kernel
theorem dX9_isSeen_62 : decode cX9_isSeen 62 = .ok (.aload_n 0, 1) := by decide +kernel
theorem dX9_isSeen_63 : decode cX9_isSeen 63 = .ok (.getfield 59, 3) := by decide +kernel
theorem dX9_isSeen_66 : decode cX9_isSeen 66 = .ok (.iload_n 3, 1) := by decide +kernel
theorem dX9_isSeen_67 : decode cX9_isSeen 67 = .ok (.iaload, 1) := by decide +kernel
theorem dX9_isSeen_68 : decode cX9_isSeen 68 = .ok (.ifCond .le 7, 3) := by decide +kernel
theorem dX9_isSeen_71 : decode cX9_isSeen 71 = .ok (.iconst 1, 1) := by decide +kernel
theorem dX9_isSeen_72 : decode cX9_isSeen 72 = .ok (.goto 5, 3) := by decide +kernel
theorem dX9_isSeen_75 : decode cX9_isSeen 75 = .ok (.bipush (-9), 2) := by decide +kernel
theorem dX9_isSeen_77 : decode cX9_isSeen 77 = .ok (.istore 4, 2) := by decide +kernel
theorem dX9_isSeen_79 : decode cX9_isSeen 79 = .ok (.iload_n 1, 1) := by decide +kernel
theorem dX9_isSeen_80 : decode cX9_isSeen 80 = .ok (.ifCond .eq 18, 3) := by decide +kernel
theorem dX9_isSeen_83 : decode cX9_isSeen 83 = .ok (.iload 4, 2) := by decide +kernel
theorem dX9_isSeen_85 : decode cX9_isSeen 85 = .ok (.aload_n 0, 1) := by decide +kernel
theorem dX9_isSeen_86 : decode cX9_isSeen 86 = .ok (.getfield 53, 3) := by decide +kernel
theorem dX9_isSeen_89 : decode cX9_isSeen 89 = .ok (.iload_n 2, 1) := by decide +kernel
theorem dX9_isSeen_90 : decode cX9_isSeen 90 = .ok (.iaload, 1) := by decide +kernel
theorem dX9_isSeen_91 : decode cX9_isSeen 91 = .ok (.if_icmp .ne 7, 3) := by decide +kernel
theorem dX9_isSeen_94 : decode cX9_isSeen 94 = .ok (.iconst 1, 1) := by decide +kernel
theorem dX9_isSeen_95 : decode cX9_isSeen 95 = .ok (.goto 4, 3) := by decide +kernel
theorem dX9_isSeen_98 : decode cX9_isSeen 98 = .ok (.iconst 0, 1) := by decide +kernel
theorem dX9_isSeen_99 : decode cX9_isSeen 99 = .ok (.istore_n 1, 1) := by decide +kernel
theorem dX9_isSeen_100 : decode cX9_isSeen 100 = .ok (.iinc 2 1, 3) := by decide +kernel
theorem dX9_isSeen_103 : decode cX9_isSeen 103 = .ok (.goto (-99), 3) := by decide +kernel
theorem dX9_isSeen_106 : decode cX9_isSeen 106 = .ok (.iload_n 1, 1) := by decide +kernel
theorem dX9_isSeen_107 : decode cX9_isSeen 107 = .ok (.ireturn, 1) := by decide +kernel
theorem dX9_traces_0 : decode cX9_traces 0 = .ok (.aload_n 0, 1) := by decide +kernel
theorem dX9_traces_1 : decode cX9_traces 1 = .ok (.iconst 0, 1) := by decide +kernel
theorem dX9_traces_2 : decode cX9_traces 2 = .ok (.putfield 68, 3) := by decide +kernel
theorem dX9_traces_5 : decode cX9_traces 5 = .ok (.iload_n 1, 1) := by decide +kernel
theorem dX9_traces_6 : decode cX9_traces 6 = .ok (.i2l, 1) := by decide +kernel
theorem dX9_traces_7 : decode cX9_traces 7 = .ok (.lconst 0, 1) := by decide +kernel
theorem dX9_traces_8 : decode cX9_traces 8 = .ok (.lconst 1, 1) := by decide +kernel
theorem dX9_traces_9 : decode cX9_traces 9 = .ok (.invokestatic 74, 3) := by decide +kernel
theorem dX9_traces_12 : decode cX9_traces 12 = .ok (.ifCond .ne 6, 3) := by decide +kernel
theorem dX9_traces_15 : decode cX9_traces 15 = .ok (.bipush (-2), 2) := by decide +kernel
theorem dX9_traces_17 : decode cX9_traces 17 = .ok (.ireturn, 1) := by decide +kernel
theorem dX9_traces_18 : decode cX9_traces 18 = .ok (.aload_n 0, 1) := by decide +kernel
theorem dX9_traces_19 : decode cX9_traces 19 = .ok (.iconst 0, 1) := by decide +kernel
theorem dX9_traces_20 : decode cX9_traces 20 = .ok (.putfield 222, 3) := by decide +kernel
theorem dX9_traces_23 : decode cX9_traces 23 = .ok (.aload_n 0, 1) := by decide +kernel
theorem dX9_traces_24 : decode cX9_traces 24 = .ok (.bipush (-9), 2) := by decide +kernel
theorem dX9_traces_26 : decode cX9_traces 26 = .ok (.putfield 225, 3) := by decide +kernel
theorem dX9_traces_29 : decode cX9_traces 29 = .ok (.iconst 0, 1) := by decide +kernel
theorem dX9_traces_30 : decode cX9_traces 30 = .ok (.istore_n 2, 1) := by decide +kernel
theorem dX9_traces_31 : decode cX9_traces 31 = .ok (.iload_n 2, 1) := by decide +kernel
theorem dX9_traces_32 : decode cX9_traces 32 = .ok (.bipush 6, 2) := by decide +kernel
theorem dX9_traces_34 : decode cX9_traces 34 = .ok (.aload_n 0, 1) := by decide +kernel
theorem dX9_traces_35 : decode cX9_traces 35 = .ok (.getfield 114, 3) := by decide +kernel
theorem dX9_traces_38 : decode cX9_traces 38 = .ok (.invokestatic 142, 3) := by decide +kernel
theorem dX9_traces_41 : decode cX9_traces 41 = .ok (.if_icmp .ge 78, 3) := by decide +kernel
theorem dX9_traces_44 : decode cX9_traces 44 = .ok (.aload_n 0, 1) := by decide +kernel
theorem dX9_traces_45 : decode cX9_traces 45 = .ok (.iload_n 2, 1) := by decide +kernel
theorem dX9_traces_46 : decode cX9_traces 46 = .ok (.invokevirtual 148, 3) := by decide +kernel
theorem dX9_traces_49 : decode cX9_traces 49 = .ok (.ifCond .eq 64, 3) := by decide +kernel
theorem dX9_traces_52 : decode cX9_traces 52 = .ok (.aload_n 0, 1) := by decide +kernel
theorem dX9_traces_53 : decode cX9_traces 53 = .ok (.aload_n 0, 1) := by decide +kernel
theorem dX9_traces_54 : decode cX9_traces 54 = .ok (.getfield 37, 3) := by decide +kernel
theorem dX9_traces_57 : decode cX9_traces 57 = .ok (.invokevirtual 152, 3) := by decide +kernel
theorem dX9_traces_60 : decode cX9_traces 60 = .ok (.aload_n 0, 1) := by decide +kernel
theorem dX9_traces_61 : decode cX9_traces 61 = .ok (.invokevirtual 228, 3) := by decide +kernel
theorem dX9_traces_64 : decode cX9_traces 64 = .ok (.istore_n 3, 1) := by decide +kernel
theorem dX9_traces_65 : decode cX9_traces 65 = .ok (.aload_n 0, 1) := by decide +kernel
theorem dX9_traces_66 : decode cX9_traces 66 = .ok (.iload_n 3, 1) := by decide +kernel
theorem dX9_traces_67 : decode cX9_traces 67 = .ok (.ifCond .eq 21, 3) := by decide +kernel
theorem dX9_traces_70 : decode cX9_traces 70 = .ok (.aload_n 0, 1) := by decide +kernel
theorem dX9_traces_71 : decode cX9_traces 71 = .ok (.getfield 222, 3) := by decide +kernel
theorem dX9_traces_74 : decode cX9_traces 74 = .ok (.ifCond .ne 14, 3) := by decide +kernel
theorem dX9_traces_77 : decode cX9_traces 77 = .ok (.aload_n 0, 1) := by decide +kernel
theorem dX9_traces_78 : decode cX9_traces 78 = .ok (.aload_n 0, 1) := by decide +kernel
theorem dX9_traces_79 : decode cX9_traces 79 = .ok (.getfield 37, 3) := by decide +kernel
theorem dX9_traces_82 : decode cX9_traces 82 = .ok (.invokevirtual 156, 3) := by decide +kernel
theorem dX9_traces_85 : decode cX9_traces 85 = .ok (.goto 7, 3) := by decide +kernel
theorem dX9_traces_88 : decode cX9_traces 88 = .ok (.aload_n 0, 1) := by decide +kernel
theorem dX9_traces_89 : decode cX9_traces 89 = .ok (.getfield 225, 3) := by decide +kernel
theorem dX9_traces_92 : decode cX9_traces 92 = .ok (.putfield 225, 3) := by decide +kernel
theorem dX9_traces_95 : decode cX9_traces 95 = .ok (.aload_n 0, 1) := by decide +kernel
theorem dX9_traces_96 : decode cX9_traces 96 = .ok (.dup, 1) := by decide +kernel
theorem dX9_traces_97 : decode cX9_traces 97 = .ok (.getfield 222, 3) := by decide +kernel
theorem dX9_traces_100 : decode cX9_traces 100 = .ok (.iload_n 3, 1) := by decide +kernel
theorem dX9_traces_101 : decode cX9_traces 101 = .ok (.ifCond .eq 7, 3) := by decide +kernel
theorem dX9_traces_104 : decode cX9_traces 104 = .ok (.iconst 1, 1) := by decide +kernel
theorem dX9_traces_105 : decode cX9_traces 105 = .ok (.goto 4, 3) := by decide +kernel
theorem dX9_traces_108 : decode cX9_traces 108 = .ok (.iconst 0, 1) := by decide +kernel
theorem dX9_traces_109 : decode cX9_traces 109 = .ok (.iadd, 1) := by decide +kernel
theorem dX9_traces_110 : decode cX9_traces 110 = .ok (.putfield 222, 3) := by decide +kernel
theorem dX9_traces_113 : decode cX9_traces 113 = .ok (.iinc 2 1, 3) := by decide +kernel
theorem dX9_traces_116 : decode cX9_traces 116 = .ok (.goto (-85), 3) := by decide +kernel
theorem dX9_traces_119 : decode cX9_traces 119 = .ok (.iload_n 1, 1) := by decide +kernel
theorem dX9_traces_120 : decode cX9_traces 120 = .ok (.ifCond .ne 10, 3) := by decide +kernel
theorem dX9_traces_123 : decode cX9_traces 123 = .ok (.aload_n 0, 1) := by decide +kernel
theorem dX9_traces_124 : decode cX9_traces 124 = .ok (.getfield 222, 3) := by decide +kernel
theorem dX9_traces_127 : decode cX9_traces 127 = .ok (.goto 7, 3) := by decide +kernel
theorem dX9_traces_130 : decode cX9_traces 130 = .ok (.aload_n 0, 1) := by decide +kernel
theorem dX9_traces_131 : decode cX9_traces 131 = .ok (.getfield 225, 3) := by decide +kernel
theorem dX9_traces_134 : decode cX9_traces 134 = .ok (.ireturn, 1) := by decide +kernel
theorem dX9_pulled_0 : decode cX9_pulled 0 = .ok (.iconst 0, 1) := by decide +kernel
theorem dX9_pulled_1 : decode cX9_pulled 1 = .ok (.istore 4, 2) := by decide +kernel
theorem dX9_pulled_3 : decode cX9_pulled 3 = .ok (.iconst 0, 1) := by decide +kernel
theorem dX9_pulled_4 : decode cX9_pulled 4 = .ok (.istore 5, 2) := by decide +kernel
theorem dX9_pulled_6 : decode cX9_pulled 6 = .ok (.iload 5, 2) := by decide +kernel
theorem dX9_pulled_8 : decode cX9_pulled 8 = .ok (.aload_n 0, 1) := by decide +kernel
theorem dX9_pulled_9 : decode cX9_pulled 9 = .ok (.getfield 114, 3) := by decide +kernel
theorem dX9_pulled_12 : decode cX9_pulled 12 = .ok (.if_icmp .ge 90, 3) := by decide +kernel
theorem dX9_pulled_15 : decode cX9_pulled 15 = .ok (.iload_n 1, 1) := by decide +kernel
theorem dX9_pulled_16 : decode cX9_pulled 16 = .ok (.ifCond .ne 13, 3) := by decide +kernel
theorem dX9_pulled_19 : decode cX9_pulled 19 = .ok (.aload_n 0, 1) := by decide +kernel
theorem dX9_pulled_20 : decode cX9_pulled 20 = .ok (.getfield 34, 3) := by decide +kernel
theorem dX9_pulled_23 : decode cX9_pulled 23 = .ok (.iload 5, 2) := by decide +kernel
theorem dX9_pulled_25 : decode cX9_pulled 25 = .ok (.iaload, 1) := by decide +kernel
theorem dX9_pulled_26 : decode cX9_pulled 26 = .ok (.goto 12, 3) := by decide +kernel
theorem dX9_pulled_29 : decode cX9_pulled 29 = .ok (.iconst 5, 1) := by decide +kernel
theorem dX9_pulled_30 : decode cX9_pulled 30 = .ok (.aload_n 0, 1) := by decide +kernel
theorem dX9_pulled_31 : decode cX9_pulled 31 = .ok (.getfield 34, 3) := by decide +kernel
theorem dX9_pulled_34 : decode cX9_pulled 34 = .ok (.iload 5, 2) := by decide +kernel
theorem dX9_pulled_36 : decode cX9_pulled 36 = .ok (.iaload, 1) := by decide +kernel
theorem dX9_pulled_37 : decode cX9_pulled 37 = .ok (.isub, 1) := by decide +kernel
theorem dX9_pulled_38 : decode cX9_pulled 38 = .ok (.istore 6, 2) := by decide +kernel
theorem dX9_pulled_40 : decode cX9_pulled 40 = .ok (.iload_n 2, 1) := by decide +kernel
theorem dX9_pulled_41 : decode cX9_pulled 41 = .ok (.iconst 1, 1) := by decide +kernel
theorem dX9_pulled_42 : decode cX9_pulled 42 = .ok (.if_icmp .ne 23, 3) := by decide +kernel
theorem dX9_pulled_45 : decode cX9_pulled 45 = .ok (.iload_n 3, 1) := by decide +kernel
theorem dX9_pulled_46 : decode cX9_pulled 46 = .ok (.ifCond .ne 19, 3) := by decide +kernel
theorem dX9_pulled_49 : decode cX9_pulled 49 = .ok (.iload 6, 2) := by decide +kernel
theorem dX9_pulled_51 : decode cX9_pulled 51 = .ok (.iload 6, 2) := by decide +kernel
theorem dX9_pulled_53 : decode cX9_pulled 53 = .ok (.iconst 5, 1) := by decide +kernel
theorem dX9_pulled_54 : decode cX9_pulled 54 = .ok (.if_icmp .ge 7, 3) := by decide +kernel
theorem dX9_pulled_57 : decode cX9_pulled 57 = .ok (.iconst 1, 1) := by decide +kernel
theorem dX9_pulled_58 : decode cX9_pulled 58 = .ok (.goto 4, 3) := by decide +kernel
theorem dX9_pulled_61 : decode cX9_pulled 61 = .ok (.iconst 0, 1) := by decide +kernel
theorem dX9_pulled_62 : decode cX9_pulled 62 = .ok (.iadd, 1) := by decide +kernel
theorem dX9_pulled_63 : decode cX9_pulled 63 = .ok (.istore 6, 2) := by decide +kernel
theorem dX9_pulled_65 : decode cX9_pulled 65 = .ok (.iload_n 2, 1) := by decide +kernel
theorem dX9_pulled_66 : decode cX9_pulled 66 = .ok (.ifCond .ne 23, 3) := by decide +kernel
theorem dX9_pulled_69 : decode cX9_pulled 69 = .ok (.iload_n 3, 1) := by decide +kernel
theorem dX9_pulled_70 : decode cX9_pulled 70 = .ok (.iconst 1, 1) := by decide +kernel
theorem dX9_pulled_71 : decode cX9_pulled 71 = .ok (.if_icmp .ne 18, 3) := by decide +kernel
theorem dX9_pulled_74 : decode cX9_pulled 74 = .ok (.iload 6, 2) := by decide +kernel
theorem dX9_pulled_76 : decode cX9_pulled 76 = .ok (.iload 6, 2) := by decide +kernel
theorem dX9_pulled_78 : decode cX9_pulled 78 = .ok (.ifCond .le 7, 3) := by decide +kernel
theorem dX9_pulled_81 : decode cX9_pulled 81 = .ok (.iconst 1, 1) := by decide +kernel
theorem dX9_pulled_82 : decode cX9_pulled 82 = .ok (.goto 4, 3) := by decide +kernel
theorem dX9_pulled_85 : decode cX9_pulled 85 = .ok (.iconst 0, 1) := by decide +kernel
theorem dX9_pulled_86 : decode cX9_pulled 86 = .ok (.isub, 1) := by decide +kernel
theorem dX9_pulled_87 : decode cX9_pulled 87 = .ok (.istore 6, 2) := by decide +kernel
theorem dX9_pulled_89 : decode cX9_pulled 89 = .ok (.iload 4, 2) := by decide +kernel
theorem dX9_pulled_91 : decode cX9_pulled 91 = .ok (.iload 6, 2) := by decide +kernel
theorem dX9_pulled_93 : decode cX9_pulled 93 = .ok (.iadd, 1) := by decide +kernel
theorem dX9_pulled_94 : decode cX9_pulled 94 = .ok (.istore 4, 2) := by decide +kernel
theorem dX9_pulled_96 : decode cX9_pulled 96 = .ok (.iinc 5 1, 3) := by decide +kernel
theorem dX9_pulled_99 : decode cX9_pulled 99 = .ok (.goto (-93), 3) := by decide +kernel
theorem dX9_pulled_102 : decode cX9_pulled 102 = .ok (.iload 4, 2) := by decide +kernel
theorem dX9_pulled_104 : decode cX9_pulled 104 = .ok (.iconst 2, 1) := by decide +kernel
theorem dX9_pulled_105 : decode cX9_pulled 105 = .ok (.iload_n 2, 1) := by decide +kernel
theorem dX9_pulled_106 : decode cX9_pulled 106 = .ok (.imul, 1) := by decide +kernel
theorem dX9_pulled_107 : decode cX9_pulled 107 = .ok (.isub, 1) := by decide +kernel
theorem dX9_pulled_108 : decode cX9_pulled 108 = .ok (.ireturn, 1) := by decide +kernel
theorem dX9_rests_0 : decode cX9_rests 0 = .ok (.aload_n 0, 1) := by decide +kernel
theorem dX9_rests_1 : decode cX9_rests 1 = .ok (.iconst 0, 1) := by decide +kernel
theorem dX9_rests_2 : decode cX9_rests 2 = .ok (.putfield 68, 3) := by decide +kernel
theorem dX9_rests_5 : decode cX9_rests 5 = .ok (.iload_n 1, 1) := by decide +kernel
theorem dX9_rests_6 : decode cX9_rests 6 = .ok (.i2l, 1) := by decide +kernel
theorem dX9_rests_7 : decode cX9_rests 7 = .ok (.lconst 0, 1) := by decide +kernel
theorem dX9_rests_8 : decode cX9_rests 8 = .ok (.lconst 1, 1) := by decide +kernel
theorem dX9_rests_9 : decode cX9_rests 9 = .ok (.invokestatic 74, 3) := by decide +kernel
theorem dX9_rests_12 : decode cX9_rests 12 = .ok (.ifCond .ne 6, 3) := by decide +kernel
theorem dX9_rests_15 : decode cX9_rests 15 = .ok (.bipush (-2), 2) := by decide +kernel
theorem dX9_rests_17 : decode cX9_rests 17 = .ok (.ireturn, 1) := by decide +kernel
theorem dX9_rests_18 : decode cX9_rests 18 = .ok (.aload_n 0, 1) := by decide +kernel
theorem dX9_rests_19 : decode cX9_rests 19 = .ok (.iconst 0, 1) := by decide +kernel
theorem dX9_rests_20 : decode cX9_rests 20 = .ok (.putfield 231, 3) := by decide +kernel
theorem dX9_rests_23 : decode cX9_rests 23 = .ok (.aload_n 0, 1) := by decide +kernel
theorem dX9_rests_24 : decode cX9_rests 24 = .ok (.bipush (-9), 2) := by decide +kernel
theorem dX9_rests_26 : decode cX9_rests 26 = .ok (.putfield 234, 3) := by decide +kernel
theorem dX9_rests_29 : decode cX9_rests 29 = .ok (.iconst 0, 1) := by decide +kernel
theorem dX9_rests_30 : decode cX9_rests 30 = .ok (.istore_n 2, 1) := by decide +kernel
theorem dX9_rests_31 : decode cX9_rests 31 = .ok (.iload_n 2, 1) := by decide +kernel
theorem dX9_rests_32 : decode cX9_rests 32 = .ok (.iconst 2, 1) := by decide +kernel
theorem dX9_rests_33 : decode cX9_rests 33 = .ok (.if_icmp .ge 115, 3) := by decide +kernel
theorem dX9_rests_36 : decode cX9_rests 36 = .ok (.iconst 0, 1) := by decide +kernel
theorem dX9_rests_37 : decode cX9_rests 37 = .ok (.istore_n 3, 1) := by decide +kernel
theorem dX9_rests_38 : decode cX9_rests 38 = .ok (.iload_n 3, 1) := by decide +kernel
theorem dX9_rests_39 : decode cX9_rests 39 = .ok (.iconst 2, 1) := by decide +kernel
theorem dX9_rests_40 : decode cX9_rests 40 = .ok (.if_icmp .ge 102, 3) := by decide +kernel
theorem dX9_rests_43 : decode cX9_rests 43 = .ok (.aload_n 0, 1) := by decide +kernel
theorem dX9_rests_44 : decode cX9_rests 44 = .ok (.iconst 0, 1) := by decide +kernel
theorem dX9_rests_45 : decode cX9_rests 45 = .ok (.iconst 1, 1) := by decide +kernel
theorem dX9_rests_46 : decode cX9_rests 46 = .ok (.iload_n 2, 1) := by decide +kernel
theorem dX9_rests_47 : decode cX9_rests 47 = .ok (.isub, 1) := by decide +kernel
theorem dX9_rests_48 : decode cX9_rests 48 = .ok (.iload_n 3, 1) := by decide +kernel
theorem dX9_rests_49 : decode cX9_rests 49 = .ok (.invokevirtual 237, 3) := by decide +kernel
theorem dX9_rests_52 : decode cX9_rests 52 = .ok (.aload_n 0, 1) := by decide +kernel
theorem dX9_rests_53 : decode cX9_rests 53 = .ok (.iconst 0, 1) := by decide +kernel
theorem dX9_rests_54 : decode cX9_rests 54 = .ok (.iload_n 2, 1) := by decide +kernel
theorem dX9_rests_55 : decode cX9_rests 55 = .ok (.iload_n 3, 1) := by decide +kernel
theorem dX9_rests_56 : decode cX9_rests 56 = .ok (.invokevirtual 237, 3) := by decide +kernel
theorem dX9_rests_59 : decode cX9_rests 59 = .ok (.if_icmp .gt 26, 3) := by decide +kernel
theorem dX9_rests_62 : decode cX9_rests 62 = .ok (.aload_n 0, 1) := by decide +kernel
theorem dX9_rests_63 : decode cX9_rests 63 = .ok (.iconst 1, 1) := by decide +kernel
theorem dX9_rests_64 : decode cX9_rests 64 = .ok (.iconst 1, 1) := by decide +kernel
theorem dX9_rests_65 : decode cX9_rests 65 = .ok (.iload_n 3, 1) := by decide +kernel
theorem dX9_rests_66 : decode cX9_rests 66 = .ok (.isub, 1) := by decide +kernel
theorem dX9_rests_67 : decode cX9_rests 67 = .ok (.iload_n 2, 1) := by decide +kernel
theorem dX9_rests_68 : decode cX9_rests 68 = .ok (.invokevirtual 237, 3) := by decide +kernel
theorem dX9_rests_71 : decode cX9_rests 71 = .ok (.aload_n 0, 1) := by decide +kernel
theorem dX9_rests_72 : decode cX9_rests 72 = .ok (.iconst 1, 1) := by decide +kernel
theorem dX9_rests_73 : decode cX9_rests 73 = .ok (.iload_n 3, 1) := by decide +kernel
theorem dX9_rests_74 : decode cX9_rests 74 = .ok (.iload_n 2, 1) := by decide +kernel
theorem dX9_rests_75 : decode cX9_rests 75 = .ok (.invokevirtual 237, 3) := by decide +kernel
theorem dX9_rests_78 : decode cX9_rests 78 = .ok (.if_icmp .gt 7, 3) := by decide +kernel
theorem dX9_rests_81 : decode cX9_rests 81 = .ok (.iconst 1, 1) := by decide +kernel
theorem dX9_rests_82 : decode cX9_rests 82 = .ok (.goto 4, 3) := by decide +kernel
theorem dX9_rests_85 : decode cX9_rests 85 = .ok (.iconst 0, 1) := by decide +kernel
theorem dX9_rests_86 : decode cX9_rests 86 = .ok (.istore 4, 2) := by decide +kernel
theorem dX9_rests_88 : decode cX9_rests 88 = .ok (.aload_n 0, 1) := by decide +kernel
theorem dX9_rests_89 : decode cX9_rests 89 = .ok (.iload 4, 2) := by decide +kernel
theorem dX9_rests_91 : decode cX9_rests 91 = .ok (.ifCond .eq 19, 3) := by decide +kernel
theorem dX9_rests_94 : decode cX9_rests 94 = .ok (.aload_n 0, 1) := by decide +kernel
theorem dX9_rests_95 : decode cX9_rests 95 = .ok (.getfield 231, 3) := by decide +kernel
theorem dX9_rests_98 : decode cX9_rests 98 = .ok (.ifCond .ne 12, 3) := by decide +kernel
theorem dX9_rests_101 : decode cX9_rests 101 = .ok (.bipush 10, 2) := by decide +kernel
theorem dX9_rests_103 : decode cX9_rests 103 = .ok (.iload_n 2, 1) := by decide +kernel
theorem dX9_rests_104 : decode cX9_rests 104 = .ok (.imul, 1) := by decide +kernel
theorem dX9_rests_105 : decode cX9_rests 105 = .ok (.iload_n 3, 1) := by decide +kernel
theorem dX9_rests_106 : decode cX9_rests 106 = .ok (.iadd, 1) := by decide +kernel
theorem dX9_rests_107 : decode cX9_rests 107 = .ok (.goto 7, 3) := by decide +kernel
theorem dX9_rests_110 : decode cX9_rests 110 = .ok (.aload_n 0, 1) := by decide +kernel
theorem dX9_rests_111 : decode cX9_rests 111 = .ok (.getfield 234, 3) := by decide +kernel
theorem dX9_rests_114 : decode cX9_rests 114 = .ok (.putfield 234, 3) := by decide +kernel
theorem dX9_rests_117 : decode cX9_rests 117 = .ok (.aload_n 0, 1) := by decide +kernel
theorem dX9_rests_118 : decode cX9_rests 118 = .ok (.dup, 1) := by decide +kernel
theorem dX9_rests_119 : decode cX9_rests 119 = .ok (.getfield 231, 3) := by decide +kernel
theorem dX9_rests_122 : decode cX9_rests 122 = .ok (.iload 4, 2) := by decide +kernel
theorem dX9_rests_124 : decode cX9_rests 124 = .ok (.ifCond .eq 7, 3) := by decide +kernel
theorem dX9_rests_127 : decode cX9_rests 127 = .ok (.iconst 1, 1) := by decide +kernel
theorem dX9_rests_128 : decode cX9_rests 128 = .ok (.goto 4, 3) := by decide +kernel
theorem dX9_rests_131 : decode cX9_rests 131 = .ok (.iconst 0, 1) := by decide +kernel
theorem dX9_rests_132 : decode cX9_rests 132 = .ok (.iadd, 1) := by decide +kernel
theorem dX9_rests_133 : decode cX9_rests 133 = .ok (.putfield 231, 3) := by decide +kernel
theorem dX9_rests_136 : decode cX9_rests 136 = .ok (.iinc 3 1, 3) := by decide +kernel
theorem dX9_rests_139 : decode cX9_rests 139 = .ok (.goto (-101), 3) := by decide +kernel
theorem dX9_rests_142 : decode cX9_rests 142 = .ok (.iinc 2 1, 3) := by decide +kernel
theorem dX9_rests_145 : decode cX9_rests 145 = .ok (.goto (-114), 3) := by decide +kernel
theorem dX9_rests_148 : decode cX9_rests 148 = .ok (.iload_n 1, 1) := by decide +kernel
theorem dX9_rests_149 : decode cX9_rests 149 = .ok (.ifCond .ne 10, 3) := by decide +kernel
theorem dX9_rests_152 : decode cX9_rests 152 = .ok (.aload_n 0, 1) := by decide +kernel
theorem dX9_rests_153 : decode cX9_rests 153 = .ok (.getfield 231, 3) := by decide +kernel
theorem dX9_rests_156 : decode cX9_rests 156 = .ok (.goto 7, 3) := by decide +kernel
theorem dX9_rests_159 : decode cX9_rests 159 = .ok (.aload_n 0, 1) := by decide +kernel
theorem dX9_rests_160 : decode cX9_rests 160 = .ok (.getfield 234, 3) := by decide +kernel
theorem dX9_rests_163 : decode cX9_rests 163 = .ok (.ireturn, 1) := by decide +kernel
theorem dX9_slips_0 : decode cX9_slips 0 = .ok (.aload_n 0, 1) := by decide +kernel
theorem dX9_slips_1 : decode cX9_slips 1 = .ok (.iconst 0, 1) := by decide +kernel
theorem dX9_slips_2 : decode cX9_slips 2 = .ok (.putfield 68, 3) := by decide +kernel
theorem dX9_slips_5 : decode cX9_slips 5 = .ok (.iload_n 1, 1) := by decide +kernel
theorem dX9_slips_6 : decode cX9_slips 6 = .ok (.i2l, 1) := by decide +kernel
theorem dX9_slips_7 : decode cX9_slips 7 = .ok (.lconst 0, 1) := by decide +kernel
theorem dX9_slips_8 : decode cX9_slips 8 = .ok (.aload_n 0, 1) := by decide +kernel
theorem dX9_slips_9 : decode cX9_slips 9 = .ok (.getfield 120, 3) := by decide +kernel
theorem dX9_slips_12 : decode cX9_slips 12 = .ok (.iconst 1, 1) := by decide +kernel
theorem dX9_slips_13 : decode cX9_slips 13 = .ok (.isub, 1) := by decide +kernel
theorem dX9_slips_14 : decode cX9_slips 14 = .ok (.i2l, 1) := by decide +kernel
theorem dX9_slips_15 : decode cX9_slips 15 = .ok (.invokestatic 74, 3) := by decide +kernel
theorem dX9_slips_18 : decode cX9_slips 18 = .ok (.ifCond .ne 5, 3) := by decide +kernel
theorem dX9_slips_21 : decode cX9_slips 21 = .ok (.iconst (-1), 1) := by decide +kernel
theorem dX9_slips_22 : decode cX9_slips 22 = .ok (.ireturn, 1) := by decide +kernel
theorem dX9_slips_23 : decode cX9_slips 23 = .ok (.iload_n 2, 1) := by decide +kernel
theorem dX9_slips_24 : decode cX9_slips 24 = .ok (.i2l, 1) := by decide +kernel
theorem dX9_slips_25 : decode cX9_slips 25 = .ok (.lconst 0, 1) := by decide +kernel
theorem dX9_slips_26 : decode cX9_slips 26 = .ok (.lconst 1, 1) := by decide +kernel
theorem dX9_slips_27 : decode cX9_slips 27 = .ok (.invokestatic 74, 3) := by decide +kernel
theorem dX9_slips_30 : decode cX9_slips 30 = .ok (.ifCond .eq 15, 3) := by decide +kernel
theorem dX9_slips_33 : decode cX9_slips 33 = .ok (.iload_n 3, 1) := by decide +kernel
theorem dX9_slips_34 : decode cX9_slips 34 = .ok (.i2l, 1) := by decide +kernel
theorem dX9_slips_35 : decode cX9_slips 35 = .ok (.lconst 0, 1) := by decide +kernel
theorem dX9_slips_36 : decode cX9_slips 36 = .ok (.ldc2_w 240, 3) := by decide +kernel
theorem dX9_slips_39 : decode cX9_slips 39 = .ok (.invokestatic 74, 3) := by decide +kernel
theorem dX9_slips_42 : decode cX9_slips 42 = .ok (.ifCond .ne 6, 3) := by decide +kernel
theorem dX9_slips_45 : decode cX9_slips 45 = .ok (.bipush (-2), 2) := by decide +kernel
theorem dX9_slips_47 : decode cX9_slips 47 = .ok (.ireturn, 1) := by decide +kernel
theorem dX9_slips_48 : decode cX9_slips 48 = .ok (.iconst 0, 1) := by decide +kernel
theorem dX9_slips_49 : decode cX9_slips 49 = .ok (.istore 5, 2) := by decide +kernel
theorem dX9_slips_51 : decode cX9_slips 51 = .ok (.iconst 0, 1) := by decide +kernel
theorem dX9_slips_52 : decode cX9_slips 52 = .ok (.istore 6, 2) := by decide +kernel
theorem dX9_slips_54 : decode cX9_slips 54 = .ok (.iload 6, 2) := by decide +kernel
theorem dX9_slips_56 : decode cX9_slips 56 = .ok (.iconst 1, 1) := by decide +kernel
theorem dX9_slips_57 : decode cX9_slips 57 = .ok (.aload_n 0, 1) := by decide +kernel
theorem dX9_slips_58 : decode cX9_slips 58 = .ok (.getfield 114, 3) := by decide +kernel
theorem dX9_slips_61 : decode cX9_slips 61 = .ok (.ishl, 1) := by decide +kernel
theorem dX9_slips_62 : decode cX9_slips 62 = .ok (.if_icmp .ge 139, 3) := by decide +kernel
theorem dX9_slips_65 : decode cX9_slips 65 = .ok (.aload_n 0, 1) := by decide +kernel
theorem dX9_slips_66 : decode cX9_slips 66 = .ok (.getfield 34, 3) := by decide +kernel
theorem dX9_slips_69 : decode cX9_slips 69 = .ok (.aload_n 0, 1) := by decide +kernel
theorem dX9_slips_70 : decode cX9_slips 70 = .ok (.getfield 37, 3) := by decide +kernel
theorem dX9_slips_73 : decode cX9_slips 73 = .ok (.bipush 31, 2) := by decide +kernel
theorem dX9_slips_75 : decode cX9_slips 75 = .ok (.invokestatic 123, 3) := by decide +kernel
theorem dX9_slips_78 : decode cX9_slips 78 = .ok (.iconst 0, 1) := by decide +kernel
theorem dX9_slips_79 : decode cX9_slips 79 = .ok (.istore 7, 2) := by decide +kernel
theorem dX9_slips_81 : decode cX9_slips 81 = .ok (.iload 7, 2) := by decide +kernel
theorem dX9_slips_83 : decode cX9_slips 83 = .ok (.aload_n 0, 1) := by decide +kernel
theorem dX9_slips_84 : decode cX9_slips 84 = .ok (.getfield 114, 3) := by decide +kernel
theorem dX9_slips_87 : decode cX9_slips 87 = .ok (.if_icmp .ge 45, 3) := by decide +kernel
theorem dX9_slips_90 : decode cX9_slips 90 = .ok (.aload_n 0, 1) := by decide +kernel
theorem dX9_slips_91 : decode cX9_slips 91 = .ok (.getfield 37, 3) := by decide +kernel
theorem dX9_slips_94 : decode cX9_slips 94 = .ok (.iload 7, 2) := by decide +kernel
theorem dX9_slips_96 : decode cX9_slips 96 = .ok (.dup2, 1) := by decide +kernel
theorem dX9_slips_97 : decode cX9_slips 97 = .ok (.iaload, 1) := by decide +kernel
theorem dX9_slips_98 : decode cX9_slips 98 = .ok (.iload 6, 2) := by decide +kernel
theorem dX9_slips_100 : decode cX9_slips 100 = .ok (.iload 7, 2) := by decide +kernel
theorem dX9_slips_102 : decode cX9_slips 102 = .ok (.invokestatic 130, 3) := by decide +kernel
theorem dX9_slips_105 : decode cX9_slips 105 = .ok (.ifCond .eq 18, 3) := by decide +kernel
theorem dX9_slips_108 : decode cX9_slips 108 = .ok (.aload_n 0, 1) := by decide +kernel
theorem dX9_slips_109 : decode cX9_slips 109 = .ok (.getfield 37, 3) := by decide +kernel
theorem dX9_slips_112 : decode cX9_slips 112 = .ok (.iload 7, 2) := by decide +kernel
theorem dX9_slips_114 : decode cX9_slips 114 = .ok (.iaload, 1) := by decide +kernel
theorem dX9_slips_115 : decode cX9_slips 115 = .ok (.iconst 5, 1) := by decide +kernel
theorem dX9_slips_116 : decode cX9_slips 116 = .ok (.if_icmp .ge 7, 3) := by decide +kernel
theorem dX9_slips_119 : decode cX9_slips 119 = .ok (.iconst 1, 1) := by decide +kernel
theorem dX9_slips_120 : decode cX9_slips 120 = .ok (.goto 4, 3) := by decide +kernel
theorem dX9_slips_123 : decode cX9_slips 123 = .ok (.iconst 0, 1) := by decide +kernel
theorem dX9_slips_124 : decode cX9_slips 124 = .ok (.iadd, 1) := by decide +kernel
theorem dX9_slips_125 : decode cX9_slips 125 = .ok (.iastore, 1) := by decide +kernel
theorem dX9_slips_126 : decode cX9_slips 126 = .ok (.iinc 7 1, 3) := by decide +kernel
theorem dX9_slips_129 : decode cX9_slips 129 = .ok (.goto (-48), 3) := by decide +kernel
theorem dX9_slips_132 : decode cX9_slips 132 = .ok (.aload_n 0, 1) := by decide +kernel
theorem dX9_slips_133 : decode cX9_slips 133 = .ok (.aload_n 0, 1) := by decide +kernel
theorem dX9_slips_134 : decode cX9_slips 134 = .ok (.getfield 37, 3) := by decide +kernel
theorem dX9_slips_137 : decode cX9_slips 137 = .ok (.invokevirtual 152, 3) := by decide +kernel
theorem dX9_slips_140 : decode cX9_slips 140 = .ok (.iload 6, 2) := by decide +kernel
theorem dX9_slips_142 : decode cX9_slips 142 = .ok (.invokestatic 198, 3) := by decide +kernel
theorem dX9_slips_145 : decode cX9_slips 145 = .ok (.istore 7, 2) := by decide +kernel
theorem dX9_slips_147 : decode cX9_slips 147 = .ok (.iload 5, 2) := by decide +kernel
theorem dX9_slips_149 : decode cX9_slips 149 = .ok (.aload_n 0, 1) := by decide +kernel
theorem dX9_slips_150 : decode cX9_slips 150 = .ok (.aload_n 0, 1) := by decide +kernel
theorem dX9_slips_151 : decode cX9_slips 151 = .ok (.getfield 37, 3) := by decide +kernel
theorem dX9_slips_154 : decode cX9_slips 154 = .ok (.iload_n 2, 1) := by decide +kernel
theorem dX9_slips_155 : decode cX9_slips 155 = .ok (.bipush 31, 2) := by decide +kernel
theorem dX9_slips_157 : decode cX9_slips 157 = .ok (.invokevirtual 179, 3) := by decide +kernel
theorem dX9_slips_160 : decode cX9_slips 160 = .ok (.iload_n 1, 1) := by decide +kernel
theorem dX9_slips_161 : decode cX9_slips 161 = .ok (.invokestatic 130, 3) := by decide +kernel
theorem dX9_slips_164 : decode cX9_slips 164 = .ok (.ifCond .eq 27, 3) := by decide +kernel
theorem dX9_slips_167 : decode cX9_slips 167 = .ok (.iload_n 3, 1) := by decide +kernel
theorem dX9_slips_168 : decode cX9_slips 168 = .ok (.iload 7, 2) := by decide +kernel
theorem dX9_slips_170 : decode cX9_slips 170 = .ok (.invokestatic 142, 3) := by decide +kernel
theorem dX9_slips_173 : decode cX9_slips 173 = .ok (.bipush 10, 2) := by decide +kernel
theorem dX9_slips_175 : decode cX9_slips 175 = .ok (.iload_n 3, 1) := by decide +kernel
theorem dX9_slips_176 : decode cX9_slips 176 = .ok (.isub, 1) := by decide +kernel
theorem dX9_slips_177 : decode cX9_slips 177 = .ok (.aload_n 0, 1) := by decide +kernel
theorem dX9_slips_178 : decode cX9_slips 178 = .ok (.getfield 114, 3) := by decide +kernel
theorem dX9_slips_181 : decode cX9_slips 181 = .ok (.iload 7, 2) := by decide +kernel
theorem dX9_slips_183 : decode cX9_slips 183 = .ok (.isub, 1) := by decide +kernel
theorem dX9_slips_184 : decode cX9_slips 184 = .ok (.invokestatic 142, 3) := by decide +kernel
theorem dX9_slips_187 : decode cX9_slips 187 = .ok (.imul, 1) := by decide +kernel
theorem dX9_slips_188 : decode cX9_slips 188 = .ok (.goto 4, 3) := by decide +kernel
theorem dX9_slips_191 : decode cX9_slips 191 = .ok (.iconst 0, 1) := by decide +kernel
theorem dX9_slips_192 : decode cX9_slips 192 = .ok (.iadd, 1) := by decide +kernel
theorem dX9_slips_193 : decode cX9_slips 193 = .ok (.istore 5, 2) := by decide +kernel
theorem dX9_slips_195 : decode cX9_slips 195 = .ok (.iinc 6 1, 3) := by decide +kernel
theorem dX9_slips_198 : decode cX9_slips 198 = .ok (.goto (-144), 3) := by decide +kernel
theorem dX9_slips_201 : decode cX9_slips 201 = .ok (.iload 5, 2) := by decide +kernel
theorem dX9_slips_203 : decode cX9_slips 203 = .ok (.bipush 10, 2) := by decide +kernel
theorem dX9_slips_205 : decode cX9_slips 205 = .ok (.aload_n 0, 1) := by decide +kernel
theorem dX9_slips_206 : decode cX9_slips 206 = .ok (.getfield 114, 3) := by decide +kernel
theorem dX9_slips_209 : decode cX9_slips 209 = .ok (.invokestatic 142, 3) := by decide +kernel
theorem dX9_slips_212 : decode cX9_slips 212 = .ok (.iload 4, 2) := by decide +kernel
theorem dX9_slips_214 : decode cX9_slips 214 = .ok (.invokestatic 216, 3) := by decide +kernel
theorem dX9_slips_217 : decode cX9_slips 217 = .ok (.ireturn, 1) := by decide +kernel
theorem dX9_seed_0 : decode cX9_seed 0 = .ok (.aload_n 0, 1) := by decide +kernel
theorem dX9_seed_1 : decode cX9_seed 1 = .ok (.iconst 0, 1) := by decide +kernel
theorem dX9_seed_2 : decode cX9_seed 2 = .ok (.putfield 68, 3) := by decide +kernel
theorem dX9_seed_5 : decode cX9_seed 5 = .ok (.aload_n 0, 1) := by decide +kernel
theorem dX9_seed_6 : decode cX9_seed 6 = .ok (.getfield 242, 3) := by decide +kernel
theorem dX9_seed_9 : decode cX9_seed 9 = .ok (.lstore_n 3, 1) := by decide +kernel
theorem dX9_seed_10 : decode cX9_seed 10 = .ok (.aload_n 0, 1) := by decide +kernel
theorem dX9_seed_11 : decode cX9_seed 11 = .ok (.lload_n 1, 1) := by decide +kernel
theorem dX9_seed_12 : decode cX9_seed 12 = .ok (.putfield 242, 3) := by decide +kernel
theorem dX9_seed_15 : decode cX9_seed 15 = .ok (.lload_n 3, 1) := by decide +kernel
theorem dX9_seed_16 : decode cX9_seed 16 = .ok (.lreturn, 1) := by decide +kernel
theorem dX9_years_0 : decode cX9_years 0 = .ok (.aload_n 0, 1) := by decide +kernel
theorem dX9_years_1 : decode cX9_years 1 = .ok (.iconst 0, 1) := by decide +kernel
theorem dX9_years_2 : decode cX9_years 2 = .ok (.putfield 68, 3) := by decide +kernel
theorem dX9_years_5 : decode cX9_years 5 = .ok (.iload_n 1, 1) := by decide +kernel
theorem dX9_years_6 : decode cX9_years 6 = .ok (.i2l, 1) := by decide +kernel
theorem dX9_years_7 : decode cX9_years 7 = .ok (.lconst 1, 1) := by decide +kernel
theorem dX9_years_8 : decode cX9_years 8 = .ok (.ldc2_w 246, 3) := by decide +kernel
theorem dX9_years_11 : decode cX9_years 11 = .ok (.invokestatic 74, 3) := by decide +kernel
theorem dX9_years_14 : decode cX9_years 14 = .ok (.ifCond .ne 6, 3) := by decide +kernel
theorem dX9_years_17 : decode cX9_years 17 = .ok (.bipush (-2), 2) := by decide +kernel
theorem dX9_years_19 : decode cX9_years 19 = .ok (.ireturn, 1) := by decide +kernel
theorem dX9_years_20 : decode cX9_years 20 = .ok (.aload_n 0, 1) := by decide +kernel
theorem dX9_years_21 : decode cX9_years 21 = .ok (.getfield 34, 3) := by decide +kernel
theorem dX9_years_24 : decode cX9_years 24 = .ok (.aload_n 0, 1) := by decide +kernel
theorem dX9_years_25 : decode cX9_years 25 = .ok (.getfield 37, 3) := by decide +kernel
theorem dX9_years_28 : decode cX9_years 28 = .ok (.bipush 31, 2) := by decide +kernel
theorem dX9_years_30 : decode cX9_years 30 = .ok (.invokestatic 123, 3) := by decide +kernel
theorem dX9_years_33 : decode cX9_years 33 = .ok (.iconst 0, 1) := by decide +kernel
theorem dX9_years_34 : decode cX9_years 34 = .ok (.istore_n 2, 1) := by decide +kernel
theorem dX9_years_35 : decode cX9_years 35 = .ok (.iconst 0, 1) := by decide +kernel
theorem dX9_years_36 : decode cX9_years 36 = .ok (.istore_n 3, 1) := by decide +kernel
theorem dX9_years_37 : decode cX9_years 37 = .ok (.iload_n 3, 1) := by decide +kernel
theorem dX9_years_38 : decode cX9_years 38 = .ok (.iload_n 1, 1) := by decide +kernel
theorem dX9_years_39 : decode cX9_years 39 = .ok (.if_icmp .ge 74, 3) := by decide +kernel
theorem dX9_years_42 : decode cX9_years 42 = .ok (.aload_n 0, 1) := by decide +kernel
theorem dX9_years_43 : decode cX9_years 43 = .ok (.aload_n 0, 1) := by decide +kernel
theorem dX9_years_44 : decode cX9_years 44 = .ok (.getfield 242, 3) := by decide +kernel
theorem dX9_years_47 : decode cX9_years 47 = .ok (.ldc2_w 248, 3) := by decide +kernel
theorem dX9_years_50 : decode cX9_years 50 = .ok (.lmul, 1) := by decide +kernel
theorem dX9_years_51 : decode cX9_years 51 = .ok (.ldc2_w 250, 3) := by decide +kernel
theorem dX9_years_54 : decode cX9_years 54 = .ok (.ladd, 1) := by decide +kernel
theorem dX9_years_55 : decode cX9_years 55 = .ok (.putfield 242, 3) := by decide +kernel
theorem dX9_years_58 : decode cX9_years 58 = .ok (.aload_n 0, 1) := by decide +kernel
theorem dX9_years_59 : decode cX9_years 59 = .ok (.getfield 242, 3) := by decide +kernel
theorem dX9_years_62 : decode cX9_years 62 = .ok (.bipush 33, 2) := by decide +kernel
theorem dX9_years_64 : decode cX9_years 64 = .ok (.lushr, 1) := by decide +kernel
theorem dX9_years_65 : decode cX9_years 65 = .ok (.ldc2_w 252, 3) := by decide +kernel
theorem dX9_years_68 : decode cX9_years 68 = .ok (.lrem, 1) := by decide +kernel
theorem dX9_years_69 : decode cX9_years 69 = .ok (.l2i, 1) := by decide +kernel
theorem dX9_years_70 : decode cX9_years 70 = .ok (.istore 4, 2) := by decide +kernel
theorem dX9_years_72 : decode cX9_years 72 = .ok (.aload_n 0, 1) := by decide +kernel
theorem dX9_years_73 : decode cX9_years 73 = .ok (.bipush 10, 2) := by decide +kernel
theorem dX9_years_75 : decode cX9_years 75 = .ok (.iload 4, 2) := by decide +kernel
theorem dX9_years_77 : decode cX9_years 77 = .ok (.iconst 5, 1) := by decide +kernel
theorem dX9_years_78 : decode cX9_years 78 = .ok (.idiv, 1) := by decide +kernel
theorem dX9_years_79 : decode cX9_years 79 = .ok (.imul, 1) := by decide +kernel
theorem dX9_years_80 : decode cX9_years 80 = .ok (.iload 4, 2) := by decide +kernel
theorem dX9_years_82 : decode cX9_years 82 = .ok (.iconst 5, 1) := by decide +kernel
theorem dX9_years_83 : decode cX9_years 83 = .ok (.irem, 1) := by decide +kernel
theorem dX9_years_84 : decode cX9_years 84 = .ok (.iadd, 1) := by decide +kernel
theorem dX9_years_85 : decode cX9_years 85 = .ok (.invokevirtual 207, 3) := by decide +kernel
theorem dX9_years_88 : decode cX9_years 88 = .ok (.pop, 1) := by decide +kernel
theorem dX9_years_89 : decode cX9_years 89 = .ok (.aload_n 0, 1) := by decide +kernel
theorem dX9_years_90 : decode cX9_years 90 = .ok (.aload_n 0, 1) := by decide +kernel
theorem dX9_years_91 : decode cX9_years 91 = .ok (.getfield 37, 3) := by decide +kernel
theorem dX9_years_94 : decode cX9_years 94 = .ok (.invokevirtual 152, 3) := by decide +kernel
theorem dX9_years_97 : decode cX9_years 97 = .ok (.iload_n 2, 1) := by decide +kernel
theorem dX9_years_98 : decode cX9_years 98 = .ok (.aload_n 0, 1) := by decide +kernel
theorem dX9_years_99 : decode cX9_years 99 = .ok (.invokevirtual 163, 3) := by decide +kernel
theorem dX9_years_102 : decode cX9_years 102 = .ok (.invokestatic 198, 3) := by decide +kernel
theorem dX9_years_105 : decode cX9_years 105 = .ok (.iadd, 1) := by decide +kernel
theorem dX9_years_106 : decode cX9_years 106 = .ok (.istore_n 2, 1) := by decide +kernel
theorem dX9_years_107 : decode cX9_years 107 = .ok (.iinc 3 1, 3) := by decide +kernel
theorem dX9_years_110 : decode cX9_years 110 = .ok (.goto (-73), 3) := by decide +kernel
theorem dX9_years_113 : decode cX9_years 113 = .ok (.iload_n 2, 1) := by decide +kernel
theorem dX9_years_114 : decode cX9_years 114 = .ok (.ireturn, 1) := by decide +kernel
theorem dX9_keep_0 : decode cX9_keep 0 = .ok (.aload_n 0, 1) := by decide +kernel
theorem dX9_keep_1 : decode cX9_keep 1 = .ok (.iconst 0, 1) := by decide +kernel
theorem dX9_keep_2 : decode cX9_keep 2 = .ok (.putfield 68, 3) := by decide +kernel
theorem dX9_keep_5 : decode cX9_keep 5 = .ok (.iload_n 1, 1) := by decide +kernel
theorem dX9_keep_6 : decode cX9_keep 6 = .ok (.i2l, 1) := by decide +kernel
theorem dX9_keep_7 : decode cX9_keep 7 = .ok (.lconst 0, 1) := by decide +kernel
theorem dX9_keep_8 : decode cX9_keep 8 = .ok (.lconst 1, 1) := by decide +kernel
theorem dX9_keep_9 : decode cX9_keep 9 = .ok (.invokestatic 74, 3) := by decide +kernel
theorem dX9_keep_12 : decode cX9_keep 12 = .ok (.ifCond .ne 5, 3) := by decide +kernel
theorem dX9_keep_15 : decode cX9_keep 15 = .ok (.iconst (-1), 1) := by decide +kernel
theorem dX9_keep_16 : decode cX9_keep 16 = .ok (.ireturn, 1) := by decide +kernel
theorem dX9_keep_17 : decode cX9_keep 17 = .ok (.aload_n 0, 1) := by decide +kernel
theorem dX9_keep_18 : decode cX9_keep 18 = .ok (.getfield 46, 3) := by decide +kernel
theorem dX9_keep_21 : decode cX9_keep 21 = .ok (.iload_n 1, 1) := by decide +kernel
theorem dX9_keep_22 : decode cX9_keep 22 = .ok (.iconst 1, 1) := by decide +kernel
theorem dX9_keep_23 : decode cX9_keep 23 = .ok (.bastore, 1) := by decide +kernel
theorem dX9_keep_24 : decode cX9_keep 24 = .ok (.iconst 0, 1) := by decide +kernel
theorem dX9_keep_25 : decode cX9_keep 25 = .ok (.istore_n 2, 1) := by decide +kernel
theorem dX9_keep_26 : decode cX9_keep 26 = .ok (.iload_n 2, 1) := by decide +kernel
theorem dX9_keep_27 : decode cX9_keep 27 = .ok (.bipush 31, 2) := by decide +kernel
theorem dX9_keep_29 : decode cX9_keep 29 = .ok (.if_icmp .ge 26, 3) := by decide +kernel
theorem dX9_keep_32 : decode cX9_keep 32 = .ok (.aload_n 0, 1) := by decide +kernel
theorem dX9_keep_33 : decode cX9_keep 33 = .ok (.getfield 43, 3) := by decide +kernel
theorem dX9_keep_36 : decode cX9_keep 36 = .ok (.bipush 31, 2) := by decide +kernel
theorem dX9_keep_38 : decode cX9_keep 38 = .ok (.iload_n 1, 1) := by decide +kernel
theorem dX9_keep_39 : decode cX9_keep 39 = .ok (.imul, 1) := by decide +kernel
theorem dX9_keep_40 : decode cX9_keep 40 = .ok (.iload_n 2, 1) := by decide +kernel
theorem dX9_keep_41 : decode cX9_keep 41 = .ok (.iadd, 1) := by decide +kernel
theorem dX9_keep_42 : decode cX9_keep 42 = .ok (.aload_n 0, 1) := by decide +kernel
theorem dX9_keep_43 : decode cX9_keep 43 = .ok (.getfield 34, 3) := by decide +kernel
theorem dX9_keep_46 : decode cX9_keep 46 = .ok (.iload_n 2, 1) := by decide +kernel
theorem dX9_keep_47 : decode cX9_keep 47 = .ok (.iaload, 1) := by decide +kernel
theorem dX9_keep_48 : decode cX9_keep 48 = .ok (.iastore, 1) := by decide +kernel
theorem dX9_keep_49 : decode cX9_keep 49 = .ok (.iinc 2 1, 3) := by decide +kernel
theorem dX9_keep_52 : decode cX9_keep 52 = .ok (.goto (-26), 3) := by decide +kernel
theorem dX9_keep_55 : decode cX9_keep 55 = .ok (.aload_n 0, 1) := by decide +kernel
theorem dX9_keep_56 : decode cX9_keep 56 = .ok (.getfield 34, 3) := by decide +kernel
theorem dX9_keep_59 : decode cX9_keep 59 = .ok (.bipush 30, 2) := by decide +kernel
theorem dX9_keep_61 : decode cX9_keep 61 = .ok (.iaload, 1) := by decide +kernel
theorem dX9_keep_62 : decode cX9_keep 62 = .ok (.ireturn, 1) := by decide +kernel
theorem dX9_again_0 : decode cX9_again 0 = .ok (.aload_n 0, 1) := by decide +kernel
theorem dX9_again_1 : decode cX9_again 1 = .ok (.iconst 0, 1) := by decide +kernel
theorem dX9_again_2 : decode cX9_again 2 = .ok (.putfield 68, 3) := by decide +kernel
theorem dX9_again_5 : decode cX9_again 5 = .ok (.iload_n 1, 1) := by decide +kernel
theorem dX9_again_6 : decode cX9_again 6 = .ok (.i2l, 1) := by decide +kernel
theorem dX9_again_7 : decode cX9_again 7 = .ok (.lconst 0, 1) := by decide +kernel
theorem dX9_again_8 : decode cX9_again 8 = .ok (.lconst 1, 1) := by decide +kernel
theorem dX9_again_9 : decode cX9_again 9 = .ok (.invokestatic 74, 3) := by decide +kernel
theorem dX9_again_12 : decode cX9_again 12 = .ok (.ifCond .ne 5, 3) := by decide +kernel
theorem dX9_again_15 : decode cX9_again 15 = .ok (.iconst (-1), 1) := by decide +kernel
theorem dX9_again_16 : decode cX9_again 16 = .ok (.ireturn, 1) := by decide +kernel
theorem dX9_again_17 : decode cX9_again 17 = .ok (.aload_n 0, 1) := by decide +kernel
theorem dX9_again_18 : decode cX9_again 18 = .ok (.getfield 46, 3) := by decide +kernel
theorem dX9_again_21 : decode cX9_again 21 = .ok (.iload_n 1, 1) := by decide +kernel
theorem dX9_again_22 : decode cX9_again 22 = .ok (.baload, 1) := by decide +kernel
theorem dX9_again_23 : decode cX9_again 23 = .ok (.ifCond .ne 6, 3) := by decide +kernel
theorem dX9_again_26 : decode cX9_again 26 = .ok (.bipush (-3), 2) := by decide +kernel
theorem dX9_again_28 : decode cX9_again 28 = .ok (.ireturn, 1) := by decide +kernel
theorem dX9_again_29 : decode cX9_again 29 = .ok (.iconst 0, 1) := by decide +kernel
theorem dX9_again_30 : decode cX9_again 30 = .ok (.istore_n 2, 1) := by decide +kernel
theorem dX9_again_31 : decode cX9_again 31 = .ok (.iload_n 2, 1) := by decide +kernel
theorem dX9_again_32 : decode cX9_again 32 = .ok (.bipush 31, 2) := by decide +kernel
theorem dX9_again_34 : decode cX9_again 34 = .ok (.if_icmp .ge 26, 3) := by decide +kernel
theorem dX9_again_37 : decode cX9_again 37 = .ok (.aload_n 0, 1) := by decide +kernel
theorem dX9_again_38 : decode cX9_again 38 = .ok (.getfield 34, 3) := by decide +kernel
theorem dX9_again_41 : decode cX9_again 41 = .ok (.iload_n 2, 1) := by decide +kernel
theorem dX9_again_42 : decode cX9_again 42 = .ok (.aload_n 0, 1) := by decide +kernel
theorem dX9_again_43 : decode cX9_again 43 = .ok (.getfield 43, 3) := by decide +kernel
theorem dX9_again_46 : decode cX9_again 46 = .ok (.bipush 31, 2) := by decide +kernel
theorem dX9_again_48 : decode cX9_again 48 = .ok (.iload_n 1, 1) := by decide +kernel
theorem dX9_again_49 : decode cX9_again 49 = .ok (.imul, 1) := by decide +kernel
theorem dX9_again_50 : decode cX9_again 50 = .ok (.iload_n 2, 1) := by decide +kernel
theorem dX9_again_51 : decode cX9_again 51 = .ok (.iadd, 1) := by decide +kernel
theorem dX9_again_52 : decode cX9_again 52 = .ok (.iaload, 1) := by decide +kernel
theorem dX9_again_53 : decode cX9_again 53 = .ok (.iastore, 1) := by decide +kernel
theorem dX9_again_54 : decode cX9_again 54 = .ok (.iinc 2 1, 3) := by decide +kernel
theorem dX9_again_57 : decode cX9_again 57 = .ok (.goto (-26), 3) := by decide +kernel
theorem dX9_again_60 : decode cX9_again 60 = .ok (.aload_n 0, 1) := by decide +kernel
theorem dX9_again_61 : decode cX9_again 61 = .ok (.iconst 0, 1) := by decide +kernel
theorem dX9_again_62 : decode cX9_again 62 = .ok (.putfield 127, 3) := by decide +kernel
theorem dX9_again_65 : decode cX9_again 65 = .ok (.aload_n 0, 1) := by decide +kernel
theorem dX9_again_66 : decode cX9_again 66 = .ok (.getfield 34, 3) := by decide +kernel
theorem dX9_again_69 : decode cX9_again 69 = .ok (.bipush 30, 2) := by decide +kernel
theorem dX9_again_71 : decode cX9_again 71 = .ok (.iaload, 1) := by decide +kernel
theorem dX9_again_72 : decode cX9_again 72 = .ok (.ireturn, 1) := by decide +kernel
theorem dJ6_bitCount_0f7a4_0 : decode cJ6_bitCount_0f7a4 0 = .ok (.iload_n 0, 1) := by decide +kernel
theorem dJ6_bitCount_0f7a4_1 : decode cJ6_bitCount_0f7a4 1 = .ok (.iload_n 0, 1) := by decide +kernel
theorem dJ6_bitCount_0f7a4_2 : decode cJ6_bitCount_0f7a4 2 = .ok (.iconst 1, 1) := by decide +kernel
theorem dJ6_bitCount_0f7a4_3 : decode cJ6_bitCount_0f7a4 3 = .ok (.iushr, 1) := by decide +kernel
theorem dJ6_bitCount_0f7a4_4 : decode cJ6_bitCount_0f7a4 4 = .ok (.ldc_w 265, 3) := by decide +kernel
theorem dJ6_bitCount_0f7a4_7 : decode cJ6_bitCount_0f7a4 7 = .ok (.iand, 1) := by decide +kernel
theorem dJ6_bitCount_0f7a4_8 : decode cJ6_bitCount_0f7a4 8 = .ok (.isub, 1) := by decide +kernel
theorem dJ6_bitCount_0f7a4_9 : decode cJ6_bitCount_0f7a4 9 = .ok (.istore_n 0, 1) := by decide +kernel
theorem dJ6_bitCount_0f7a4_10 : decode cJ6_bitCount_0f7a4 10 = .ok (.iload_n 0, 1) := by decide +kernel
theorem dJ6_bitCount_0f7a4_11 : decode cJ6_bitCount_0f7a4 11 = .ok (.ldc_w 266, 3) := by decide +kernel
theorem dJ6_bitCount_0f7a4_14 : decode cJ6_bitCount_0f7a4 14 = .ok (.iand, 1) := by decide +kernel
theorem dJ6_bitCount_0f7a4_15 : decode cJ6_bitCount_0f7a4 15 = .ok (.iload_n 0, 1) := by decide +kernel
theorem dJ6_bitCount_0f7a4_16 : decode cJ6_bitCount_0f7a4 16 = .ok (.iconst 2, 1) := by decide +kernel
theorem dJ6_bitCount_0f7a4_17 : decode cJ6_bitCount_0f7a4 17 = .ok (.iushr, 1) := by decide +kernel
theorem dJ6_bitCount_0f7a4_18 : decode cJ6_bitCount_0f7a4 18 = .ok (.ldc_w 266, 3) := by decide +kernel
theorem dJ6_bitCount_0f7a4_21 : decode cJ6_bitCount_0f7a4 21 = .ok (.iand, 1) := by decide +kernel
theorem dJ6_bitCount_0f7a4_22 : decode cJ6_bitCount_0f7a4 22 = .ok (.iadd, 1) := by decide +kernel
theorem dJ6_bitCount_0f7a4_23 : decode cJ6_bitCount_0f7a4 23 = .ok (.istore_n 0, 1) := by decide +kernel
theorem dJ6_bitCount_0f7a4_24 : decode cJ6_bitCount_0f7a4 24 = .ok (.iload_n 0, 1) := by decide +kernel
theorem dJ6_bitCount_0f7a4_25 : decode cJ6_bitCount_0f7a4 25 = .ok (.iload_n 0, 1) := by decide +kernel
theorem dJ6_bitCount_0f7a4_26 : decode cJ6_bitCount_0f7a4 26 = .ok (.iconst 4, 1) := by decide +kernel
theorem dJ6_bitCount_0f7a4_27 : decode cJ6_bitCount_0f7a4 27 = .ok (.iushr, 1) := by decide +kernel
theorem dJ6_bitCount_0f7a4_28 : decode cJ6_bitCount_0f7a4 28 = .ok (.iadd, 1) := by decide +kernel
theorem dJ6_bitCount_0f7a4_29 : decode cJ6_bitCount_0f7a4 29 = .ok (.ldc_w 267, 3) := by decide +kernel
theorem dJ6_bitCount_0f7a4_32 : decode cJ6_bitCount_0f7a4 32 = .ok (.iand, 1) := by decide +kernel
theorem dJ6_bitCount_0f7a4_33 : decode cJ6_bitCount_0f7a4 33 = .ok (.istore_n 0, 1) := by decide +kernel
theorem dJ6_bitCount_0f7a4_34 : decode cJ6_bitCount_0f7a4 34 = .ok (.iload_n 0, 1) := by decide +kernel
theorem dJ6_bitCount_0f7a4_35 : decode cJ6_bitCount_0f7a4 35 = .ok (.iload_n 0, 1) := by decide +kernel
theorem dJ6_bitCount_0f7a4_36 : decode cJ6_bitCount_0f7a4 36 = .ok (.bipush 8, 2) := by decide +kernel
theorem dJ6_bitCount_0f7a4_38 : decode cJ6_bitCount_0f7a4 38 = .ok (.iushr, 1) := by decide +kernel
theorem dJ6_bitCount_0f7a4_39 : decode cJ6_bitCount_0f7a4 39 = .ok (.iadd, 1) := by decide +kernel
theorem dJ6_bitCount_0f7a4_40 : decode cJ6_bitCount_0f7a4 40 = .ok (.istore_n 0, 1) := by decide +kernel
theorem dJ6_bitCount_0f7a4_41 : decode cJ6_bitCount_0f7a4 41 = .ok (.iload_n 0, 1) := by decide +kernel
theorem dJ6_bitCount_0f7a4_42 : decode cJ6_bitCount_0f7a4 42 = .ok (.iload_n 0, 1) := by decide +kernel
theorem dJ6_bitCount_0f7a4_43 : decode cJ6_bitCount_0f7a4 43 = .ok (.bipush 16, 2) := by decide +kernel
theorem dJ6_bitCount_0f7a4_45 : decode cJ6_bitCount_0f7a4 45 = .ok (.iushr, 1) := by decide +kernel
theorem dJ6_bitCount_0f7a4_46 : decode cJ6_bitCount_0f7a4 46 = .ok (.iadd, 1) := by decide +kernel
theorem dJ6_bitCount_0f7a4_47 : decode cJ6_bitCount_0f7a4 47 = .ok (.istore_n 0, 1) := by decide +kernel
theorem dJ6_bitCount_0f7a4_48 : decode cJ6_bitCount_0f7a4 48 = .ok (.iload_n 0, 1) := by decide +kernel
theorem dJ6_bitCount_0f7a4_49 : decode cJ6_bitCount_0f7a4 49 = .ok (.bipush 63, 2) := by decide +kernel
theorem dJ6_bitCount_0f7a4_51 : decode cJ6_bitCount_0f7a4 51 = .ok (.iand, 1) := by decide +kernel
theorem dJ6_bitCount_0f7a4_52 : decode cJ6_bitCount_0f7a4 52 = .ok (.ireturn, 1) := by decide +kernel
theorem dJ9_abs_0f7a4_0 : decode cJ9_abs_0f7a4 0 = .ok (.iload_n 0, 1) := by decide +kernel
theorem dJ9_abs_0f7a4_1 : decode cJ9_abs_0f7a4 1 = .ok (.ifCond .ge 8, 3) := by decide +kernel
theorem dJ9_abs_0f7a4_4 : decode cJ9_abs_0f7a4 4 = .ok (.iload_n 0, 1) := by decide +kernel
theorem dJ9_abs_0f7a4_5 : decode cJ9_abs_0f7a4 5 = .ok (.ineg, 1) := by decide +kernel
theorem dJ9_abs_0f7a4_6 : decode cJ9_abs_0f7a4 6 = .ok (.goto 4, 3) := by decide +kernel
theorem dJ9_abs_0f7a4_9 : decode cJ9_abs_0f7a4 9 = .ok (.iload_n 0, 1) := by decide +kernel
theorem dJ9_abs_0f7a4_10 : decode cJ9_abs_0f7a4 10 = .ok (.ireturn, 1) := by decide +kernel
theorem dJ9_max_7cf53_0 : decode cJ9_max_7cf53 0 = .ok (.iload_n 0, 1) := by decide +kernel
theorem dJ9_max_7cf53_1 : decode cJ9_max_7cf53 1 = .ok (.iload_n 1, 1) := by decide +kernel
theorem dJ9_max_7cf53_2 : decode cJ9_max_7cf53 2 = .ok (.if_icmp .lt 7, 3) := by decide +kernel
theorem dJ9_max_7cf53_5 : decode cJ9_max_7cf53 5 = .ok (.iload_n 0, 1) := by decide +kernel
theorem dJ9_max_7cf53_6 : decode cJ9_max_7cf53 6 = .ok (.goto 4, 3) := by decide +kernel
theorem dJ9_max_7cf53_9 : decode cJ9_max_7cf53 9 = .ok (.iload_n 1, 1) := by decide +kernel
theorem dJ9_max_7cf53_10 : decode cJ9_max_7cf53 10 = .ok (.ireturn, 1) := by decide +kernel
theorem dJ9_min_7cf53_0 : decode cJ9_min_7cf53 0 = .ok (.iload_n 0, 1) := by decide +kernel
theorem dJ9_min_7cf53_1 : decode cJ9_min_7cf53 1 = .ok (.iload_n 1, 1) := by decide +kernel
theorem dJ9_min_7cf53_2 : decode cJ9_min_7cf53 2 = .ok (.if_icmp .gt 7, 3) := by decide +kernel
theorem dJ9_min_7cf53_5 : decode cJ9_min_7cf53 5 = .ok (.iload_n 0, 1) := by decide +kernel
theorem dJ9_min_7cf53_6 : decode cJ9_min_7cf53 6 = .ok (.goto 4, 3) := by decide +kernel
theorem dJ9_min_7cf53_9 : decode cJ9_min_7cf53 9 = .ok (.iload_n 1, 1) := by decide +kernel
theorem dJ9_min_7cf53_10 : decode cJ9_min_7cf53 10 = .ok (.ireturn, 1) := by decide +kernel
theorem dJ7_fill_53178_0 : decode cJ7_fill_53178 0 = .ok (.iconst 0, 1) := by decide +kernel
theorem dJ7_fill_53178_1 : decode cJ7_fill_53178 1 = .ok (.istore_n 2, 1) := by decide +kernel
theorem dJ7_fill_53178_2 : decode cJ7_fill_53178 2 = .ok (.aload_n 0, 1) := by decide +kernel
theorem dJ7_fill_53178_3 : decode cJ7_fill_53178 3 = .ok (.arraylength, 1) := by decide +kernel
theorem dJ7_fill_53178_4 : decode cJ7_fill_53178 4 = .ok (.istore_n 3, 1) := by decide +kernel
theorem dJ7_fill_53178_5 : decode cJ7_fill_53178 5 = .ok (.iload_n 2, 1) := by decide +kernel
theorem dJ7_fill_53178_6 : decode cJ7_fill_53178 6 = .ok (.iload_n 3, 1) := by decide +kernel
theorem dJ7_fill_53178_7 : decode cJ7_fill_53178 7 = .ok (.if_icmp .ge 13, 3) := by decide +kernel
theorem dJ7_fill_53178_10 : decode cJ7_fill_53178 10 = .ok (.aload_n 0, 1) := by decide +kernel
theorem dJ7_fill_53178_11 : decode cJ7_fill_53178 11 = .ok (.iload_n 2, 1) := by decide +kernel
theorem dJ7_fill_53178_12 : decode cJ7_fill_53178 12 = .ok (.iload_n 1, 1) := by decide +kernel
theorem dJ7_fill_53178_13 : decode cJ7_fill_53178 13 = .ok (.iastore, 1) := by decide +kernel
theorem dJ7_fill_53178_14 : decode cJ7_fill_53178 14 = .ok (.iinc 2 1, 3) := by decide +kernel
theorem dJ7_fill_53178_17 : decode cJ7_fill_53178 17 = .ok (.goto (-12), 3) := by decide +kernel
theorem dJ7_fill_53178_20 : decode cJ7_fill_53178 20 = .ok (.return_, 1) := by decide +kernel
theorem dL_law_0 : decode cL_law 0 = .ok (.new 7, 3) := by decide +kernel
theorem dL_law_3 : decode cL_law 3 = .ok (.dup, 1) := by decide +kernel
theorem dL_law_4 : decode cL_law 4 = .ok (.invokespecial 9, 3) := by decide +kernel
theorem dL_law_7 : decode cL_law 7 = .ok (.astore_n 1, 1) := by decide +kernel
theorem dL_law_8 : decode cL_law 8 = .ok (.new 10, 3) := by decide +kernel
theorem dL_law_11 : decode cL_law 11 = .ok (.dup, 1) := by decide +kernel
theorem dL_law_12 : decode cL_law 12 = .ok (.invokespecial 12, 3) := by decide +kernel
theorem dL_law_15 : decode cL_law 15 = .ok (.astore_n 2, 1) := by decide +kernel
theorem dL_law_16 : decode cL_law 16 = .ok (.iconst 0, 1) := by decide +kernel
theorem dL_law_17 : decode cL_law 17 = .ok (.istore_n 3, 1) := by decide +kernel
theorem dL_law_18 : decode cL_law 18 = .ok (.iload_n 3, 1) := by decide +kernel
theorem dL_law_19 : decode cL_law 19 = .ok (.aload_n 0, 1) := by decide +kernel
theorem dL_law_20 : decode cL_law 20 = .ok (.arraylength, 1) := by decide +kernel
theorem dL_law_21 : decode cL_law 21 = .ok (.iconst 5, 1) := by decide +kernel
theorem dL_law_22 : decode cL_law 22 = .ok (.isub, 1) := by decide +kernel
theorem dL_law_23 : decode cL_law 23 = .ok (.if_icmp .gt 913, 3) := by decide +kernel
theorem dL_law_26 : decode cL_law 26 = .ok (.aload_n 0, 1) := by decide +kernel
theorem dL_law_27 : decode cL_law 27 = .ok (.iload_n 3, 1) := by decide +kernel
theorem dL_law_28 : decode cL_law 28 = .ok (.iaload, 1) := by decide +kernel
theorem dL_law_29 : decode cL_law 29 = .ok (.bipush 31, 2) := by decide +kernel
theorem dL_law_31 : decode cL_law 31 = .ok (.iand, 1) := by decide +kernel
theorem dL_law_32 : decode cL_law 32 = .ok (.tableswitch 898 0 26 #[124, 147, 160, 173, 186, 209, 252, 285, 318, 341, 374, 397, 410, 423, 446, 479, 522, 555, 614, 647, 660, 683, 706, 775, 829, 852, 875], 124) := by decide +kernel
theorem dL_law_156 : decode cL_law 156 = .ok (.aload_n 1, 1) := by decide +kernel
theorem dL_law_157 : decode cL_law 157 = .ok (.aload_n 0, 1) := by decide +kernel
theorem dL_law_158 : decode cL_law 158 = .ok (.iload_n 3, 1) := by decide +kernel
theorem dL_law_159 : decode cL_law 159 = .ok (.iconst 1, 1) := by decide +kernel
theorem dL_law_160 : decode cL_law 160 = .ok (.iadd, 1) := by decide +kernel
theorem dL_law_161 : decode cL_law 161 = .ok (.iaload, 1) := by decide +kernel
theorem dL_law_162 : decode cL_law 162 = .ok (.invokevirtual 13, 3) := by decide +kernel
theorem dL_law_165 : decode cL_law 165 = .ok (.aload_n 2, 1) := by decide +kernel
theorem dL_law_166 : decode cL_law 166 = .ok (.aload_n 0, 1) := by decide +kernel
theorem dL_law_167 : decode cL_law 167 = .ok (.iload_n 3, 1) := by decide +kernel
theorem dL_law_168 : decode cL_law 168 = .ok (.iconst 1, 1) := by decide +kernel
theorem dL_law_169 : decode cL_law 169 = .ok (.iadd, 1) := by decide +kernel
theorem dL_law_170 : decode cL_law 170 = .ok (.iaload, 1) := by decide +kernel
theorem dL_law_171 : decode cL_law 171 = .ok (.invokevirtual 17, 3) := by decide +kernel
theorem dL_law_174 : decode cL_law 174 = .ok (.if_icmp .eq 756, 3) := by decide +kernel
theorem dL_law_177 : decode cL_law 177 = .ok (.iconst 0, 1) := by decide +kernel
theorem dL_law_178 : decode cL_law 178 = .ok (.ireturn, 1) := by decide +kernel
theorem dL_law_179 : decode cL_law 179 = .ok (.aload_n 1, 1) := by decide +kernel
theorem dL_law_180 : decode cL_law 180 = .ok (.invokevirtual 18, 3) := by decide +kernel
theorem dL_law_183 : decode cL_law 183 = .ok (.aload_n 2, 1) := by decide +kernel
theorem dL_law_184 : decode cL_law 184 = .ok (.invokevirtual 22, 3) := by decide +kernel
theorem dL_law_187 : decode cL_law 187 = .ok (.if_icmp .eq 743, 3) := by decide +kernel
theorem dL_law_190 : decode cL_law 190 = .ok (.iconst 0, 1) := by decide +kernel
theorem dL_law_191 : decode cL_law 191 = .ok (.ireturn, 1) := by decide +kernel
theorem dL_law_192 : decode cL_law 192 = .ok (.aload_n 1, 1) := by decide +kernel
theorem dL_law_193 : decode cL_law 193 = .ok (.invokevirtual 23, 3) := by decide +kernel
theorem dL_law_196 : decode cL_law 196 = .ok (.aload_n 2, 1) := by decide +kernel
theorem dL_law_197 : decode cL_law 197 = .ok (.invokevirtual 26, 3) := by decide +kernel
theorem dL_law_200 : decode cL_law 200 = .ok (.if_icmp .eq 730, 3) := by decide +kernel
theorem dL_law_203 : decode cL_law 203 = .ok (.iconst 0, 1) := by decide +kernel
theorem dL_law_204 : decode cL_law 204 = .ok (.ireturn, 1) := by decide +kernel
theorem dL_law_205 : decode cL_law 205 = .ok (.aload_n 1, 1) := by decide +kernel
theorem dL_law_206 : decode cL_law 206 = .ok (.invokevirtual 27, 3) := by decide +kernel
theorem dL_law_209 : decode cL_law 209 = .ok (.aload_n 2, 1) := by decide +kernel
theorem dL_law_210 : decode cL_law 210 = .ok (.invokevirtual 30, 3) := by decide +kernel
theorem dL_law_213 : decode cL_law 213 = .ok (.if_icmp .eq 717, 3) := by decide +kernel
theorem dL_law_216 : decode cL_law 216 = .ok (.iconst 0, 1) := by decide +kernel
theorem dL_law_217 : decode cL_law 217 = .ok (.ireturn, 1) := by decide +kernel
theorem dL_law_218 : decode cL_law 218 = .ok (.aload_n 1, 1) := by decide +kernel
theorem dL_law_219 : decode cL_law 219 = .ok (.aload_n 0, 1) := by decide +kernel
theorem dL_law_220 : decode cL_law 220 = .ok (.iload_n 3, 1) := by decide +kernel
theorem dL_law_221 : decode cL_law 221 = .ok (.iconst 1, 1) := by decide +kernel
theorem dL_law_222 : decode cL_law 222 = .ok (.iadd, 1) := by decide +kernel
theorem dL_law_223 : decode cL_law 223 = .ok (.iaload, 1) := by decide +kernel
theorem dL_law_224 : decode cL_law 224 = .ok (.invokevirtual 31, 3) := by decide +kernel
theorem dL_law_227 : decode cL_law 227 = .ok (.aload_n 2, 1) := by decide +kernel
theorem dL_law_228 : decode cL_law 228 = .ok (.aload_n 0, 1) := by decide +kernel
theorem dL_law_229 : decode cL_law 229 = .ok (.iload_n 3, 1) := by decide +kernel
theorem dL_law_230 : decode cL_law 230 = .ok (.iconst 1, 1) := by decide +kernel
theorem dL_law_231 : decode cL_law 231 = .ok (.iadd, 1) := by decide +kernel
theorem dL_law_232 : decode cL_law 232 = .ok (.iaload, 1) := by decide +kernel
theorem dL_law_233 : decode cL_law 233 = .ok (.invokevirtual 34, 3) := by decide +kernel
theorem dL_law_236 : decode cL_law 236 = .ok (.if_icmp .eq 694, 3) := by decide +kernel
theorem dL_law_239 : decode cL_law 239 = .ok (.iconst 0, 1) := by decide +kernel
theorem dL_law_240 : decode cL_law 240 = .ok (.ireturn, 1) := by decide +kernel
theorem dL_law_241 : decode cL_law 241 = .ok (.aload_n 1, 1) := by decide +kernel
theorem dL_law_242 : decode cL_law 242 = .ok (.aload_n 0, 1) := by decide +kernel
theorem dL_law_243 : decode cL_law 243 = .ok (.iload_n 3, 1) := by decide +kernel
theorem dL_law_244 : decode cL_law 244 = .ok (.iconst 1, 1) := by decide +kernel
theorem dL_law_245 : decode cL_law 245 = .ok (.iadd, 1) := by decide +kernel
theorem dL_law_246 : decode cL_law 246 = .ok (.iaload, 1) := by decide +kernel
theorem dL_law_247 : decode cL_law 247 = .ok (.aload_n 0, 1) := by decide +kernel
theorem dL_law_248 : decode cL_law 248 = .ok (.iload_n 3, 1) := by decide +kernel
theorem dL_law_249 : decode cL_law 249 = .ok (.iconst 2, 1) := by decide +kernel
theorem dL_law_250 : decode cL_law 250 = .ok (.iadd, 1) := by decide +kernel
theorem dL_law_251 : decode cL_law 251 = .ok (.iaload, 1) := by decide +kernel
theorem dL_law_252 : decode cL_law 252 = .ok (.aload_n 0, 1) := by decide +kernel
theorem dL_law_253 : decode cL_law 253 = .ok (.iload_n 3, 1) := by decide +kernel
theorem dL_law_254 : decode cL_law 254 = .ok (.iconst 3, 1) := by decide +kernel
theorem dL_law_255 : decode cL_law 255 = .ok (.iadd, 1) := by decide +kernel
theorem dL_law_256 : decode cL_law 256 = .ok (.iaload, 1) := by decide +kernel
theorem dL_law_257 : decode cL_law 257 = .ok (.invokevirtual 35, 3) := by decide +kernel
theorem dL_law_260 : decode cL_law 260 = .ok (.aload_n 2, 1) := by decide +kernel
theorem dL_law_261 : decode cL_law 261 = .ok (.aload_n 0, 1) := by decide +kernel
theorem dL_law_262 : decode cL_law 262 = .ok (.iload_n 3, 1) := by decide +kernel
theorem dL_law_263 : decode cL_law 263 = .ok (.iconst 1, 1) := by decide +kernel
theorem dL_law_264 : decode cL_law 264 = .ok (.iadd, 1) := by decide +kernel
theorem dL_law_265 : decode cL_law 265 = .ok (.iaload, 1) := by decide +kernel
theorem dL_law_266 : decode cL_law 266 = .ok (.aload_n 0, 1) := by decide +kernel
theorem dL_law_267 : decode cL_law 267 = .ok (.iload_n 3, 1) := by decide +kernel
theorem dL_law_268 : decode cL_law 268 = .ok (.iconst 2, 1) := by decide +kernel
theorem dL_law_269 : decode cL_law 269 = .ok (.iadd, 1) := by decide +kernel
theorem dL_law_270 : decode cL_law 270 = .ok (.iaload, 1) := by decide +kernel
theorem dL_law_271 : decode cL_law 271 = .ok (.aload_n 0, 1) := by decide +kernel
theorem dL_law_272 : decode cL_law 272 = .ok (.iload_n 3, 1) := by decide +kernel
theorem dL_law_273 : decode cL_law 273 = .ok (.iconst 3, 1) := by decide +kernel
theorem dL_law_274 : decode cL_law 274 = .ok (.iadd, 1) := by decide +kernel
theorem dL_law_275 : decode cL_law 275 = .ok (.iaload, 1) := by decide +kernel
theorem dL_law_276 : decode cL_law 276 = .ok (.invokevirtual 39, 3) := by decide +kernel
theorem dL_law_279 : decode cL_law 279 = .ok (.if_icmp .eq 651, 3) := by decide +kernel
theorem dL_law_282 : decode cL_law 282 = .ok (.iconst 0, 1) := by decide +kernel
theorem dL_law_283 : decode cL_law 283 = .ok (.ireturn, 1) := by decide +kernel
theorem dL_law_284 : decode cL_law 284 = .ok (.aload_n 1, 1) := by decide +kernel
theorem dL_law_285 : decode cL_law 285 = .ok (.aload_n 0, 1) := by decide +kernel
theorem dL_law_286 : decode cL_law 286 = .ok (.iload_n 3, 1) := by decide +kernel
theorem dL_law_287 : decode cL_law 287 = .ok (.iconst 1, 1) := by decide +kernel
theorem dL_law_288 : decode cL_law 288 = .ok (.iadd, 1) := by decide +kernel
theorem dL_law_289 : decode cL_law 289 = .ok (.iaload, 1) := by decide +kernel
theorem dL_law_290 : decode cL_law 290 = .ok (.aload_n 0, 1) := by decide +kernel
theorem dL_law_291 : decode cL_law 291 = .ok (.iload_n 3, 1) := by decide +kernel
theorem dL_law_292 : decode cL_law 292 = .ok (.iconst 2, 1) := by decide +kernel
theorem dL_law_293 : decode cL_law 293 = .ok (.iadd, 1) := by decide +kernel
theorem dL_law_294 : decode cL_law 294 = .ok (.iaload, 1) := by decide +kernel
theorem dL_law_295 : decode cL_law 295 = .ok (.invokevirtual 40, 3) := by decide +kernel
theorem dL_law_298 : decode cL_law 298 = .ok (.aload_n 2, 1) := by decide +kernel
theorem dL_law_299 : decode cL_law 299 = .ok (.aload_n 0, 1) := by decide +kernel
theorem dL_law_300 : decode cL_law 300 = .ok (.iload_n 3, 1) := by decide +kernel
theorem dL_law_301 : decode cL_law 301 = .ok (.iconst 1, 1) := by decide +kernel
theorem dL_law_302 : decode cL_law 302 = .ok (.iadd, 1) := by decide +kernel
theorem dL_law_303 : decode cL_law 303 = .ok (.iaload, 1) := by decide +kernel
theorem dL_law_304 : decode cL_law 304 = .ok (.aload_n 0, 1) := by decide +kernel
theorem dL_law_305 : decode cL_law 305 = .ok (.iload_n 3, 1) := by decide +kernel
theorem dL_law_306 : decode cL_law 306 = .ok (.iconst 2, 1) := by decide +kernel
theorem dL_law_307 : decode cL_law 307 = .ok (.iadd, 1) := by decide +kernel
theorem dL_law_308 : decode cL_law 308 = .ok (.iaload, 1) := by decide +kernel
theorem dL_law_309 : decode cL_law 309 = .ok (.invokevirtual 44, 3) := by decide +kernel
theorem dL_law_312 : decode cL_law 312 = .ok (.if_icmp .eq 618, 3) := by decide +kernel
theorem dL_law_315 : decode cL_law 315 = .ok (.iconst 0, 1) := by decide +kernel
theorem dL_law_316 : decode cL_law 316 = .ok (.ireturn, 1) := by decide +kernel
theorem dL_law_317 : decode cL_law 317 = .ok (.aload_n 1, 1) := by decide +kernel
theorem dL_law_318 : decode cL_law 318 = .ok (.aload_n 0, 1) := by decide +kernel
theorem dL_law_319 : decode cL_law 319 = .ok (.iload_n 3, 1) := by decide +kernel
theorem dL_law_320 : decode cL_law 320 = .ok (.iconst 1, 1) := by decide +kernel
theorem dL_law_321 : decode cL_law 321 = .ok (.iadd, 1) := by decide +kernel
theorem dL_law_322 : decode cL_law 322 = .ok (.iaload, 1) := by decide +kernel
theorem dL_law_323 : decode cL_law 323 = .ok (.aload_n 0, 1) := by decide +kernel
theorem dL_law_324 : decode cL_law 324 = .ok (.iload_n 3, 1) := by decide +kernel
theorem dL_law_325 : decode cL_law 325 = .ok (.iconst 2, 1) := by decide +kernel
theorem dL_law_326 : decode cL_law 326 = .ok (.iadd, 1) := by decide +kernel
theorem dL_law_327 : decode cL_law 327 = .ok (.iaload, 1) := by decide +kernel
theorem dL_law_328 : decode cL_law 328 = .ok (.invokevirtual 45, 3) := by decide +kernel
theorem dL_law_331 : decode cL_law 331 = .ok (.aload_n 2, 1) := by decide +kernel
theorem dL_law_332 : decode cL_law 332 = .ok (.aload_n 0, 1) := by decide +kernel
theorem dL_law_333 : decode cL_law 333 = .ok (.iload_n 3, 1) := by decide +kernel
theorem dL_law_334 : decode cL_law 334 = .ok (.iconst 1, 1) := by decide +kernel
theorem dL_law_335 : decode cL_law 335 = .ok (.iadd, 1) := by decide +kernel
theorem dL_law_336 : decode cL_law 336 = .ok (.iaload, 1) := by decide +kernel
theorem dL_law_337 : decode cL_law 337 = .ok (.aload_n 0, 1) := by decide +kernel
theorem dL_law_338 : decode cL_law 338 = .ok (.iload_n 3, 1) := by decide +kernel
theorem dL_law_339 : decode cL_law 339 = .ok (.iconst 2, 1) := by decide +kernel
theorem dL_law_340 : decode cL_law 340 = .ok (.iadd, 1) := by decide +kernel
theorem dL_law_341 : decode cL_law 341 = .ok (.iaload, 1) := by decide +kernel
theorem dL_law_342 : decode cL_law 342 = .ok (.invokevirtual 48, 3) := by decide +kernel
theorem dL_law_345 : decode cL_law 345 = .ok (.if_icmp .eq 585, 3) := by decide +kernel
theorem dL_law_348 : decode cL_law 348 = .ok (.iconst 0, 1) := by decide +kernel
theorem dL_law_349 : decode cL_law 349 = .ok (.ireturn, 1) := by decide +kernel
theorem dL_law_350 : decode cL_law 350 = .ok (.aload_n 1, 1) := by decide +kernel
theorem dL_law_351 : decode cL_law 351 = .ok (.aload_n 0, 1) := by decide +kernel
theorem dL_law_352 : decode cL_law 352 = .ok (.iload_n 3, 1) := by decide +kernel
theorem dL_law_353 : decode cL_law 353 = .ok (.iconst 1, 1) := by decide +kernel
theorem dL_law_354 : decode cL_law 354 = .ok (.iadd, 1) := by decide +kernel
theorem dL_law_355 : decode cL_law 355 = .ok (.iaload, 1) := by decide +kernel
theorem dL_law_356 : decode cL_law 356 = .ok (.invokevirtual 49, 3) := by decide +kernel
theorem dL_law_359 : decode cL_law 359 = .ok (.aload_n 2, 1) := by decide +kernel
theorem dL_law_360 : decode cL_law 360 = .ok (.aload_n 0, 1) := by decide +kernel
theorem dL_law_361 : decode cL_law 361 = .ok (.iload_n 3, 1) := by decide +kernel
theorem dL_law_362 : decode cL_law 362 = .ok (.iconst 1, 1) := by decide +kernel
theorem dL_law_363 : decode cL_law 363 = .ok (.iadd, 1) := by decide +kernel
theorem dL_law_364 : decode cL_law 364 = .ok (.iaload, 1) := by decide +kernel
theorem dL_law_365 : decode cL_law 365 = .ok (.invokevirtual 52, 3) := by decide +kernel
theorem dL_law_368 : decode cL_law 368 = .ok (.if_icmp .eq 562, 3) := by decide +kernel
theorem dL_law_371 : decode cL_law 371 = .ok (.iconst 0, 1) := by decide +kernel
theorem dL_law_372 : decode cL_law 372 = .ok (.ireturn, 1) := by decide +kernel
theorem dL_law_373 : decode cL_law 373 = .ok (.aload_n 1, 1) := by decide +kernel
theorem dL_law_374 : decode cL_law 374 = .ok (.aload_n 0, 1) := by decide +kernel
theorem dL_law_375 : decode cL_law 375 = .ok (.iload_n 3, 1) := by decide +kernel
theorem dL_law_376 : decode cL_law 376 = .ok (.iconst 1, 1) := by decide +kernel
theorem dL_law_377 : decode cL_law 377 = .ok (.iadd, 1) := by decide +kernel
theorem dL_law_378 : decode cL_law 378 = .ok (.iaload, 1) := by decide +kernel
theorem dL_law_379 : decode cL_law 379 = .ok (.aload_n 0, 1) := by decide +kernel
theorem dL_law_380 : decode cL_law 380 = .ok (.iload_n 3, 1) := by decide +kernel
theorem dL_law_381 : decode cL_law 381 = .ok (.iconst 2, 1) := by decide +kernel
theorem dL_law_382 : decode cL_law 382 = .ok (.iadd, 1) := by decide +kernel
theorem dL_law_383 : decode cL_law 383 = .ok (.iaload, 1) := by decide +kernel
theorem dL_law_384 : decode cL_law 384 = .ok (.invokevirtual 53, 3) := by decide +kernel
theorem dL_law_387 : decode cL_law 387 = .ok (.aload_n 2, 1) := by decide +kernel
theorem dL_law_388 : decode cL_law 388 = .ok (.aload_n 0, 1) := by decide +kernel
theorem dL_law_389 : decode cL_law 389 = .ok (.iload_n 3, 1) := by decide +kernel
theorem dL_law_390 : decode cL_law 390 = .ok (.iconst 1, 1) := by decide +kernel
theorem dL_law_391 : decode cL_law 391 = .ok (.iadd, 1) := by decide +kernel
theorem dL_law_392 : decode cL_law 392 = .ok (.iaload, 1) := by decide +kernel
theorem dL_law_393 : decode cL_law 393 = .ok (.aload_n 0, 1) := by decide +kernel
theorem dL_law_394 : decode cL_law 394 = .ok (.iload_n 3, 1) := by decide +kernel
theorem dL_law_395 : decode cL_law 395 = .ok (.iconst 2, 1) := by decide +kernel
theorem dL_law_396 : decode cL_law 396 = .ok (.iadd, 1) := by decide +kernel
theorem dL_law_397 : decode cL_law 397 = .ok (.iaload, 1) := by decide +kernel
theorem dL_law_398 : decode cL_law 398 = .ok (.invokevirtual 56, 3) := by decide +kernel
theorem dL_law_401 : decode cL_law 401 = .ok (.if_icmp .eq 529, 3) := by decide +kernel
theorem dL_law_404 : decode cL_law 404 = .ok (.iconst 0, 1) := by decide +kernel
theorem dL_law_405 : decode cL_law 405 = .ok (.ireturn, 1) := by decide +kernel
theorem dL_law_406 : decode cL_law 406 = .ok (.aload_n 1, 1) := by decide +kernel
theorem dL_law_407 : decode cL_law 407 = .ok (.aload_n 0, 1) := by decide +kernel
theorem dL_law_408 : decode cL_law 408 = .ok (.iload_n 3, 1) := by decide +kernel
theorem dL_law_409 : decode cL_law 409 = .ok (.iconst 1, 1) := by decide +kernel
theorem dL_law_410 : decode cL_law 410 = .ok (.iadd, 1) := by decide +kernel
theorem dL_law_411 : decode cL_law 411 = .ok (.iaload, 1) := by decide +kernel
theorem dL_law_412 : decode cL_law 412 = .ok (.invokevirtual 57, 3) := by decide +kernel
theorem dL_law_415 : decode cL_law 415 = .ok (.aload_n 2, 1) := by decide +kernel
theorem dL_law_416 : decode cL_law 416 = .ok (.aload_n 0, 1) := by decide +kernel
theorem dL_law_417 : decode cL_law 417 = .ok (.iload_n 3, 1) := by decide +kernel
theorem dL_law_418 : decode cL_law 418 = .ok (.iconst 1, 1) := by decide +kernel
theorem dL_law_419 : decode cL_law 419 = .ok (.iadd, 1) := by decide +kernel
theorem dL_law_420 : decode cL_law 420 = .ok (.iaload, 1) := by decide +kernel
theorem dL_law_421 : decode cL_law 421 = .ok (.invokevirtual 60, 3) := by decide +kernel
theorem dL_law_424 : decode cL_law 424 = .ok (.if_icmp .eq 506, 3) := by decide +kernel
theorem dL_law_427 : decode cL_law 427 = .ok (.iconst 0, 1) := by decide +kernel
theorem dL_law_428 : decode cL_law 428 = .ok (.ireturn, 1) := by decide +kernel
theorem dL_law_429 : decode cL_law 429 = .ok (.aload_n 1, 1) := by decide +kernel
theorem dL_law_430 : decode cL_law 430 = .ok (.invokevirtual 61, 3) := by decide +kernel
theorem dL_law_433 : decode cL_law 433 = .ok (.aload_n 2, 1) := by decide +kernel
theorem dL_law_434 : decode cL_law 434 = .ok (.invokevirtual 64, 3) := by decide +kernel
theorem dL_law_437 : decode cL_law 437 = .ok (.if_icmp .eq 493, 3) := by decide +kernel
theorem dL_law_440 : decode cL_law 440 = .ok (.iconst 0, 1) := by decide +kernel
theorem dL_law_441 : decode cL_law 441 = .ok (.ireturn, 1) := by decide +kernel
theorem dL_law_442 : decode cL_law 442 = .ok (.aload_n 1, 1) := by decide +kernel
theorem dL_law_443 : decode cL_law 443 = .ok (.invokevirtual 65, 3) := by decide +kernel
theorem dL_law_446 : decode cL_law 446 = .ok (.aload_n 2, 1) := by decide +kernel
theorem dL_law_447 : decode cL_law 447 = .ok (.invokevirtual 68, 3) := by decide +kernel
theorem dL_law_450 : decode cL_law 450 = .ok (.if_icmp .eq 480, 3) := by decide +kernel
theorem dL_law_453 : decode cL_law 453 = .ok (.iconst 0, 1) := by decide +kernel
theorem dL_law_454 : decode cL_law 454 = .ok (.ireturn, 1) := by decide +kernel
theorem dL_law_455 : decode cL_law 455 = .ok (.aload_n 1, 1) := by decide +kernel
theorem dL_law_456 : decode cL_law 456 = .ok (.aload_n 0, 1) := by decide +kernel
theorem dL_law_457 : decode cL_law 457 = .ok (.iload_n 3, 1) := by decide +kernel
theorem dL_law_458 : decode cL_law 458 = .ok (.iconst 1, 1) := by decide +kernel
theorem dL_law_459 : decode cL_law 459 = .ok (.iadd, 1) := by decide +kernel
theorem dL_law_460 : decode cL_law 460 = .ok (.iaload, 1) := by decide +kernel
theorem dL_law_461 : decode cL_law 461 = .ok (.invokevirtual 69, 3) := by decide +kernel
theorem dL_law_464 : decode cL_law 464 = .ok (.aload_n 2, 1) := by decide +kernel
theorem dL_law_465 : decode cL_law 465 = .ok (.aload_n 0, 1) := by decide +kernel
theorem dL_law_466 : decode cL_law 466 = .ok (.iload_n 3, 1) := by decide +kernel
theorem dL_law_467 : decode cL_law 467 = .ok (.iconst 1, 1) := by decide +kernel
theorem dL_law_468 : decode cL_law 468 = .ok (.iadd, 1) := by decide +kernel
theorem dL_law_469 : decode cL_law 469 = .ok (.iaload, 1) := by decide +kernel
theorem dL_law_470 : decode cL_law 470 = .ok (.invokevirtual 72, 3) := by decide +kernel
theorem dL_law_473 : decode cL_law 473 = .ok (.if_icmp .eq 457, 3) := by decide +kernel
theorem dL_law_476 : decode cL_law 476 = .ok (.iconst 0, 1) := by decide +kernel
theorem dL_law_477 : decode cL_law 477 = .ok (.ireturn, 1) := by decide +kernel
theorem dL_law_478 : decode cL_law 478 = .ok (.aload_n 1, 1) := by decide +kernel
theorem dL_law_479 : decode cL_law 479 = .ok (.aload_n 0, 1) := by decide +kernel
theorem dL_law_480 : decode cL_law 480 = .ok (.iload_n 3, 1) := by decide +kernel
theorem dL_law_481 : decode cL_law 481 = .ok (.iconst 1, 1) := by decide +kernel
theorem dL_law_482 : decode cL_law 482 = .ok (.iadd, 1) := by decide +kernel
theorem dL_law_483 : decode cL_law 483 = .ok (.iaload, 1) := by decide +kernel
theorem dL_law_484 : decode cL_law 484 = .ok (.aload_n 0, 1) := by decide +kernel
theorem dL_law_485 : decode cL_law 485 = .ok (.iload_n 3, 1) := by decide +kernel
theorem dL_law_486 : decode cL_law 486 = .ok (.iconst 2, 1) := by decide +kernel
theorem dL_law_487 : decode cL_law 487 = .ok (.iadd, 1) := by decide +kernel
theorem dL_law_488 : decode cL_law 488 = .ok (.iaload, 1) := by decide +kernel
theorem dL_law_489 : decode cL_law 489 = .ok (.invokevirtual 73, 3) := by decide +kernel
theorem dL_law_492 : decode cL_law 492 = .ok (.aload_n 2, 1) := by decide +kernel
theorem dL_law_493 : decode cL_law 493 = .ok (.aload_n 0, 1) := by decide +kernel
theorem dL_law_494 : decode cL_law 494 = .ok (.iload_n 3, 1) := by decide +kernel
theorem dL_law_495 : decode cL_law 495 = .ok (.iconst 1, 1) := by decide +kernel
theorem dL_law_496 : decode cL_law 496 = .ok (.iadd, 1) := by decide +kernel
theorem dL_law_497 : decode cL_law 497 = .ok (.iaload, 1) := by decide +kernel
theorem dL_law_498 : decode cL_law 498 = .ok (.aload_n 0, 1) := by decide +kernel
theorem dL_law_499 : decode cL_law 499 = .ok (.iload_n 3, 1) := by decide +kernel
theorem dL_law_500 : decode cL_law 500 = .ok (.iconst 2, 1) := by decide +kernel
theorem dL_law_501 : decode cL_law 501 = .ok (.iadd, 1) := by decide +kernel
theorem dL_law_502 : decode cL_law 502 = .ok (.iaload, 1) := by decide +kernel
theorem dL_law_503 : decode cL_law 503 = .ok (.invokevirtual 76, 3) := by decide +kernel
theorem dL_law_506 : decode cL_law 506 = .ok (.if_icmp .eq 424, 3) := by decide +kernel
theorem dL_law_509 : decode cL_law 509 = .ok (.iconst 0, 1) := by decide +kernel
theorem dL_law_510 : decode cL_law 510 = .ok (.ireturn, 1) := by decide +kernel
theorem dL_law_511 : decode cL_law 511 = .ok (.aload_n 1, 1) := by decide +kernel
theorem dL_law_512 : decode cL_law 512 = .ok (.aload_n 0, 1) := by decide +kernel
theorem dL_law_513 : decode cL_law 513 = .ok (.iload_n 3, 1) := by decide +kernel
theorem dL_law_514 : decode cL_law 514 = .ok (.iconst 1, 1) := by decide +kernel
theorem dL_law_515 : decode cL_law 515 = .ok (.iadd, 1) := by decide +kernel
theorem dL_law_516 : decode cL_law 516 = .ok (.iaload, 1) := by decide +kernel
theorem dL_law_517 : decode cL_law 517 = .ok (.aload_n 0, 1) := by decide +kernel
theorem dL_law_518 : decode cL_law 518 = .ok (.iload_n 3, 1) := by decide +kernel
theorem dL_law_519 : decode cL_law 519 = .ok (.iconst 2, 1) := by decide +kernel
theorem dL_law_520 : decode cL_law 520 = .ok (.iadd, 1) := by decide +kernel
theorem dL_law_521 : decode cL_law 521 = .ok (.iaload, 1) := by decide +kernel
theorem dL_law_522 : decode cL_law 522 = .ok (.aload_n 0, 1) := by decide +kernel
theorem dL_law_523 : decode cL_law 523 = .ok (.iload_n 3, 1) := by decide +kernel
theorem dL_law_524 : decode cL_law 524 = .ok (.iconst 3, 1) := by decide +kernel
theorem dL_law_525 : decode cL_law 525 = .ok (.iadd, 1) := by decide +kernel
theorem dL_law_526 : decode cL_law 526 = .ok (.iaload, 1) := by decide +kernel
theorem dL_law_527 : decode cL_law 527 = .ok (.invokevirtual 77, 3) := by decide +kernel
theorem dL_law_530 : decode cL_law 530 = .ok (.aload_n 2, 1) := by decide +kernel
theorem dL_law_531 : decode cL_law 531 = .ok (.aload_n 0, 1) := by decide +kernel
theorem dL_law_532 : decode cL_law 532 = .ok (.iload_n 3, 1) := by decide +kernel
theorem dL_law_533 : decode cL_law 533 = .ok (.iconst 1, 1) := by decide +kernel
theorem dL_law_534 : decode cL_law 534 = .ok (.iadd, 1) := by decide +kernel
theorem dL_law_535 : decode cL_law 535 = .ok (.iaload, 1) := by decide +kernel
theorem dL_law_536 : decode cL_law 536 = .ok (.aload_n 0, 1) := by decide +kernel
theorem dL_law_537 : decode cL_law 537 = .ok (.iload_n 3, 1) := by decide +kernel
theorem dL_law_538 : decode cL_law 538 = .ok (.iconst 2, 1) := by decide +kernel
theorem dL_law_539 : decode cL_law 539 = .ok (.iadd, 1) := by decide +kernel
theorem dL_law_540 : decode cL_law 540 = .ok (.iaload, 1) := by decide +kernel
theorem dL_law_541 : decode cL_law 541 = .ok (.aload_n 0, 1) := by decide +kernel
theorem dL_law_542 : decode cL_law 542 = .ok (.iload_n 3, 1) := by decide +kernel
theorem dL_law_543 : decode cL_law 543 = .ok (.iconst 3, 1) := by decide +kernel
theorem dL_law_544 : decode cL_law 544 = .ok (.iadd, 1) := by decide +kernel
theorem dL_law_545 : decode cL_law 545 = .ok (.iaload, 1) := by decide +kernel
theorem dL_law_546 : decode cL_law 546 = .ok (.invokevirtual 80, 3) := by decide +kernel
theorem dL_law_549 : decode cL_law 549 = .ok (.if_icmp .eq 381, 3) := by decide +kernel
theorem dL_law_552 : decode cL_law 552 = .ok (.iconst 0, 1) := by decide +kernel
theorem dL_law_553 : decode cL_law 553 = .ok (.ireturn, 1) := by decide +kernel
theorem dL_law_554 : decode cL_law 554 = .ok (.aload_n 1, 1) := by decide +kernel
theorem dL_law_555 : decode cL_law 555 = .ok (.aload_n 0, 1) := by decide +kernel
theorem dL_law_556 : decode cL_law 556 = .ok (.iload_n 3, 1) := by decide +kernel
theorem dL_law_557 : decode cL_law 557 = .ok (.iconst 1, 1) := by decide +kernel
theorem dL_law_558 : decode cL_law 558 = .ok (.iadd, 1) := by decide +kernel
theorem dL_law_559 : decode cL_law 559 = .ok (.iaload, 1) := by decide +kernel
theorem dL_law_560 : decode cL_law 560 = .ok (.aload_n 0, 1) := by decide +kernel
theorem dL_law_561 : decode cL_law 561 = .ok (.iload_n 3, 1) := by decide +kernel
theorem dL_law_562 : decode cL_law 562 = .ok (.iconst 2, 1) := by decide +kernel
theorem dL_law_563 : decode cL_law 563 = .ok (.iadd, 1) := by decide +kernel
theorem dL_law_564 : decode cL_law 564 = .ok (.iaload, 1) := by decide +kernel
theorem dL_law_565 : decode cL_law 565 = .ok (.invokevirtual 81, 3) := by decide +kernel
theorem dL_law_568 : decode cL_law 568 = .ok (.aload_n 2, 1) := by decide +kernel
theorem dL_law_569 : decode cL_law 569 = .ok (.aload_n 0, 1) := by decide +kernel
theorem dL_law_570 : decode cL_law 570 = .ok (.iload_n 3, 1) := by decide +kernel
theorem dL_law_571 : decode cL_law 571 = .ok (.iconst 1, 1) := by decide +kernel
theorem dL_law_572 : decode cL_law 572 = .ok (.iadd, 1) := by decide +kernel
theorem dL_law_573 : decode cL_law 573 = .ok (.iaload, 1) := by decide +kernel
theorem dL_law_574 : decode cL_law 574 = .ok (.aload_n 0, 1) := by decide +kernel
theorem dL_law_575 : decode cL_law 575 = .ok (.iload_n 3, 1) := by decide +kernel
theorem dL_law_576 : decode cL_law 576 = .ok (.iconst 2, 1) := by decide +kernel
theorem dL_law_577 : decode cL_law 577 = .ok (.iadd, 1) := by decide +kernel
theorem dL_law_578 : decode cL_law 578 = .ok (.iaload, 1) := by decide +kernel
theorem dL_law_579 : decode cL_law 579 = .ok (.invokevirtual 84, 3) := by decide +kernel
theorem dL_law_582 : decode cL_law 582 = .ok (.if_icmp .eq 348, 3) := by decide +kernel
theorem dL_law_585 : decode cL_law 585 = .ok (.iconst 0, 1) := by decide +kernel
theorem dL_law_586 : decode cL_law 586 = .ok (.ireturn, 1) := by decide +kernel
theorem dL_law_587 : decode cL_law 587 = .ok (.aload_n 1, 1) := by decide +kernel
theorem dL_law_588 : decode cL_law 588 = .ok (.aload_n 0, 1) := by decide +kernel
theorem dL_law_589 : decode cL_law 589 = .ok (.iload_n 3, 1) := by decide +kernel
theorem dL_law_590 : decode cL_law 590 = .ok (.iconst 1, 1) := by decide +kernel
theorem dL_law_591 : decode cL_law 591 = .ok (.iadd, 1) := by decide +kernel
theorem dL_law_592 : decode cL_law 592 = .ok (.iaload, 1) := by decide +kernel
theorem dL_law_593 : decode cL_law 593 = .ok (.aload_n 0, 1) := by decide +kernel
theorem dL_law_594 : decode cL_law 594 = .ok (.iload_n 3, 1) := by decide +kernel
theorem dL_law_595 : decode cL_law 595 = .ok (.iconst 2, 1) := by decide +kernel
theorem dL_law_596 : decode cL_law 596 = .ok (.iadd, 1) := by decide +kernel
theorem dL_law_597 : decode cL_law 597 = .ok (.iaload, 1) := by decide +kernel
theorem dL_law_598 : decode cL_law 598 = .ok (.aload_n 0, 1) := by decide +kernel
theorem dL_law_599 : decode cL_law 599 = .ok (.iload_n 3, 1) := by decide +kernel
theorem dL_law_600 : decode cL_law 600 = .ok (.iconst 3, 1) := by decide +kernel
theorem dL_law_601 : decode cL_law 601 = .ok (.iadd, 1) := by decide +kernel
theorem dL_law_602 : decode cL_law 602 = .ok (.iaload, 1) := by decide +kernel
theorem dL_law_603 : decode cL_law 603 = .ok (.ifCond .eq 7, 3) := by decide +kernel
theorem dL_law_606 : decode cL_law 606 = .ok (.iconst 1, 1) := by decide +kernel
theorem dL_law_607 : decode cL_law 607 = .ok (.goto 4, 3) := by decide +kernel
theorem dL_law_610 : decode cL_law 610 = .ok (.iconst 0, 1) := by decide +kernel
theorem dL_law_611 : decode cL_law 611 = .ok (.invokevirtual 85, 3) := by decide +kernel
theorem dL_law_614 : decode cL_law 614 = .ok (.aload_n 2, 1) := by decide +kernel
theorem dL_law_615 : decode cL_law 615 = .ok (.aload_n 0, 1) := by decide +kernel
theorem dL_law_616 : decode cL_law 616 = .ok (.iload_n 3, 1) := by decide +kernel
theorem dL_law_617 : decode cL_law 617 = .ok (.iconst 1, 1) := by decide +kernel
theorem dL_law_618 : decode cL_law 618 = .ok (.iadd, 1) := by decide +kernel
theorem dL_law_619 : decode cL_law 619 = .ok (.iaload, 1) := by decide +kernel
theorem dL_law_620 : decode cL_law 620 = .ok (.aload_n 0, 1) := by decide +kernel
theorem dL_law_621 : decode cL_law 621 = .ok (.iload_n 3, 1) := by decide +kernel
theorem dL_law_622 : decode cL_law 622 = .ok (.iconst 2, 1) := by decide +kernel
theorem dL_law_623 : decode cL_law 623 = .ok (.iadd, 1) := by decide +kernel
theorem dL_law_624 : decode cL_law 624 = .ok (.iaload, 1) := by decide +kernel
theorem dL_law_625 : decode cL_law 625 = .ok (.aload_n 0, 1) := by decide +kernel
theorem dL_law_626 : decode cL_law 626 = .ok (.iload_n 3, 1) := by decide +kernel
theorem dL_law_627 : decode cL_law 627 = .ok (.iconst 3, 1) := by decide +kernel
theorem dL_law_628 : decode cL_law 628 = .ok (.iadd, 1) := by decide +kernel
theorem dL_law_629 : decode cL_law 629 = .ok (.iaload, 1) := by decide +kernel
theorem dL_law_630 : decode cL_law 630 = .ok (.ifCond .eq 7, 3) := by decide +kernel
theorem dL_law_633 : decode cL_law 633 = .ok (.iconst 1, 1) := by decide +kernel
theorem dL_law_634 : decode cL_law 634 = .ok (.goto 4, 3) := by decide +kernel
theorem dL_law_637 : decode cL_law 637 = .ok (.iconst 0, 1) := by decide +kernel
theorem dL_law_638 : decode cL_law 638 = .ok (.invokevirtual 89, 3) := by decide +kernel
theorem dL_law_641 : decode cL_law 641 = .ok (.if_icmp .eq 289, 3) := by decide +kernel
theorem dL_law_644 : decode cL_law 644 = .ok (.iconst 0, 1) := by decide +kernel
theorem dL_law_645 : decode cL_law 645 = .ok (.ireturn, 1) := by decide +kernel
theorem dL_law_646 : decode cL_law 646 = .ok (.aload_n 1, 1) := by decide +kernel
theorem dL_law_647 : decode cL_law 647 = .ok (.aload_n 0, 1) := by decide +kernel
theorem dL_law_648 : decode cL_law 648 = .ok (.iload_n 3, 1) := by decide +kernel
theorem dL_law_649 : decode cL_law 649 = .ok (.iconst 1, 1) := by decide +kernel
theorem dL_law_650 : decode cL_law 650 = .ok (.iadd, 1) := by decide +kernel
theorem dL_law_651 : decode cL_law 651 = .ok (.iaload, 1) := by decide +kernel
theorem dL_law_652 : decode cL_law 652 = .ok (.aload_n 0, 1) := by decide +kernel
theorem dL_law_653 : decode cL_law 653 = .ok (.iload_n 3, 1) := by decide +kernel
theorem dL_law_654 : decode cL_law 654 = .ok (.iconst 2, 1) := by decide +kernel
theorem dL_law_655 : decode cL_law 655 = .ok (.iadd, 1) := by decide +kernel
theorem dL_law_656 : decode cL_law 656 = .ok (.iaload, 1) := by decide +kernel
theorem dL_law_657 : decode cL_law 657 = .ok (.invokevirtual 90, 3) := by decide +kernel
theorem dL_law_660 : decode cL_law 660 = .ok (.aload_n 2, 1) := by decide +kernel
theorem dL_law_661 : decode cL_law 661 = .ok (.aload_n 0, 1) := by decide +kernel
theorem dL_law_662 : decode cL_law 662 = .ok (.iload_n 3, 1) := by decide +kernel
theorem dL_law_663 : decode cL_law 663 = .ok (.iconst 1, 1) := by decide +kernel
theorem dL_law_664 : decode cL_law 664 = .ok (.iadd, 1) := by decide +kernel
theorem dL_law_665 : decode cL_law 665 = .ok (.iaload, 1) := by decide +kernel
theorem dL_law_666 : decode cL_law 666 = .ok (.aload_n 0, 1) := by decide +kernel
theorem dL_law_667 : decode cL_law 667 = .ok (.iload_n 3, 1) := by decide +kernel
theorem dL_law_668 : decode cL_law 668 = .ok (.iconst 2, 1) := by decide +kernel
theorem dL_law_669 : decode cL_law 669 = .ok (.iadd, 1) := by decide +kernel
theorem dL_law_670 : decode cL_law 670 = .ok (.iaload, 1) := by decide +kernel
theorem dL_law_671 : decode cL_law 671 = .ok (.invokevirtual 93, 3) := by decide +kernel
theorem dL_law_674 : decode cL_law 674 = .ok (.if_icmp .eq 256, 3) := by decide +kernel
theorem dL_law_677 : decode cL_law 677 = .ok (.iconst 0, 1) := by decide +kernel
theorem dL_law_678 : decode cL_law 678 = .ok (.ireturn, 1) := by decide +kernel
theorem dL_law_679 : decode cL_law 679 = .ok (.aload_n 1, 1) := by decide +kernel
theorem dL_law_680 : decode cL_law 680 = .ok (.invokevirtual 94, 3) := by decide +kernel
theorem dL_law_683 : decode cL_law 683 = .ok (.aload_n 2, 1) := by decide +kernel
theorem dL_law_684 : decode cL_law 684 = .ok (.invokevirtual 97, 3) := by decide +kernel
theorem dL_law_687 : decode cL_law 687 = .ok (.if_icmp .eq 243, 3) := by decide +kernel
theorem dL_law_690 : decode cL_law 690 = .ok (.iconst 0, 1) := by decide +kernel
theorem dL_law_691 : decode cL_law 691 = .ok (.ireturn, 1) := by decide +kernel
theorem dL_law_692 : decode cL_law 692 = .ok (.aload_n 1, 1) := by decide +kernel
theorem dL_law_693 : decode cL_law 693 = .ok (.aload_n 0, 1) := by decide +kernel
theorem dL_law_694 : decode cL_law 694 = .ok (.iload_n 3, 1) := by decide +kernel
theorem dL_law_695 : decode cL_law 695 = .ok (.iconst 1, 1) := by decide +kernel
theorem dL_law_696 : decode cL_law 696 = .ok (.iadd, 1) := by decide +kernel
theorem dL_law_697 : decode cL_law 697 = .ok (.iaload, 1) := by decide +kernel
theorem dL_law_698 : decode cL_law 698 = .ok (.invokevirtual 98, 3) := by decide +kernel
theorem dL_law_701 : decode cL_law 701 = .ok (.aload_n 2, 1) := by decide +kernel
theorem dL_law_702 : decode cL_law 702 = .ok (.aload_n 0, 1) := by decide +kernel
theorem dL_law_703 : decode cL_law 703 = .ok (.iload_n 3, 1) := by decide +kernel
theorem dL_law_704 : decode cL_law 704 = .ok (.iconst 1, 1) := by decide +kernel
theorem dL_law_705 : decode cL_law 705 = .ok (.iadd, 1) := by decide +kernel
theorem dL_law_706 : decode cL_law 706 = .ok (.iaload, 1) := by decide +kernel
theorem dL_law_707 : decode cL_law 707 = .ok (.invokevirtual 101, 3) := by decide +kernel
theorem dL_law_710 : decode cL_law 710 = .ok (.if_icmp .eq 220, 3) := by decide +kernel
theorem dL_law_713 : decode cL_law 713 = .ok (.iconst 0, 1) := by decide +kernel
theorem dL_law_714 : decode cL_law 714 = .ok (.ireturn, 1) := by decide +kernel
theorem dL_law_715 : decode cL_law 715 = .ok (.aload_n 1, 1) := by decide +kernel
theorem dL_law_716 : decode cL_law 716 = .ok (.aload_n 0, 1) := by decide +kernel
theorem dL_law_717 : decode cL_law 717 = .ok (.iload_n 3, 1) := by decide +kernel
theorem dL_law_718 : decode cL_law 718 = .ok (.iconst 1, 1) := by decide +kernel
theorem dL_law_719 : decode cL_law 719 = .ok (.iadd, 1) := by decide +kernel
theorem dL_law_720 : decode cL_law 720 = .ok (.iaload, 1) := by decide +kernel
theorem dL_law_721 : decode cL_law 721 = .ok (.invokevirtual 102, 3) := by decide +kernel
theorem dL_law_724 : decode cL_law 724 = .ok (.aload_n 2, 1) := by decide +kernel
theorem dL_law_725 : decode cL_law 725 = .ok (.aload_n 0, 1) := by decide +kernel
theorem dL_law_726 : decode cL_law 726 = .ok (.iload_n 3, 1) := by decide +kernel
theorem dL_law_727 : decode cL_law 727 = .ok (.iconst 1, 1) := by decide +kernel
theorem dL_law_728 : decode cL_law 728 = .ok (.iadd, 1) := by decide +kernel
theorem dL_law_729 : decode cL_law 729 = .ok (.iaload, 1) := by decide +kernel
theorem dL_law_730 : decode cL_law 730 = .ok (.invokevirtual 105, 3) := by decide +kernel
theorem dL_law_733 : decode cL_law 733 = .ok (.if_icmp .eq 197, 3) := by decide +kernel
theorem dL_law_736 : decode cL_law 736 = .ok (.iconst 0, 1) := by decide +kernel
theorem dL_law_737 : decode cL_law 737 = .ok (.ireturn, 1) := by decide +kernel
theorem dL_law_738 : decode cL_law 738 = .ok (.aload_n 1, 1) := by decide +kernel
theorem dL_law_739 : decode cL_law 739 = .ok (.aload_n 0, 1) := by decide +kernel
theorem dL_law_740 : decode cL_law 740 = .ok (.iload_n 3, 1) := by decide +kernel
theorem dL_law_741 : decode cL_law 741 = .ok (.iconst 1, 1) := by decide +kernel
theorem dL_law_742 : decode cL_law 742 = .ok (.iadd, 1) := by decide +kernel
theorem dL_law_743 : decode cL_law 743 = .ok (.iaload, 1) := by decide +kernel
theorem dL_law_744 : decode cL_law 744 = .ok (.aload_n 0, 1) := by decide +kernel
theorem dL_law_745 : decode cL_law 745 = .ok (.iload_n 3, 1) := by decide +kernel
theorem dL_law_746 : decode cL_law 746 = .ok (.iconst 2, 1) := by decide +kernel
theorem dL_law_747 : decode cL_law 747 = .ok (.iadd, 1) := by decide +kernel
theorem dL_law_748 : decode cL_law 748 = .ok (.iaload, 1) := by decide +kernel
theorem dL_law_749 : decode cL_law 749 = .ok (.aload_n 0, 1) := by decide +kernel
theorem dL_law_750 : decode cL_law 750 = .ok (.iload_n 3, 1) := by decide +kernel
theorem dL_law_751 : decode cL_law 751 = .ok (.iconst 3, 1) := by decide +kernel
theorem dL_law_752 : decode cL_law 752 = .ok (.iadd, 1) := by decide +kernel
theorem dL_law_753 : decode cL_law 753 = .ok (.iaload, 1) := by decide +kernel
theorem dL_law_754 : decode cL_law 754 = .ok (.aload_n 0, 1) := by decide +kernel
theorem dL_law_755 : decode cL_law 755 = .ok (.iload_n 3, 1) := by decide +kernel
theorem dL_law_756 : decode cL_law 756 = .ok (.iconst 4, 1) := by decide +kernel
theorem dL_law_757 : decode cL_law 757 = .ok (.iadd, 1) := by decide +kernel
theorem dL_law_758 : decode cL_law 758 = .ok (.iaload, 1) := by decide +kernel
theorem dL_law_759 : decode cL_law 759 = .ok (.ifCond .eq 7, 3) := by decide +kernel
theorem dL_law_762 : decode cL_law 762 = .ok (.iconst 1, 1) := by decide +kernel
theorem dL_law_763 : decode cL_law 763 = .ok (.goto 4, 3) := by decide +kernel
theorem dL_law_766 : decode cL_law 766 = .ok (.iconst 0, 1) := by decide +kernel
theorem dL_law_767 : decode cL_law 767 = .ok (.invokevirtual 106, 3) := by decide +kernel
theorem dL_law_770 : decode cL_law 770 = .ok (.aload_n 2, 1) := by decide +kernel
theorem dL_law_771 : decode cL_law 771 = .ok (.aload_n 0, 1) := by decide +kernel
theorem dL_law_772 : decode cL_law 772 = .ok (.iload_n 3, 1) := by decide +kernel
theorem dL_law_773 : decode cL_law 773 = .ok (.iconst 1, 1) := by decide +kernel
theorem dL_law_774 : decode cL_law 774 = .ok (.iadd, 1) := by decide +kernel
theorem dL_law_775 : decode cL_law 775 = .ok (.iaload, 1) := by decide +kernel
theorem dL_law_776 : decode cL_law 776 = .ok (.aload_n 0, 1) := by decide +kernel
theorem dL_law_777 : decode cL_law 777 = .ok (.iload_n 3, 1) := by decide +kernel
theorem dL_law_778 : decode cL_law 778 = .ok (.iconst 2, 1) := by decide +kernel
theorem dL_law_779 : decode cL_law 779 = .ok (.iadd, 1) := by decide +kernel
theorem dL_law_780 : decode cL_law 780 = .ok (.iaload, 1) := by decide +kernel
theorem dL_law_781 : decode cL_law 781 = .ok (.aload_n 0, 1) := by decide +kernel
theorem dL_law_782 : decode cL_law 782 = .ok (.iload_n 3, 1) := by decide +kernel
theorem dL_law_783 : decode cL_law 783 = .ok (.iconst 3, 1) := by decide +kernel
theorem dL_law_784 : decode cL_law 784 = .ok (.iadd, 1) := by decide +kernel
theorem dL_law_785 : decode cL_law 785 = .ok (.iaload, 1) := by decide +kernel
theorem dL_law_786 : decode cL_law 786 = .ok (.aload_n 0, 1) := by decide +kernel
theorem dL_law_787 : decode cL_law 787 = .ok (.iload_n 3, 1) := by decide +kernel
theorem dL_law_788 : decode cL_law 788 = .ok (.iconst 4, 1) := by decide +kernel
theorem dL_law_789 : decode cL_law 789 = .ok (.iadd, 1) := by decide +kernel
theorem dL_law_790 : decode cL_law 790 = .ok (.iaload, 1) := by decide +kernel
theorem dL_law_791 : decode cL_law 791 = .ok (.ifCond .eq 7, 3) := by decide +kernel
theorem dL_law_794 : decode cL_law 794 = .ok (.iconst 1, 1) := by decide +kernel
theorem dL_law_795 : decode cL_law 795 = .ok (.goto 4, 3) := by decide +kernel
theorem dL_law_798 : decode cL_law 798 = .ok (.iconst 0, 1) := by decide +kernel
theorem dL_law_799 : decode cL_law 799 = .ok (.invokevirtual 110, 3) := by decide +kernel
theorem dL_law_802 : decode cL_law 802 = .ok (.if_icmp .eq 128, 3) := by decide +kernel
theorem dL_law_805 : decode cL_law 805 = .ok (.iconst 0, 1) := by decide +kernel
theorem dL_law_806 : decode cL_law 806 = .ok (.ireturn, 1) := by decide +kernel
theorem dL_law_807 : decode cL_law 807 = .ok (.aload_n 1, 1) := by decide +kernel
theorem dL_law_808 : decode cL_law 808 = .ok (.aload_n 0, 1) := by decide +kernel
theorem dL_law_809 : decode cL_law 809 = .ok (.iload_n 3, 1) := by decide +kernel
theorem dL_law_810 : decode cL_law 810 = .ok (.iconst 1, 1) := by decide +kernel
theorem dL_law_811 : decode cL_law 811 = .ok (.iadd, 1) := by decide +kernel
theorem dL_law_812 : decode cL_law 812 = .ok (.iaload, 1) := by decide +kernel
theorem dL_law_813 : decode cL_law 813 = .ok (.i2l, 1) := by decide +kernel
theorem dL_law_814 : decode cL_law 814 = .ok (.bipush 32, 2) := by decide +kernel
theorem dL_law_816 : decode cL_law 816 = .ok (.lshl, 1) := by decide +kernel
theorem dL_law_817 : decode cL_law 817 = .ok (.aload_n 0, 1) := by decide +kernel
theorem dL_law_818 : decode cL_law 818 = .ok (.iload_n 3, 1) := by decide +kernel
theorem dL_law_819 : decode cL_law 819 = .ok (.iconst 2, 1) := by decide +kernel
theorem dL_law_820 : decode cL_law 820 = .ok (.iadd, 1) := by decide +kernel
theorem dL_law_821 : decode cL_law 821 = .ok (.iaload, 1) := by decide +kernel
theorem dL_law_822 : decode cL_law 822 = .ok (.i2l, 1) := by decide +kernel
theorem dL_law_823 : decode cL_law 823 = .ok (.ldc2_w 111, 3) := by decide +kernel
theorem dL_law_826 : decode cL_law 826 = .ok (.land, 1) := by decide +kernel
theorem dL_law_827 : decode cL_law 827 = .ok (.lor, 1) := by decide +kernel
theorem dL_law_828 : decode cL_law 828 = .ok (.invokevirtual 113, 3) := by decide +kernel
theorem dL_law_831 : decode cL_law 831 = .ok (.aload_n 2, 1) := by decide +kernel
theorem dL_law_832 : decode cL_law 832 = .ok (.aload_n 0, 1) := by decide +kernel
theorem dL_law_833 : decode cL_law 833 = .ok (.iload_n 3, 1) := by decide +kernel
theorem dL_law_834 : decode cL_law 834 = .ok (.iconst 1, 1) := by decide +kernel
theorem dL_law_835 : decode cL_law 835 = .ok (.iadd, 1) := by decide +kernel
theorem dL_law_836 : decode cL_law 836 = .ok (.iaload, 1) := by decide +kernel
theorem dL_law_837 : decode cL_law 837 = .ok (.i2l, 1) := by decide +kernel
theorem dL_law_838 : decode cL_law 838 = .ok (.bipush 32, 2) := by decide +kernel
theorem dL_law_840 : decode cL_law 840 = .ok (.lshl, 1) := by decide +kernel
theorem dL_law_841 : decode cL_law 841 = .ok (.aload_n 0, 1) := by decide +kernel
theorem dL_law_842 : decode cL_law 842 = .ok (.iload_n 3, 1) := by decide +kernel
theorem dL_law_843 : decode cL_law 843 = .ok (.iconst 2, 1) := by decide +kernel
theorem dL_law_844 : decode cL_law 844 = .ok (.iadd, 1) := by decide +kernel
theorem dL_law_845 : decode cL_law 845 = .ok (.iaload, 1) := by decide +kernel
theorem dL_law_846 : decode cL_law 846 = .ok (.i2l, 1) := by decide +kernel
theorem dL_law_847 : decode cL_law 847 = .ok (.ldc2_w 111, 3) := by decide +kernel
theorem dL_law_850 : decode cL_law 850 = .ok (.land, 1) := by decide +kernel
theorem dL_law_851 : decode cL_law 851 = .ok (.lor, 1) := by decide +kernel
theorem dL_law_852 : decode cL_law 852 = .ok (.invokevirtual 117, 3) := by decide +kernel
theorem dL_law_855 : decode cL_law 855 = .ok (.lcmp, 1) := by decide +kernel
theorem dL_law_856 : decode cL_law 856 = .ok (.ifCond .eq 74, 3) := by decide +kernel
theorem dL_law_859 : decode cL_law 859 = .ok (.iconst 0, 1) := by decide +kernel
theorem dL_law_860 : decode cL_law 860 = .ok (.ireturn, 1) := by decide +kernel
theorem dL_law_861 : decode cL_law 861 = .ok (.aload_n 1, 1) := by decide +kernel
theorem dL_law_862 : decode cL_law 862 = .ok (.aload_n 0, 1) := by decide +kernel
theorem dL_law_863 : decode cL_law 863 = .ok (.iload_n 3, 1) := by decide +kernel
theorem dL_law_864 : decode cL_law 864 = .ok (.iconst 1, 1) := by decide +kernel
theorem dL_law_865 : decode cL_law 865 = .ok (.iadd, 1) := by decide +kernel
theorem dL_law_866 : decode cL_law 866 = .ok (.iaload, 1) := by decide +kernel
theorem dL_law_867 : decode cL_law 867 = .ok (.invokevirtual 118, 3) := by decide +kernel
theorem dL_law_870 : decode cL_law 870 = .ok (.aload_n 2, 1) := by decide +kernel
theorem dL_law_871 : decode cL_law 871 = .ok (.aload_n 0, 1) := by decide +kernel
theorem dL_law_872 : decode cL_law 872 = .ok (.iload_n 3, 1) := by decide +kernel
theorem dL_law_873 : decode cL_law 873 = .ok (.iconst 1, 1) := by decide +kernel
theorem dL_law_874 : decode cL_law 874 = .ok (.iadd, 1) := by decide +kernel
theorem dL_law_875 : decode cL_law 875 = .ok (.iaload, 1) := by decide +kernel
theorem dL_law_876 : decode cL_law 876 = .ok (.invokevirtual 121, 3) := by decide +kernel
theorem dL_law_879 : decode cL_law 879 = .ok (.if_icmp .eq 51, 3) := by decide +kernel
theorem dL_law_882 : decode cL_law 882 = .ok (.iconst 0, 1) := by decide +kernel
theorem dL_law_883 : decode cL_law 883 = .ok (.ireturn, 1) := by decide +kernel
theorem dL_law_884 : decode cL_law 884 = .ok (.aload_n 1, 1) := by decide +kernel
theorem dL_law_885 : decode cL_law 885 = .ok (.aload_n 0, 1) := by decide +kernel
theorem dL_law_886 : decode cL_law 886 = .ok (.iload_n 3, 1) := by decide +kernel
theorem dL_law_887 : decode cL_law 887 = .ok (.iconst 1, 1) := by decide +kernel
theorem dL_law_888 : decode cL_law 888 = .ok (.iadd, 1) := by decide +kernel
theorem dL_law_889 : decode cL_law 889 = .ok (.iaload, 1) := by decide +kernel
theorem dL_law_890 : decode cL_law 890 = .ok (.invokevirtual 122, 3) := by decide +kernel
theorem dL_law_893 : decode cL_law 893 = .ok (.aload_n 2, 1) := by decide +kernel
theorem dL_law_894 : decode cL_law 894 = .ok (.aload_n 0, 1) := by decide +kernel
theorem dL_law_895 : decode cL_law 895 = .ok (.iload_n 3, 1) := by decide +kernel
theorem dL_law_896 : decode cL_law 896 = .ok (.iconst 1, 1) := by decide +kernel
theorem dL_law_897 : decode cL_law 897 = .ok (.iadd, 1) := by decide +kernel
theorem dL_law_898 : decode cL_law 898 = .ok (.iaload, 1) := by decide +kernel
theorem dL_law_899 : decode cL_law 899 = .ok (.invokevirtual 125, 3) := by decide +kernel
theorem dL_law_902 : decode cL_law 902 = .ok (.if_icmp .eq 28, 3) := by decide +kernel
theorem dL_law_905 : decode cL_law 905 = .ok (.iconst 0, 1) := by decide +kernel
theorem dL_law_906 : decode cL_law 906 = .ok (.ireturn, 1) := by decide +kernel
theorem dL_law_907 : decode cL_law 907 = .ok (.aload_n 1, 1) := by decide +kernel
theorem dL_law_908 : decode cL_law 908 = .ok (.aload_n 0, 1) := by decide +kernel
theorem dL_law_909 : decode cL_law 909 = .ok (.iload_n 3, 1) := by decide +kernel
theorem dL_law_910 : decode cL_law 910 = .ok (.iconst 1, 1) := by decide +kernel
theorem dL_law_911 : decode cL_law 911 = .ok (.iadd, 1) := by decide +kernel
theorem dL_law_912 : decode cL_law 912 = .ok (.iaload, 1) := by decide +kernel
theorem dL_law_913 : decode cL_law 913 = .ok (.invokevirtual 126, 3) := by decide +kernel
theorem dL_law_916 : decode cL_law 916 = .ok (.aload_n 2, 1) := by decide +kernel
theorem dL_law_917 : decode cL_law 917 = .ok (.aload_n 0, 1) := by decide +kernel
theorem dL_law_918 : decode cL_law 918 = .ok (.iload_n 3, 1) := by decide +kernel
theorem dL_law_919 : decode cL_law 919 = .ok (.iconst 1, 1) := by decide +kernel
theorem dL_law_920 : decode cL_law 920 = .ok (.iadd, 1) := by decide +kernel
theorem dL_law_921 : decode cL_law 921 = .ok (.iaload, 1) := by decide +kernel
theorem dL_law_922 : decode cL_law 922 = .ok (.invokevirtual 129, 3) := by decide +kernel
theorem dL_law_925 : decode cL_law 925 = .ok (.if_icmp .eq 5, 3) := by decide +kernel
theorem dL_law_928 : decode cL_law 928 = .ok (.iconst 0, 1) := by decide +kernel
theorem dL_law_929 : decode cL_law 929 = .ok (.ireturn, 1) := by decide +kernel
theorem dL_law_930 : decode cL_law 930 = .ok (.iinc 3 5, 3) := by decide +kernel
theorem dL_law_933 : decode cL_law 933 = .ok (.goto (-915), 3) := by decide +kernel
theorem dL_law_936 : decode cL_law 936 = .ok (.iconst 1, 1) := by decide +kernel
theorem dL_law_937 : decode cL_law 937 = .ok (.ireturn, 1) := by decide +kernel
end
section
-- ===== the pure machine: one fixed layout of cells, a memory of numbers, rows that hide the heap =====
abbrev PM : Type := (Nat → Nat → Int32) × (Nat → Int64)
abbrev Ev : Type := Launch × (Nat → Nat) × (Nat → ClassId) × (Nat → Nat → Nat) × (ClassId × ClassId × ClassId) × Nat
def ad (E : Ev) (c : Nat) : Nat := E.2.1 c
def eD (E : Ev) : va_G := (E.2.2.1, E.2.2.2.1)
def cI (E : Ev) : ClassId := E.2.2.2.2.1.1
def cZ (E : Ev) : ClassId := E.2.2.2.2.1.2.1
def cT (E : Ev) : ClassId := E.2.2.2.2.1.2.2
def fa (E : Ev) : Nat := E.2.2.2.2.2
def sa (M : PM) (c : Nat) (f : Nat → Int32) : PM := (fun c' => if c' = c then f else M.1 c', M.2)
def sl (M : PM) (c : Nat) (v : Int64) : PM := (M.1, fun c' => if c' = c then v else M.2 c')
def cK : Nat := 60
def lay (c : Nat) : (Nat × Nat) ⊕ (Nat × List (Nat ⊕ Bool)) := match c with
  | 0 => .inr (8, [.inl 1, .inl 3, .inl 8, .inl 13, .inl 16, .inl 19, .inl 26, .inl 27, .inl 31, .inl 34, .inl 37, .inl 39, .inr true])
  | 1 => .inr (6, [.inl 2, .inr false])
  | 2 => .inl (0, 56)
  | 3 => .inr (1, [.inl 4, .inl 5, .inl 6, .inl 7, .inr false, .inr false, .inr false, .inr false, .inr false])
  | 4 => .inl (0, 5)
  | 5 => .inl (0, 25)
  | 6 => .inl (0, 4)
  | 7 => .inl (0, 4)
  | 8 => .inr (1, [.inl 9, .inl 10, .inl 11, .inl 12, .inr false, .inr false, .inr false, .inr false, .inr false])
  | 9 => .inl (0, 5)
  | 10 => .inl (0, 25)
  | 11 => .inl (0, 4)
  | 12 => .inl (0, 4)
  | 13 => .inr (4, [.inl 3, .inl 14, .inl 15, .inr false])
  | 14 => .inl (0, 25)
  | 15 => .inl (0, 5)
  | 16 => .inr (4, [.inl 3, .inl 17, .inl 18, .inr false])
  | 17 => .inl (0, 25)
  | 18 => .inl (0, 5)
  | 19 => .inl (2, 2)
  | 20 => .inr (4, [.inl 3, .inl 21, .inl 22, .inr false])
  | 21 => .inl (0, 25)
  | 22 => .inl (0, 5)
  | 23 => .inr (4, [.inl 3, .inl 24, .inl 25, .inr false])
  | 24 => .inl (0, 25)
  | 25 => .inl (0, 5)
  | 26 => .inl (1, 2)
  | 27 => .inr (0, [.inl 28, .inl 29, .inl 30, .inr false])
  | 28 => .inl (0, 14)
  | 29 => .inl (0, 14)
  | 30 => .inl (0, 14)
  | 31 => .inr (5, [.inl 3, .inl 32, .inl 33])
  | 32 => .inl (0, 10)
  | 33 => .inl (0, 40)
  | 34 => .inr (3, [.inl 35, .inl 36, .inr false])
  | 35 => .inl (0, 6)
  | 36 => .inl (0, 6)
  | 37 => .inr (7, [.inl 38, .inr false, .inr false])
  | 38 => .inl (0, 5)
  | 39 => .inr (2, [.inr false, .inr false, .inr false])
  | 40 => .inr (9, [.inr false, .inl 41, .inr false, .inr false, .inr false, .inr false, .inl 42, .inr false, .inl 43, .inl 44, .inr false, .inl 45, .inr false, .inl 46, .inr false, .inl 47, .inl 48, .inl 49, .inl 50, .inl 51, .inr false, .inl 52, .inl 53, .inr false, .inl 54, .inl 55, .inr true, .inl 56, .inl 57, .inl 58, .inr false, .inr false, .inr false, .inr false, .inl 59])
  | 41 => .inl (0, 56)
  | 42 => .inl (0, 5)
  | 43 => .inl (0, 4)
  | 44 => .inl (0, 4)
  | 45 => .inl (0, 25)
  | 46 => .inl (0, 5)
  | 47 => .inl (0, 4)
  | 48 => .inl (0, 4)
  | 49 => .inl (0, 31)
  | 50 => .inl (0, 31)
  | 51 => .inl (0, 434)
  | 52 => .inl (0, 62)
  | 53 => .inl (1, 2)
  | 54 => .inl (0, 6)
  | 55 => .inl (0, 6)
  | 56 => .inl (0, 5)
  | 57 => .inl (0, 5)
  | 58 => .inl (0, 5)
  | 59 => .inl (0, 32)
  | _ => .inl (0, 0)
def fv (E : Ev) (M : PM) (c k : Nat) (q : Nat ⊕ Bool) : Value := match q with
  | .inl r => .ref (ad E r)
  | .inr false => .int (M.1 c k)
  | .inr true => .long (M.2 c)
def fvs (E : Ev) (M : PM) (c : Nat) : Nat → List (Nat ⊕ Bool) → List Value
  | _, [] => []
  | k, q :: t => fv E M c k q :: fvs E M c (k + 1) t
def ce (E : Ev) (M : PM) (c : Nat) : va_E := match lay c with
  | .inl (0, n) => .inl (cI E, n, .inl (M.1 c))
  | .inl (1, n) => .inl (cZ E, n, .inl (M.1 c))
  | .inl (_, n) => .inl (cT E, n, .inr (.inr (.inr (.inr (fun i => some (ad E (20 + 3 * i)))))))
  | .inr (ci, fs) => .inr (ci, fvs E M c 0 fs)
theorem ce_i {E : Ev} {M : PM} {c n : Nat} (h : lay c = .inl (0, n)) : ce E M c = .inl (cI E, n, .inl (M.1 c)) := by
  simp only [ce, h]
theorem ce_z {E : Ev} {M : PM} {c n : Nat} (h : lay c = .inl (1, n)) : ce E M c = .inl (cZ E, n, .inl (M.1 c)) := by
  simp only [ce, h]
theorem ce_o {E : Ev} {M : PM} {c ci : Nat} {fs : List (Nat ⊕ Bool)} (h : lay c = .inr (ci, fs)) : ce E M c = .inr (ci, fvs E M c 0 fs) := by
  simp only [ce, h]
def ws (E : Ev) (M : PM) : va_W := (List.range cK).map (fun c => (ad E c, ce E M c))
theorem ws_at {E : Ev} {M : PM} {c : Nat} (h : c < cK) : (ws E M)[c]? = some (ad E c, ce E M c) := by
  simp [ws, h]
theorem ce_congr {E : Ev} {M N : PM} {c : Nat} (h1 : M.1 c = N.1 c) (h2 : M.2 c = N.2 c) : ce E M c = ce E N c := by
  have hf : ∀ (fs : List (Nat ⊕ Bool)) (k : Nat), fvs E M c k fs = fvs E N c k fs := by
    intro fs
    induction fs with
    | nil => intro k; rfl
    | cons q t ih =>
      intro k
      show fv E M c k q :: fvs E M c (k + 1) t = fv E N c k q :: fvs E N c (k + 1) t
      rw [ih (k + 1)]
      congr 1
      unfold fv
      split <;> simp [h1, h2]
  unfold ce
  split <;> simp [h1, hf]
theorem ws_set {E : Ev} {M N : PM} {c : Nat} (h : ∀ c', c' ≠ c → M.1 c' = N.1 c' ∧ M.2 c' = N.2 c') : (ws E M).set c (ad E c, ce E N c) = ws E N := by
  apply List.ext_getElem?
  intro i
  by_cases hc : i = c
  · subst hc
    by_cases hl : i < cK
    · rw [List.getElem?_set_self (by simpa [ws] using hl), ws_at hl]
    · rw [List.getElem?_eq_none (by simpa [ws] using hl), List.getElem?_eq_none (by simpa [ws] using hl)]
  · rw [List.getElem?_set_ne (Ne.symm hc)]
    by_cases hl : i < cK
    · rw [ws_at hl, ws_at hl, ce_congr (h i hc).1 (h i hc).2]
    · rw [List.getElem?_eq_none (by simpa [ws] using hl), List.getElem?_eq_none (by simpa [ws] using hl)]
theorem sa_1 {M : PM} {c : Nat} {f : Nat → Int32} : (sa M c f).1 c = f := by simp [sa]
theorem sa_ne {M : PM} {c c' : Nat} {f : Nat → Int32} (h : c' ≠ c) : (sa M c f).1 c' = M.1 c' := by simp [sa, h]
theorem sa_2 {M : PM} {c : Nat} {f : Nat → Int32} : (sa M c f).2 = M.2 := rfl
theorem sl_1 {M : PM} {c : Nat} {v : Int64} : (sl M c v).1 = M.1 := rfl
theorem sl_2 {M : PM} {c : Nat} {v : Int64} : (sl M c v).2 c = v := by simp [sl]
theorem ws_sa {E : Ev} {M : PM} {c : Nat} {f : Nat → Int32} : (ws E M).set c (ad E c, ce E (sa M c f) c) = ws E (sa M c f) :=
  ws_set fun c' h => ⟨(sa_ne h).symm, rfl⟩
theorem ws_sl {E : Ev} {M : PM} {c : Nat} {v : Int64} : (ws E M).set c (ad E c, ce E (sl M c v) c) = ws E (sl M c v) :=
  ws_set fun c' h => ⟨rfl, by simp [sl, h]⟩
theorem fvs_at {E : Ev} {M : PM} {c : Nat} (fs : List (Nat ⊕ Bool)) (j i : Nat) {q : Nat ⊕ Bool} (h : fs[i]? = some q) : (fvs E M c j fs)[i]? = some (fv E M c (j + i) q) := by
  induction fs generalizing i j with
  | nil => simp at h
  | cons a t ih =>
    cases i with
    | zero => simp at h; subst h; simp [fvs]
    | succ i =>
      simp at h
      have := ih (j + 1) i h
      simp only [fvs, List.getElem?_cons_succ, this]
      rw [show j + 1 + i = j + (i + 1) by omega]
theorem fvs_len {E : Ev} {M : PM} {c : Nat} (fs : List (Nat ⊕ Bool)) (j : Nat) : (fvs E M c j fs).length = fs.length := by
  induction fs generalizing j with
  | nil => rfl
  | cons a t ih => simp [fvs, ih]
theorem fvs_put {E : Ev} {M : PM} {c : Nat} (fs : List (Nat ⊕ Bool)) (j i : Nat) {v : Int32} (h : fs[i]? = some (.inr false)) : (fvs E M c j fs).set i (.int v) = fvs E (sa M c (upd (M.1 c) (j + i) v)) c j fs := by
  have hk : ∀ (fs : List (Nat ⊕ Bool)) (j k : Nat), k < j → fvs E (sa M c (upd (M.1 c) k v)) c j fs = fvs E M c j fs := by
    intro fs
    induction fs with
    | nil => intro j k _; rfl
    | cons q t ih =>
      intro j k hj
      show fv _ _ _ _ _ :: _ = fv _ _ _ _ _ :: _
      rw [ih (j + 1) k (by omega)]
      congr 1
      unfold fv
      split
      · rfl
      · rw [sa_1]; (try simp [upd]); (try (intro h; omega))
      · rfl
  induction fs generalizing i j with
  | nil => simp at h
  | cons a t ih =>
    cases i with
    | zero =>
      simp at h; subst h
      show Value.int v :: _ = fv _ _ _ _ _ :: _
      rw [hk t (j + 1) (j + 0) (by omega)]
      congr 1
      unfold fv
      simp [sa_1, upd]
    | succ i =>
      simp at h
      show fv _ _ _ _ _ :: _ = fv _ _ _ _ _ :: _
      rw [ih (j + 1) i h, show j + 1 + i = j + (i + 1) by omega]
      congr 1
      unfold fv
      split
      · rfl
      · rw [sa_1]; (try simp [upd]); (try (intro h; omega))
      · rfl
theorem fvs_putl {E : Ev} {M : PM} {c : Nat} (fs : List (Nat ⊕ Bool)) (j i : Nat) {v : Int64} (h : fs[i]? = some (Sum.inr true)) (h1 : ∀ k : Nat, fs[k]? = some (Sum.inr true) → k = i) : (fvs E M c j fs).set i (.long v) = fvs E (sl M c v) c j fs := by
  have hk : ∀ (fs : List (Nat ⊕ Bool)) (j : Nat), (∀ k : Nat, fs[k]? ≠ some (Sum.inr true)) → fvs E (sl M c v) c j fs = fvs E M c j fs := by
    intro fs
    induction fs with
    | nil => intro j _; rfl
    | cons q t ih =>
      intro j hn
      show fv _ _ _ _ _ :: _ = fv _ _ _ _ _ :: _
      rw [ih (j + 1) (fun k hk => hn (k + 1) (by simpa using hk))]
      congr 1
      have hq := hn 0
      simp at hq
      unfold fv
      split
      · rfl
      · rfl
      · exact absurd rfl hq
  induction fs generalizing i j with
  | nil => simp at h
  | cons a t ih =>
    cases i with
    | zero =>
      simp at h; subst h
      show Value.long v :: _ = fv _ _ _ _ _ :: _
      rw [hk t (j + 1) (fun k hk => by have := h1 (k + 1) (by simpa using hk); omega)]
      congr 1
      unfold fv
      simp [sl]
    | succ i =>
      simp at h
      show fv _ _ _ _ _ :: _ = fv _ _ _ _ _ :: _
      rw [ih (j + 1) i h (fun k hk => by have := h1 (k + 1) (by simpa using hk); omega)]
      congr 1
      have hq : a ≠ .inr true := fun e => by have := h1 0 (by simp [e]); omega
      unfold fv
      split
      · rfl
      · rfl
      · exact absurd rfl hq
-- ===== what holds around a method =====
def isNest : Cond → Bool
  | .fieldLinkNest .. => true
  | .methodLinkNest .. => true
  | _ => false
def nestW : List Cond := tables_1.filter isNest
def tblG : List Cond := lw_tbl.filter goodWord
theorem tblG_good : ∀ w ∈ tblG, (w.onTables && w.keeps) = true ∨ ∃ ty, w = .arrayClass ty := fun _ h => good_of_word (List.mem_filter.mp h).2
def wA (E : Ev) : Nat → Prop := fun q => ∃ c, c < cK ∧ q = ad E c
def tysE (E : Ev) : List (ClassId × FieldType) := [(cI E, .int), (cZ E, .boolean), (cT E, .object "WireFamily$Table")]
def facF (j : Nat) : Value := .int ((#[1, 1, 2, 6, 24, 120] : Array Int32).getD j 0)
def Gd (E : Ev) (U : State) : Prop := va_K (eD E) vwCl (tysE E) U ∧ (∀ w ∈ nestW, va_Nw w U) ∧ va_Z "WireFamily" "FACTORIAL" "[I" (.ref (fa E)) (wA E) U U.heap ∧ va_T .int (fa E) 6 facF (wA E) U U.heap
def Ap (E : Ev) : Prop := ∀ i j, i < cK → j < cK → ad E i = ad E j → i = j
def Wd (E : Ev) (M : PM) (U : State) : Prop := Ap E ∧ Gd E U ∧ va_P (eD E) vwCl (ws E M) U.heap
theorem Ap.D {E : Ev} (h : Ap E) (M : PM) : va_D (wA E) (ws E M) := by
  have key : ∀ (k : Nat) (q : Nat × va_E), (ws E M)[k]? = some q → k < cK ∧ q.1 = ad E k := by
    intro k q hq
    have hk : k < cK := by
      have := (List.getElem?_eq_some_iff.mp hq).1
      simpa [ws] using this
    rw [ws_at hk] at hq
    cases hq
    exact ⟨hk, rfl⟩
  refine ⟨fun i j p q hi hj hpq => ?_, fun k q hq => ?_⟩
  · obtain ⟨a1, a2⟩ := key i p hi
    obtain ⟨b1, b2⟩ := key j q hj
    exact h i j a1 b1 (by rw [← a2, ← b2]; exact hpq)
  · obtain ⟨a1, a2⟩ := key k q hq
    exact ⟨k, a1, a2⟩
theorem nest_moved {s U : State} (hW : s.WarmedH U.vm) (h : ∀ w ∈ nestW, va_Nw w s) : ∀ w ∈ nestW, va_Nw w U := by
  intro w hw
  have h1 := h w hw
  have h2 := (List.mem_filter.mp hw).2
  cases w <;> first | (simp [isNest] at h2; done) | exact va_Nw.warmF hW h1 | exact va_Nw.warmM hW h1
theorem nest_same {s U : State} (hv : s.vm = U.vm) (h : ∀ w ∈ nestW, va_Nw w s) : ∀ w ∈ nestW, va_Nw w U := by
  intro w hw
  have h1 := h w hw
  have h2 := (List.mem_filter.mp hw).2
  cases w <;> first | (simp [isNest] at h2; done) | exact va_Nw.same rfl hv h1
theorem Gd.to {E : Ev} {s U : State} (h : Gd E s) (hW : s.WarmedH U.vm) (hk : ∀ a : Nat, a < s.heap.size → ¬ wA E a → U.heap[a]? = s.heap[a]?) : Gd E U := by
  obtain ⟨h1, h2, h3, h4⟩ := h
  refine ⟨va_K.moved hW.alike h1, nest_moved hW h2, (h3.kept hk).moved hW.alike, (h4.kept hk).moved hW.alike⟩
theorem Gd.blind {E : Ev} {U V : State} (h : Gd E U) (hv : V.vm = U.vm) (hh : V.heap = U.heap) : Gd E V := by
  obtain ⟨h1, h2, h3, h4⟩ := h
  have ha : U.vm.Alike V.vm := by rw [hv]; exact Vm.Alike.refl U.vm
  refine ⟨va_K.moved ha h1, nest_same hv.symm h2, ?_, ?_⟩
  · rw [hh]; exact h3.moved ha
  · rw [hh]; exact h4.moved ha
-- ===== locals =====
def lvH (ls : Array Slot) (nL : Nat) (L : List (Option Value)) : Prop := ls.size = nL ∧ lv_wf ls ∧ ∀ (i : Nat) (v : Value), L[i]? = some (some v) → ls[i]? = some (.val v)
def al : Nat → List (Option Value) → List (Nat × Value)
  | _, [] => []
  | k, none :: t => al (k + 1) t
  | k, some v :: t => (k, v) :: al (k + 1) t
theorem mem_al {L : List (Option Value)} {k i : Nat} {v : Value} : (i, v) ∈ al k L ↔ k ≤ i ∧ L[i - k]? = some (some v) := by
  induction L generalizing k with
  | nil => simp [al]
  | cons a t ih =>
    have key : (k + 1 ≤ i ∧ t[i - (k + 1)]? = some (some v)) ↔ (k < i ∧ (a :: t)[i - k]? = some (some v)) := by
      constructor
      · rintro ⟨h1, h2⟩
        refine ⟨h1, ?_⟩
        rw [show i - k = (i - (k + 1)) + 1 by omega, List.getElem?_cons_succ]
        exact h2
      · rintro ⟨h1, h2⟩
        refine ⟨h1, ?_⟩
        rw [show i - k = (i - (k + 1)) + 1 by omega, List.getElem?_cons_succ] at h2
        exact h2
    cases a with
    | none =>
      show (i, v) ∈ al (k + 1) t ↔ _
      rw [ih, key]
      constructor
      · rintro ⟨h1, h2⟩; exact ⟨by omega, h2⟩
      · rintro ⟨h1, h2⟩
        refine ⟨?_, h2⟩
        rcases Nat.lt_or_ge k i with h | h
        · exact h
        · have : i = k := by omega
          subst this
          simp at h2
    | some w =>
      show (i, v) ∈ (k, w) :: al (k + 1) t ↔ _
      rw [List.mem_cons, ih, key]
      constructor
      · rintro (h | ⟨h1, h2⟩)
        · cases h; simp
        · exact ⟨by omega, h2⟩
      · rintro ⟨h1, h2⟩
        rcases Nat.lt_or_ge k i with h | h
        · exact Or.inr ⟨h, h2⟩
        · have : i = k := by omega
          subst this
          simp at h2
          exact Or.inl (by rw [h2])
theorem lvH.has {ls : Array Slot} {nL : Nat} {L : List (Option Value)} (h : lvH ls nL L) : lv_has ls nL (al 0 L) := by
  refine ⟨h.1, h.2.1, fun q hq => ?_⟩
  obtain ⟨i, v⟩ := q
  exact h.2.2 i v (by simpa using (mem_al.mp hq).2)
theorem lvH.of {ls : Array Slot} {nL : Nat} {l : List (Nat × Value)} {L : List (Option Value)} (h : lv_has ls nL l) (hL : ∀ (i : Nat) (v : Value), L[i]? = some (some v) → (i, v) ∈ l) : lvH ls nL L :=
  ⟨h.1, h.2.1, fun i v hi => h.2.2 (i, v) (hL i v hi)⟩
def nl : Option Value → Bool
  | some (.long _) => false
  | some (.double _) => false
  | _ => true
theorem nl_cat {v : Value} (h : nl (some v) = true) : v.category ≠ 2 := by
  cases v <;> simp_all [nl, Value.category]
def nlAt (L : List (Option Value)) : Nat → Bool
  | 0 => true
  | i + 1 => match L[i]? with
    | some a => nl a
    | none => true
theorem st_mem {L : List (Option Value)} {i : Nat} {v : Value} (hn : nlAt L i = true) : ∀ (j : Nat) (w : Value), (L.set i (some v))[j]? = some (some w) → (j, w) ∈ (i, v) :: (al 0 L).filter (fun q => !(q.1 == i) && !(q.1 + 1 == i && q.2.category == 2)) := by
  intro j w hj
  by_cases hji : j = i
  · subst hji
    have hl : j < L.length := by
      have := (List.getElem?_eq_some_iff.mp hj).1
      simpa using this
    rw [List.getElem?_set_self hl] at hj
    cases hj
    exact List.mem_cons_self
  · rw [List.getElem?_set_ne (Ne.symm hji)] at hj
    refine List.mem_cons_of_mem _ (List.mem_filter.mpr ⟨mem_al.mpr ⟨Nat.zero_le _, by simpa using hj⟩, ?_⟩)
    have h1 : ¬ (j + 1 = i ∧ w.category = 2) := by
      rintro ⟨e, hc⟩
      subst e
      simp only [nlAt, hj] at hn
      exact nl_cat hn hc
    simp [hji]
    by_cases e : j + 1 = i
    · exact Or.inr (fun hc => h1 ⟨e, hc⟩)
    · exact Or.inl e
theorem st_mem2 {L : List (Option Value)} {i : Nat} {v : Value} (hn : nlAt L i = true) : ∀ (j : Nat) (w : Value), ((L.set i (some v)).set (i + 1) none)[j]? = some (some w) → (j, w) ∈ (i, v) :: (al 0 L).filter (fun q => !(q.1 == i) && (!(q.1 == i + 1) && !(q.1 + 1 == i && q.2.category == 2))) := by
  intro j w hj
  have hj1 : j ≠ i + 1 := by
    rintro rfl
    have hl : i + 1 < (L.set i (some v)).length := by
      have := (List.getElem?_eq_some_iff.mp hj).1
      simpa using this
    rw [List.getElem?_set_self hl] at hj
    cases hj
  rw [List.getElem?_set_ne (Ne.symm hj1)] at hj
  have h0 := st_mem hn j w hj
  rcases List.mem_cons.mp h0 with h | h
  · exact List.mem_cons.mpr (Or.inl h)
  · obtain ⟨a, b⟩ := List.mem_filter.mp h
    refine List.mem_cons_of_mem _ (List.mem_filter.mpr ⟨a, ?_⟩)
    simp at b ⊢
    exact ⟨b.1, hj1, b.2⟩
-- ===== the judgement X =====
abbrev Cx : Type := Program × Env × Room × State × MethodId × Array Value × List Frame × Method × Code × (Nat × Nat) × (State → Prop)
def Ok (E : Ev) (d : Nat) (own : String) (b : ByteArray) (nL : Nat) : Cx → Prop
  | (p, _, R, s, m, args, _, _, c, cs, _) => p.tables.exec = Jvm.exec ∧ c.code = b ∧ c.maxLocals = nL ∧ s.vm.findClass own = some m.cls ∧ (∀ w ∈ tblG, w.before args s = true) ∧ Ap E ∧ Gd E s ∧ d ≤ R.frames ∧ 35 * d ≤ R.locals ∧ cs.1 ≤ R.cells ∧ cs.2 ≤ R.slots
def X (E : Ev) (d : Nat) (own : String) (b : ByteArray) (nL : Nat) (C : Cx) (pc : Nat) (L : List (Option Value)) (st : List Value) (M : PM) : Prop := Ok E d own b nL C → match C with
  | (p, e, R, s, m, args, below, meth, c, cs, Q) => ∀ (H : Heap) (locs : List Loc) (ls : Array Slot), va_P (eD E) vwCl (ws E M) H → va_S (wA E) s.heap H locs → lvH ls nL L → W p E.1 e R s m args below meth c H locs cs.1 cs.2 Q (F0 m pc ls st)
abbrev MI : Type := MethodName × ByteArray × Nat × Option FieldType
def rmD (d : Nat) : Room := { frames := d, cells := 0, slots := 0, locals := 35 * d }
def wsM (m : MI) : List Cond := Cond.code m.1 m.2.1 m.2.2.1 m.2.2.2 :: tblG
/-- the contract of a method at depth d: from a world with memory M it returns, with an answer and a memory that satisfy P -/
def Ct (E : Ev) (d : Nat) (m : MI) (args : List Value) (M : PM) (P : Option Value → PM → Prop) : Prop :=
  Met E.1 m.1 (wsM m) (rmD d) (va_Pc args (fun U => Wd E M U)) (fun _ st o t => (∃ (r : Option Value) (N : PM), o = .returned r ∧ P r N ∧ va_P (eD E) vwCl (ws E N) t.heap) ∧ va_F (wA E) st t) 0 0 (wA E)
def Ci (E : Ev) (d : Nat) (m : MI) (args : List Value) (M : PM) (P : Int32 → PM → Prop) : Prop := Ct E d m args M (fun r N => ∃ v, r = some (.int v) ∧ P v N)
def Cv (E : Ev) (d : Nat) (m : MI) (args : List Value) (M : PM) (P : PM → Prop) : Prop := Ct E d m args M (fun r N => r = none ∧ P N)
def Cl (E : Ev) (d : Nat) (m : MI) (args : List Value) (M : PM) (P : Int64 → PM → Prop) : Prop := Ct E d m args M (fun r N => ∃ v, r = some (.long v) ∧ P v N)
def Cr (E : Ev) (d : Nat) (m : MI) (args : List Value) (M : PM) (P : Nat → PM → Prop) : Prop := Ct E d m args M (fun r N => ∃ c, r = some (.ref (ad E c)) ∧ P c N)
section XR
variable {E : Ev} {d : Nat} {own : String} {b : ByteArray} {nL : Nat} {C : Cx} {pc : Nat} {L : List (Option Value)} {st : List Value} {M : PM}

theorem x_iconst {n : Int} {v : Int32} (hd : decode b pc = .ok (.iconst n, 1)) (hv : Int32.ofInt n = v) (kk : X E d own b nL C (pc + 1) L (.int v :: st) M) : X E d own b nL C pc L (st) M := by
  obtain ⟨p, e, R, s, m, args, below, meth, c, cs, Q⟩ := C
  intro ok H locs ls hP hS hl
  exact lv_iconst ok.1 ok.2.1 hd hv (kk ok H locs ls hP hS hl)
theorem x_bipush {n : Int} {v : Int32} (hd : decode b pc = .ok (.bipush n, 2)) (hv : (Int8.ofInt n).toInt32 = v) (kk : X E d own b nL C (pc + 2) L (.int v :: st) M) : X E d own b nL C pc L (st) M := by
  obtain ⟨p, e, R, s, m, args, below, meth, c, cs, Q⟩ := C
  intro ok H locs ls hP hS hl
  exact lv_bipush ok.1 ok.2.1 hd hv (kk ok H locs ls hP hS hl)
theorem x_sipush {n : Int} {v : Int32} (hd : decode b pc = .ok (.sipush n, 3)) (hv : (Int16.ofInt n).toInt32 = v) (kk : X E d own b nL C (pc + 3) L (.int v :: st) M) : X E d own b nL C pc L (st) M := by
  obtain ⟨p, e, R, s, m, args, below, meth, c, cs, Q⟩ := C
  intro ok H locs ls hP hS hl
  exact lv_sipush ok.1 ok.2.1 hd hv (kk ok H locs ls hP hS hl)
theorem x_lconst {n : Fin 2} {v : Int64} (hd : decode b pc = .ok (.lconst n, 1)) (hv : Int64.ofNat (n : Nat) = v) (kk : X E d own b nL C (pc + 1) L (.long v :: st) M) : X E d own b nL C pc L (st) M := by
  obtain ⟨p, e, R, s, m, args, below, meth, c, cs, Q⟩ := C
  intro ok H locs ls hP hS hl
  exact lv_lconst ok.1 ok.2.1 hd hv (kk ok H locs ls hP hS hl)
theorem x_iload_n {k : Fin 4} {i : Nat} {x : Int32} (hd : decode b pc = .ok (.iload_n k, 1)) (hi : (k : Nat) = i) (hv : L[i]? = some (some (.int x))) (kk : X E d own b nL C (pc + 1) L (.int x :: st) M) : X E d own b nL C pc L (st) M := by
  obtain ⟨p, e, R, s, m, args, below, meth, c, cs, Q⟩ := C
  intro ok H locs ls hP hS hl
  exact lv_iload_n ok.1 ok.2.1 hd hi (hl.2.2 _ _ hv) (kk ok H locs ls hP hS hl)
theorem x_iload {i : Nat} {x : Int32} (hd : decode b pc = .ok (.iload i, 2)) (hv : L[i]? = some (some (.int x))) (kk : X E d own b nL C (pc + 2) L (.int x :: st) M) : X E d own b nL C pc L (st) M := by
  obtain ⟨p, e, R, s, m, args, below, meth, c, cs, Q⟩ := C
  intro ok H locs ls hP hS hl
  exact lv_iload ok.1 ok.2.1 hd (hl.2.2 _ _ hv) (kk ok H locs ls hP hS hl)
theorem x_lload_n {k : Fin 4} {i : Nat} {x : Int64} (hd : decode b pc = .ok (.lload_n k, 1)) (hi : (k : Nat) = i) (hv : L[i]? = some (some (.long x))) (kk : X E d own b nL C (pc + 1) L (.long x :: st) M) : X E d own b nL C pc L (st) M := by
  obtain ⟨p, e, R, s, m, args, below, meth, c, cs, Q⟩ := C
  intro ok H locs ls hP hS hl
  exact lv_lload_n ok.1 ok.2.1 hd hi (hl.2.2 _ _ hv) (kk ok H locs ls hP hS hl)
theorem x_lload {i : Nat} {x : Int64} (hd : decode b pc = .ok (.lload i, 2)) (hv : L[i]? = some (some (.long x))) (kk : X E d own b nL C (pc + 2) L (.long x :: st) M) : X E d own b nL C pc L (st) M := by
  obtain ⟨p, e, R, s, m, args, below, meth, c, cs, Q⟩ := C
  intro ok H locs ls hP hS hl
  exact lv_lload ok.1 ok.2.1 hd (hl.2.2 _ _ hv) (kk ok H locs ls hP hS hl)
theorem x_aload_n {k : Fin 4} {i x : Nat} (hd : decode b pc = .ok (.aload_n k, 1)) (hi : (k : Nat) = i) (hv : L[i]? = some (some (.ref x))) (kk : X E d own b nL C (pc + 1) L (.ref x :: st) M) : X E d own b nL C pc L (st) M := by
  obtain ⟨p, e, R, s, m, args, below, meth, c, cs, Q⟩ := C
  intro ok H locs ls hP hS hl
  exact lv_aload_n ok.1 ok.2.1 hd hi (hl.2.2 _ _ hv) (kk ok H locs ls hP hS hl)
theorem x_aload {i x : Nat} (hd : decode b pc = .ok (.aload i, 2)) (hv : L[i]? = some (some (.ref x))) (kk : X E d own b nL C (pc + 2) L (.ref x :: st) M) : X E d own b nL C pc L (st) M := by
  obtain ⟨p, e, R, s, m, args, below, meth, c, cs, Q⟩ := C
  intro ok H locs ls hP hS hl
  exact lv_aload ok.1 ok.2.1 hd (hl.2.2 _ _ hv) (kk ok H locs ls hP hS hl)
theorem x_iadd {x y : Int32} (hd : decode b pc = .ok (.iadd, 1)) (kk : X E d own b nL C (pc + 1) L (.int (x + y) :: st) M) : X E d own b nL C pc L (.int y :: .int x :: st) M := by
  obtain ⟨p, e, R, s, m, args, below, meth, c, cs, Q⟩ := C
  intro ok H locs ls hP hS hl
  exact lv_iadd ok.1 ok.2.1 hd (kk ok H locs ls hP hS hl)
theorem x_isub {x y : Int32} (hd : decode b pc = .ok (.isub, 1)) (kk : X E d own b nL C (pc + 1) L (.int (x - y) :: st) M) : X E d own b nL C pc L (.int y :: .int x :: st) M := by
  obtain ⟨p, e, R, s, m, args, below, meth, c, cs, Q⟩ := C
  intro ok H locs ls hP hS hl
  exact lv_isub ok.1 ok.2.1 hd (kk ok H locs ls hP hS hl)
theorem x_imul {x y : Int32} (hd : decode b pc = .ok (.imul, 1)) (kk : X E d own b nL C (pc + 1) L (.int (x * y) :: st) M) : X E d own b nL C pc L (.int y :: .int x :: st) M := by
  obtain ⟨p, e, R, s, m, args, below, meth, c, cs, Q⟩ := C
  intro ok H locs ls hP hS hl
  exact lv_imul ok.1 ok.2.1 hd (kk ok H locs ls hP hS hl)
theorem x_iand {x y : Int32} (hd : decode b pc = .ok (.iand, 1)) (kk : X E d own b nL C (pc + 1) L (.int (x &&& y) :: st) M) : X E d own b nL C pc L (.int y :: .int x :: st) M := by
  obtain ⟨p, e, R, s, m, args, below, meth, c, cs, Q⟩ := C
  intro ok H locs ls hP hS hl
  exact lv_iand ok.1 ok.2.1 hd (kk ok H locs ls hP hS hl)
theorem x_ior {x y : Int32} (hd : decode b pc = .ok (.ior, 1)) (kk : X E d own b nL C (pc + 1) L (.int (x ||| y) :: st) M) : X E d own b nL C pc L (.int y :: .int x :: st) M := by
  obtain ⟨p, e, R, s, m, args, below, meth, c, cs, Q⟩ := C
  intro ok H locs ls hP hS hl
  exact lv_ior ok.1 ok.2.1 hd (kk ok H locs ls hP hS hl)
theorem x_ishl {x y : Int32} (hd : decode b pc = .ok (.ishl, 1)) (kk : X E d own b nL C (pc + 1) L (.int (x <<< (y &&& 31)) :: st) M) : X E d own b nL C pc L (.int y :: .int x :: st) M := by
  obtain ⟨p, e, R, s, m, args, below, meth, c, cs, Q⟩ := C
  intro ok H locs ls hP hS hl
  exact lv_ishl ok.1 ok.2.1 hd (kk ok H locs ls hP hS hl)
theorem x_ishr {x y : Int32} (hd : decode b pc = .ok (.ishr, 1)) (kk : X E d own b nL C (pc + 1) L (.int (x >>> (y &&& 31)) :: st) M) : X E d own b nL C pc L (.int y :: .int x :: st) M := by
  obtain ⟨p, e, R, s, m, args, below, meth, c, cs, Q⟩ := C
  intro ok H locs ls hP hS hl
  exact lv_ishr ok.1 ok.2.1 hd (kk ok H locs ls hP hS hl)
theorem x_idiv {x y : Int32} (hd : decode b pc = .ok (.idiv, 1)) (hne : ¬ y = 0) (kk : X E d own b nL C (pc + 1) L (.int (x / y) :: st) M) : X E d own b nL C pc L (.int y :: .int x :: st) M := by
  obtain ⟨p, e, R, s, m, args, below, meth, c, cs, Q⟩ := C
  intro ok H locs ls hP hS hl
  exact lv_idiv ok.1 ok.2.1 hd hne (kk ok H locs ls hP hS hl)
theorem x_irem {x y : Int32} (hd : decode b pc = .ok (.irem, 1)) (hne : ¬ y = 0) (kk : X E d own b nL C (pc + 1) L (.int (x % y) :: st) M) : X E d own b nL C pc L (.int y :: .int x :: st) M := by
  rw [← irem_eq_mod] at kk
  obtain ⟨p, e, R, s, m, args, below, meth, c, cs, Q⟩ := C
  intro ok H locs ls hP hS hl
  exact lv_irem ok.1 ok.2.1 hd hne (kk ok H locs ls hP hS hl)
theorem x_ineg {x : Int32} (hd : decode b pc = .ok (.ineg, 1)) (kk : X E d own b nL C (pc + 1) L (.int (-x) :: st) M) : X E d own b nL C pc L (.int x :: st) M := by
  obtain ⟨p, e, R, s, m, args, below, meth, c, cs, Q⟩ := C
  intro ok H locs ls hP hS hl
  exact lv_ineg ok.1 ok.2.1 hd (kk ok H locs ls hP hS hl)
theorem x_iushr {x y : Int32} (hd : decode b pc = .ok (.iushr, 1)) (kk : X E d own b nL C (pc + 1) L (.int (x.toUInt32 >>> (y.toUInt32 &&& Int32.toUInt32 31)).toInt32 :: st) M) : X E d own b nL C pc L (.int y :: .int x :: st) M := by
  obtain ⟨p, e, R, s, m, args, below, meth, c, cs, Q⟩ := C
  intro ok H locs ls hP hS hl
  exact lv_iushr ok.1 ok.2.1 hd rfl (kk ok H locs ls hP hS hl)
theorem x_i2l {x : Int32} (hd : decode b pc = .ok (.i2l, 1)) (kk : X E d own b nL C (pc + 1) L (.long x.toInt64 :: st) M) : X E d own b nL C pc L (.int x :: st) M := by
  obtain ⟨p, e, R, s, m, args, below, meth, c, cs, Q⟩ := C
  intro ok H locs ls hP hS hl
  exact lv_i2l ok.1 ok.2.1 hd rfl (kk ok H locs ls hP hS hl)
theorem x_l2i {x : Int64} (hd : decode b pc = .ok (.l2i, 1)) (kk : X E d own b nL C (pc + 1) L (.int x.toInt32 :: st) M) : X E d own b nL C pc L (.long x :: st) M := by
  obtain ⟨p, e, R, s, m, args, below, meth, c, cs, Q⟩ := C
  intro ok H locs ls hP hS hl
  exact lv_l2i ok.1 ok.2.1 hd rfl (kk ok H locs ls hP hS hl)
theorem x_ladd {x y : Int64} (hd : decode b pc = .ok (.ladd, 1)) (kk : X E d own b nL C (pc + 1) L (.long (x + y) :: st) M) : X E d own b nL C pc L (.long y :: .long x :: st) M := by
  obtain ⟨p, e, R, s, m, args, below, meth, c, cs, Q⟩ := C
  intro ok H locs ls hP hS hl
  exact lv_ladd ok.1 ok.2.1 hd (kk ok H locs ls hP hS hl)
theorem x_lmul {x y : Int64} (hd : decode b pc = .ok (.lmul, 1)) (kk : X E d own b nL C (pc + 1) L (.long (x * y) :: st) M) : X E d own b nL C pc L (.long y :: .long x :: st) M := by
  obtain ⟨p, e, R, s, m, args, below, meth, c, cs, Q⟩ := C
  intro ok H locs ls hP hS hl
  exact lv_lmul ok.1 ok.2.1 hd (kk ok H locs ls hP hS hl)
theorem x_land {x y : Int64} (hd : decode b pc = .ok (.land, 1)) (kk : X E d own b nL C (pc + 1) L (.long (x &&& y) :: st) M) : X E d own b nL C pc L (.long y :: .long x :: st) M := by
  obtain ⟨p, e, R, s, m, args, below, meth, c, cs, Q⟩ := C
  intro ok H locs ls hP hS hl
  exact lv_land ok.1 ok.2.1 hd (kk ok H locs ls hP hS hl)
theorem x_lor {x y : Int64} (hd : decode b pc = .ok (.lor, 1)) (kk : X E d own b nL C (pc + 1) L (.long (x ||| y) :: st) M) : X E d own b nL C pc L (.long y :: .long x :: st) M := by
  obtain ⟨p, e, R, s, m, args, below, meth, c, cs, Q⟩ := C
  intro ok H locs ls hP hS hl
  exact lv_lor ok.1 ok.2.1 hd (kk ok H locs ls hP hS hl)
theorem x_lrem {x y : Int64} (hd : decode b pc = .ok (.lrem, 1)) (hne : ¬ y = 0) (kk : X E d own b nL C (pc + 1) L (.long (x - x / y * y) :: st) M) : X E d own b nL C pc L (.long y :: .long x :: st) M := by
  obtain ⟨p, e, R, s, m, args, below, meth, c, cs, Q⟩ := C
  intro ok H locs ls hP hS hl
  exact lv_lrem ok.1 ok.2.1 hd hne (kk ok H locs ls hP hS hl)
theorem x_lushr {x : Int64} {y : Int32} (hd : decode b pc = .ok (.lushr, 1)) (kk : X E d own b nL C (pc + 1) L (.long (x.toUInt64 >>> (y.toInt64.toUInt64 &&& Int64.toUInt64 63)).toInt64 :: st) M) : X E d own b nL C pc L (.int y :: .long x :: st) M := by
  obtain ⟨p, e, R, s, m, args, below, meth, c, cs, Q⟩ := C
  intro ok H locs ls hP hS hl
  exact lv_lushr ok.1 ok.2.1 hd rfl (kk ok H locs ls hP hS hl)
theorem x_lshl {x : Int64} {y : Int32} (hd : decode b pc = .ok (.lshl, 1)) (kk : X E d own b nL C (pc + 1) L (.long (x <<< (y.toInt64 &&& 63)) :: st) M) : X E d own b nL C pc L (.int y :: .long x :: st) M := by
  obtain ⟨p, e, R, s, m, args, below, meth, c, cs, Q⟩ := C
  intro ok H locs ls hP hS hl
  exact lv_lshl ok.1 ok.2.1 hd rfl (kk ok H locs ls hP hS hl)
theorem x_lcmp {x y : Int64} (hd : decode b pc = .ok (.lcmp, 1)) (kk : X E d own b nL C (pc + 1) L (.int (lg_cmp x y) :: st) M) : X E d own b nL C pc L (.long y :: .long x :: st) M := by
  obtain ⟨p, e, R, s, m, args, below, meth, c, cs, Q⟩ := C
  intro ok H locs ls hP hS hl
  exact W.lcmp ok.1 ok.2.1 hd (kk ok H locs ls hP hS hl)
theorem x_dup {v : Value} (hd : decode b pc = .ok (.dup, 1)) (hv : v.category = 1) (kk : X E d own b nL C (pc + 1) L (v :: v :: st) M) : X E d own b nL C pc L (v :: st) M := by
  obtain ⟨p, e, R, s, m, args, below, meth, c, cs, Q⟩ := C
  intro ok H locs ls hP hS hl
  exact lv_dup ok.1 ok.2.1 hd hv (kk ok H locs ls hP hS hl)
theorem x_pop {v : Value} (hd : decode b pc = .ok (.pop, 1)) (hv : v.category = 1) (kk : X E d own b nL C (pc + 1) L (st) M) : X E d own b nL C pc L (v :: st) M := by
  obtain ⟨p, e, R, s, m, args, below, meth, c, cs, Q⟩ := C
  intro ok H locs ls hP hS hl
  exact lv_pop ok.1 ok.2.1 hd hv (kk ok H locs ls hP hS hl)
theorem x_dup2 {v w : Value} (hd : decode b pc = .ok (.dup2, 1)) (hv : v.category = 1) (hw : w.category = 1) (kk : X E d own b nL C (pc + 1) L (v :: w :: v :: w :: st) M) : X E d own b nL C pc L (v :: w :: st) M := by
  obtain ⟨p, e, R, s, m, args, below, meth, c, cs, Q⟩ := C
  intro ok H locs ls hP hS hl
  exact lv_dup2_11 ok.1 ok.2.1 hd hv hw (kk ok H locs ls hP hS hl)
theorem x_dup2l {v : Value} (hd : decode b pc = .ok (.dup2, 1)) (hv : v.category = 2) (kk : X E d own b nL C (pc + 1) L (v :: v :: st) M) : X E d own b nL C pc L (v :: st) M := by
  obtain ⟨p, e, R, s, m, args, below, meth, c, cs, Q⟩ := C
  intro ok H locs ls hP hS hl
  exact lv_dup2_2 ok.1 ok.2.1 hd hv (kk ok H locs ls hP hS hl)
theorem x_goto {off : Int} {tgt : Nat} (hd : decode b pc = .ok (.goto off, 3)) (ht : (pc : Int) + off = (tgt : Int)) (kk : X E d own b nL C tgt L st M) : X E d own b nL C pc L st M := by
  obtain ⟨p, e, R, s, m, args, below, meth, c, cs, Q⟩ := C
  intro ok H locs ls hP hS hl
  exact lv_goto ok.1 ok.2.1 hd ht (kk ok H locs ls hP hS hl)
theorem x_if_eq {x : Int32} {off : Int} {tgt : Nat} (hd : decode b pc = .ok (.ifCond .eq off, 3)) (ht : (pc : Int) + off = (tgt : Int)) (kt : x = 0 → X E d own b nL C tgt L st M) (kf : ¬ x = 0 → X E d own b nL C (pc + 3) L st M) : X E d own b nL C pc L (.int x :: st) M := by
  obtain ⟨p, e, R, s, m, args, below, meth, c, cs, Q⟩ := C
  intro ok H locs ls hP hS hl
  exact lv_if_eq ok.1 ok.2.1 hd ht (fun q => kt q ok H locs ls hP hS hl) (fun q => kf q ok H locs ls hP hS hl)
theorem x_icmp_eq {x y : Int32} {off : Int} {tgt : Nat} (hd : decode b pc = .ok (.if_icmp .eq off, 3)) (ht : (pc : Int) + off = (tgt : Int)) (kt : x = y → X E d own b nL C tgt L st M) (kf : ¬ x = y → X E d own b nL C (pc + 3) L st M) : X E d own b nL C pc L (.int y :: .int x :: st) M := by
  obtain ⟨p, e, R, s, m, args, below, meth, c, cs, Q⟩ := C
  intro ok H locs ls hP hS hl
  exact lv_icmp_eq ok.1 ok.2.1 hd ht (fun q => kt q ok H locs ls hP hS hl) (fun q => kf q ok H locs ls hP hS hl)
theorem x_if_ne {x : Int32} {off : Int} {tgt : Nat} (hd : decode b pc = .ok (.ifCond .ne off, 3)) (ht : (pc : Int) + off = (tgt : Int)) (kt : ¬ x = 0 → X E d own b nL C tgt L st M) (kf : x = 0 → X E d own b nL C (pc + 3) L st M) : X E d own b nL C pc L (.int x :: st) M := by
  obtain ⟨p, e, R, s, m, args, below, meth, c, cs, Q⟩ := C
  intro ok H locs ls hP hS hl
  exact lv_if_ne ok.1 ok.2.1 hd ht (fun q => kt q ok H locs ls hP hS hl) (fun q => kf q ok H locs ls hP hS hl)
theorem x_icmp_ne {x y : Int32} {off : Int} {tgt : Nat} (hd : decode b pc = .ok (.if_icmp .ne off, 3)) (ht : (pc : Int) + off = (tgt : Int)) (kt : ¬ x = y → X E d own b nL C tgt L st M) (kf : x = y → X E d own b nL C (pc + 3) L st M) : X E d own b nL C pc L (.int y :: .int x :: st) M := by
  obtain ⟨p, e, R, s, m, args, below, meth, c, cs, Q⟩ := C
  intro ok H locs ls hP hS hl
  exact lv_icmp_ne ok.1 ok.2.1 hd ht (fun q => kt q ok H locs ls hP hS hl) (fun q => kf q ok H locs ls hP hS hl)
theorem x_if_lt {x : Int32} {off : Int} {tgt : Nat} (hd : decode b pc = .ok (.ifCond .lt off, 3)) (ht : (pc : Int) + off = (tgt : Int)) (kt : x < 0 → X E d own b nL C tgt L st M) (kf : ¬ x < 0 → X E d own b nL C (pc + 3) L st M) : X E d own b nL C pc L (.int x :: st) M := by
  obtain ⟨p, e, R, s, m, args, below, meth, c, cs, Q⟩ := C
  intro ok H locs ls hP hS hl
  exact lv_if_lt ok.1 ok.2.1 hd ht (fun q => kt q ok H locs ls hP hS hl) (fun q => kf q ok H locs ls hP hS hl)
theorem x_icmp_lt {x y : Int32} {off : Int} {tgt : Nat} (hd : decode b pc = .ok (.if_icmp .lt off, 3)) (ht : (pc : Int) + off = (tgt : Int)) (kt : x < y → X E d own b nL C tgt L st M) (kf : ¬ x < y → X E d own b nL C (pc + 3) L st M) : X E d own b nL C pc L (.int y :: .int x :: st) M := by
  obtain ⟨p, e, R, s, m, args, below, meth, c, cs, Q⟩ := C
  intro ok H locs ls hP hS hl
  exact lv_icmp_lt ok.1 ok.2.1 hd ht (fun q => kt q ok H locs ls hP hS hl) (fun q => kf q ok H locs ls hP hS hl)
theorem x_if_ge {x : Int32} {off : Int} {tgt : Nat} (hd : decode b pc = .ok (.ifCond .ge off, 3)) (ht : (pc : Int) + off = (tgt : Int)) (kt : 0 ≤ x → X E d own b nL C tgt L st M) (kf : ¬ 0 ≤ x → X E d own b nL C (pc + 3) L st M) : X E d own b nL C pc L (.int x :: st) M := by
  obtain ⟨p, e, R, s, m, args, below, meth, c, cs, Q⟩ := C
  intro ok H locs ls hP hS hl
  exact lv_if_ge ok.1 ok.2.1 hd ht (fun q => kt q ok H locs ls hP hS hl) (fun q => kf q ok H locs ls hP hS hl)
theorem x_icmp_ge {x y : Int32} {off : Int} {tgt : Nat} (hd : decode b pc = .ok (.if_icmp .ge off, 3)) (ht : (pc : Int) + off = (tgt : Int)) (kt : y ≤ x → X E d own b nL C tgt L st M) (kf : ¬ y ≤ x → X E d own b nL C (pc + 3) L st M) : X E d own b nL C pc L (.int y :: .int x :: st) M := by
  obtain ⟨p, e, R, s, m, args, below, meth, c, cs, Q⟩ := C
  intro ok H locs ls hP hS hl
  exact lv_icmp_ge ok.1 ok.2.1 hd ht (fun q => kt q ok H locs ls hP hS hl) (fun q => kf q ok H locs ls hP hS hl)
theorem x_if_gt {x : Int32} {off : Int} {tgt : Nat} (hd : decode b pc = .ok (.ifCond .gt off, 3)) (ht : (pc : Int) + off = (tgt : Int)) (kt : 0 < x → X E d own b nL C tgt L st M) (kf : ¬ 0 < x → X E d own b nL C (pc + 3) L st M) : X E d own b nL C pc L (.int x :: st) M := by
  obtain ⟨p, e, R, s, m, args, below, meth, c, cs, Q⟩ := C
  intro ok H locs ls hP hS hl
  exact lv_if_gt ok.1 ok.2.1 hd ht (fun q => kt q ok H locs ls hP hS hl) (fun q => kf q ok H locs ls hP hS hl)
theorem x_icmp_gt {x y : Int32} {off : Int} {tgt : Nat} (hd : decode b pc = .ok (.if_icmp .gt off, 3)) (ht : (pc : Int) + off = (tgt : Int)) (kt : y < x → X E d own b nL C tgt L st M) (kf : ¬ y < x → X E d own b nL C (pc + 3) L st M) : X E d own b nL C pc L (.int y :: .int x :: st) M := by
  obtain ⟨p, e, R, s, m, args, below, meth, c, cs, Q⟩ := C
  intro ok H locs ls hP hS hl
  exact lv_icmp_gt ok.1 ok.2.1 hd ht (fun q => kt q ok H locs ls hP hS hl) (fun q => kf q ok H locs ls hP hS hl)
theorem x_if_le {x : Int32} {off : Int} {tgt : Nat} (hd : decode b pc = .ok (.ifCond .le off, 3)) (ht : (pc : Int) + off = (tgt : Int)) (kt : x ≤ 0 → X E d own b nL C tgt L st M) (kf : ¬ x ≤ 0 → X E d own b nL C (pc + 3) L st M) : X E d own b nL C pc L (.int x :: st) M := by
  obtain ⟨p, e, R, s, m, args, below, meth, c, cs, Q⟩ := C
  intro ok H locs ls hP hS hl
  exact lv_if_le ok.1 ok.2.1 hd ht (fun q => kt q ok H locs ls hP hS hl) (fun q => kf q ok H locs ls hP hS hl)
theorem x_icmp_le {x y : Int32} {off : Int} {tgt : Nat} (hd : decode b pc = .ok (.if_icmp .le off, 3)) (ht : (pc : Int) + off = (tgt : Int)) (kt : x ≤ y → X E d own b nL C tgt L st M) (kf : ¬ x ≤ y → X E d own b nL C (pc + 3) L st M) : X E d own b nL C pc L (.int y :: .int x :: st) M := by
  obtain ⟨p, e, R, s, m, args, below, meth, c, cs, Q⟩ := C
  intro ok H locs ls hP hS hl
  exact lv_icmp_le ok.1 ok.2.1 hd ht (fun q => kt q ok H locs ls hP hS hl) (fun q => kf q ok H locs ls hP hS hl)
theorem x_tableOut {dflt lo hi : Int} {offs : Array Int} {len : Nat} {x : Int32} {tgt : Nat} (hd : decode b pc = .ok (.tableswitch dflt lo hi offs, len)) (h : x.toInt < lo ∨ hi < x.toInt) (ht : (pc : Int) + dflt = (tgt : Int)) (kk : X E d own b nL C tgt L st M) : X E d own b nL C pc L (.int x :: st) M := by
  obtain ⟨p, e, R, s, m, args, below, meth, c, cs, Q⟩ := C
  intro ok H locs ls hP hS hl
  exact lv_tableOut ok.1 ok.2.1 hd h ht (kk ok H locs ls hP hS hl)
theorem x_tableIn {dflt lo hi : Int} {offs : Array Int} {len : Nat} {x : Int32} {off : Int} {tgt : Nat} (hd : decode b pc = .ok (.tableswitch dflt lo hi offs, len)) (h1 : ¬ x.toInt < lo) (h2 : ¬ hi < x.toInt) (ho : offs[(x.toInt - lo).toNat]? = some off) (ht : (pc : Int) + off = (tgt : Int)) (kk : X E d own b nL C tgt L st M) : X E d own b nL C pc L (.int x :: st) M := by
  obtain ⟨p, e, R, s, m, args, below, meth, c, cs, Q⟩ := C
  intro ok H locs ls hP hS hl
  exact lv_tableIn ok.1 ok.2.1 hd h1 h2 ho ht (kk ok H locs ls hP hS hl)
theorem x_lookup {dflt : Int} {ps : Array (Int × Int)} {len : Nat} {x : Int32} {off : Int} {tgt : Nat} (hd : decode b pc = .ok (.lookupswitch dflt ps, len)) (hp : (ps.toList.zip (ps.toList.drop 1)).all (fun (a, next) => a.1 < next.1) = true) (ho : Op.lookupswitch.offset ps.toList dflt x.toInt = off) (ht : (pc : Int) + off = (tgt : Int)) (kk : X E d own b nL C tgt L st M) : X E d own b nL C pc L (.int x :: st) M := by
  obtain ⟨p, e, R, s, m, args, below, meth, c, cs, Q⟩ := C
  intro ok H locs ls hP hS hl
  exact lv_lookup ok.1 ok.2.1 hd hp ho ht (kk ok H locs ls hP hS hl)
theorem x_ldc2 {index : Nat} {v : Int64} (hd : decode b pc = .ok (.ldc2_w index, 3)) (hc : Cond.constantLong own index v ∈ tblG) (kk : X E d own b nL C (pc + 3) L (.long v :: st) M) : X E d own b nL C pc L st M := by
  obtain ⟨p, e, R, s, m, args, below, meth, c, cs, Q⟩ := C
  intro ok H locs ls hP hS hl
  exact lv_ldc2 ok.1 ok.2.1 ok.2.2.2.1 (ok.2.2.2.2.1 _ hc) hd (kk ok H locs ls hP hS hl)
theorem x_ldcw {index : Nat} {v : Int32} (hd : decode b pc = .ok (.ldc_w index, 3)) (hc : Cond.constant own index v ∈ tblG) (kk : X E d own b nL C (pc + 3) L (.int v :: st) M) : X E d own b nL C pc L st M := by
  obtain ⟨p, e, R, s, m, args, below, meth, c, cs, Q⟩ := C
  intro ok H locs ls hP hS hl
  exact lv_ldcw ok.1 ok.2.1 ok.2.2.2.1 (ok.2.2.2.2.1 _ hc) hd (kk ok H locs ls hP hS hl)
theorem x_istore {i : Nat} {v : Int32} (hd : decode b pc = .ok (.istore i, 2)) (hn : nlAt L i = true) (hb : i < nL) (kk : X E d own b nL C (pc + 2) (L.set i (some (.int v))) st M) : X E d own b nL C pc L (.int v :: st) M := by
  obtain ⟨p, e, R, s, m, args, below, meth, c, cs, Q⟩ := C
  intro ok H locs ls hP hS hl
  exact lv_istore ok.1 ok.2.1 hd hl.has hb rfl (fun ls' hl' => kk ok H locs ls' hP hS (lvH.of hl' (st_mem hn)))
theorem x_istore_n {k : Fin 4} {i : Nat} {v : Int32} (hd : decode b pc = .ok (.istore_n k, 1)) (hi : (k : Nat) = i) (hn : nlAt L i = true) (hb : i < nL) (kk : X E d own b nL C (pc + 1) (L.set i (some (.int v))) st M) : X E d own b nL C pc L (.int v :: st) M := by
  obtain ⟨p, e, R, s, m, args, below, meth, c, cs, Q⟩ := C
  intro ok H locs ls hP hS hl
  exact lv_istore_n ok.1 ok.2.1 hd hi hl.has hb rfl (fun ls' hl' => kk ok H locs ls' hP hS (lvH.of hl' (st_mem hn)))
theorem x_astore {i : Nat} {v : Nat} (hd : decode b pc = .ok (.astore i, 2)) (hn : nlAt L i = true) (hb : i < nL) (kk : X E d own b nL C (pc + 2) (L.set i (some (.ref v))) st M) : X E d own b nL C pc L (.ref v :: st) M := by
  obtain ⟨p, e, R, s, m, args, below, meth, c, cs, Q⟩ := C
  intro ok H locs ls hP hS hl
  exact lv_astore ok.1 ok.2.1 hd hl.has hb rfl (fun ls' hl' => kk ok H locs ls' hP hS (lvH.of hl' (st_mem hn)))
theorem x_astore_n {k : Fin 4} {i : Nat} {v : Nat} (hd : decode b pc = .ok (.astore_n k, 1)) (hi : (k : Nat) = i) (hn : nlAt L i = true) (hb : i < nL) (kk : X E d own b nL C (pc + 1) (L.set i (some (.ref v))) st M) : X E d own b nL C pc L (.ref v :: st) M := by
  obtain ⟨p, e, R, s, m, args, below, meth, c, cs, Q⟩ := C
  intro ok H locs ls hP hS hl
  exact lv_astore_n ok.1 ok.2.1 hd hi hl.has hb rfl (fun ls' hl' => kk ok H locs ls' hP hS (lvH.of hl' (st_mem hn)))
theorem x_lstore {i : Nat} {v : Int64} (hd : decode b pc = .ok (.lstore i, 2)) (hn : nlAt L i = true) (hb : i + 1 < nL) (kk : X E d own b nL C (pc + 2) ((L.set i (some (.long v))).set (i + 1) none) st M) : X E d own b nL C pc L (.long v :: st) M := by
  obtain ⟨p, e, R, s, m, args, below, meth, c, cs, Q⟩ := C
  intro ok H locs ls hP hS hl
  exact lv_lstore ok.1 ok.2.1 hd hl.has hb rfl (fun ls' hl' => kk ok H locs ls' hP hS (lvH.of hl' (st_mem2 hn)))
theorem x_lstore_n {k : Fin 4} {i : Nat} {v : Int64} (hd : decode b pc = .ok (.lstore_n k, 1)) (hi : (k : Nat) = i) (hn : nlAt L i = true) (hb : i + 1 < nL) (kk : X E d own b nL C (pc + 1) ((L.set i (some (.long v))).set (i + 1) none) st M) : X E d own b nL C pc L (.long v :: st) M := by
  obtain ⟨p, e, R, s, m, args, below, meth, c, cs, Q⟩ := C
  intro ok H locs ls hP hS hl
  exact lv_lstore_n ok.1 ok.2.1 hd hi hl.has hb rfl (fun ls' hl' => kk ok H locs ls' hP hS (lvH.of hl' (st_mem2 hn)))
theorem x_iinc {i : Nat} {n : Int} {x w : Int32} (hd : decode b pc = .ok (.iinc i n, 3)) (hv : L[i]? = some (some (.int x))) (hw : Int32.ofInt n = w) (hn : nlAt L i = true) (hb : i < nL) (kk : X E d own b nL C (pc + 3) (L.set i (some (.int (x + w)))) st M) : X E d own b nL C pc L st M := by
  obtain ⟨p, e, R, s, m, args, below, meth, c, cs, Q⟩ := C
  intro ok H locs ls hP hS hl
  subst hw
  obtain ⟨k, hk⟩ := List.getElem?_of_mem (mem_al.mpr ⟨Nat.zero_le i, by simpa using hv⟩ : (i, Value.int x) ∈ al 0 L)
  exact lv_iinc ok.1 ok.2.1 hd hl.has hk rfl hb rfl (fun ls' hl' => kk ok H locs ls' hP hS (lvH.of hl' (st_mem hn)))
/-- a field of an object of ours, by the pool of the class that names it -/
def FL (own : String) (idx ci k : Nat) : Prop := ∃ (Cn : String) (T : u_T) (N : Nat), vwCl[ci]? = some (Cn, T, N) ∧ k < N ∧ (∀ w ∈ u_ws Cn T N, w ∈ tblG) ∧ (Cond.fieldLink own idx (T k).1 (T k).2.1 (T k).2.2.1 ∈ tblG ∨ ∃ host, Cond.fieldLinkNest own idx (T k).1 (T k).2.1 (T k).2.2.1 host ∈ nestW)
/-- .. that isn't final, of a type -/
def FP (own : String) (idx ci k : Nat) (ty : FieldType) : Prop := ∃ (Cn : String) (T : u_T) (N : Nat), vwCl[ci]? = some (Cn, T, N) ∧ k < N ∧ (∀ w ∈ u_ws Cn T N, w ∈ tblG) ∧ (Cond.fieldLink own idx (T k).1 (T k).2.1 (T k).2.2.1 ∈ tblG ∨ ∃ host, Cond.fieldLinkNest own idx (T k).1 (T k).2.1 (T k).2.2.1 host ∈ nestW) ∧ (∃ ty0 : Nat → FieldType, ∀ j, j < N → parseFieldDescriptor (T j).2.2.1 = some (ty0 j)) ∧ (∀ a, a < N → ∀ b, b < N → a ≠ b → (T a).2.1 ≠ (T b).2.1) ∧ (T k).2.2.2 = false ∧ parseFieldDescriptor (T k).2.2.1 = some ty
theorem x_get {idx ci k c : Nat} {fl : List (Nat ⊕ Bool)} {q : Nat ⊕ Bool} (hd : decode b pc = .ok (.getfield idx, 3)) (hf : FL own idx ci k) (hl0 : lay c = .inr (ci, fl)) (hk : fl[k]? = some q) (hc : c < cK) (kk : X E d own b nL C (pc + 3) L (fv E M c k q :: st) M) : X E d own b nL C pc L (.ref (ad E c) :: st) M := by
  obtain ⟨p, e, R, s, m, args, below, meth, cc, cs, Q⟩ := C
  intro ok H locs ls hP hS hl
  obtain ⟨Cn, T, N, h1, h2, h3, h4⟩ := hf
  have he : (ws E M)[c]? = some (ad E c, .inr (ci, fvs E M c 0 fl)) := by rw [ws_at hc, ce_o hl0]
  have hv := fvs_at (E := E) (M := M) (c := c) fl 0 k hk
  rw [Nat.zero_add] at hv
  obtain ⟨o1, o2, o3, o4, o5, o6, o7, o8⟩ := id ok
  rcases h4 with h4 | ⟨host, h4⟩
  · exact va_get o1 o2 o5 h3 o4 o7.1 hP c he h1 k h2 (o5 _ h4) (fun _ h9 => h9) hv hd (kk ok H locs ls hP hS hl)
  · exact va_getN o1 o2 o5 h3 o4 o7.1 hP c he h1 k h2 (va_Nw.use rfl (o7.2.1 _ h4)) (fun _ h9 => h9) hv hd (kk ok H locs ls hP hS hl)
theorem x_put {idx ci k c : Nat} {fl : List (Nat ⊕ Bool)} {ty : FieldType} {v : Int32} (hd : decode b pc = .ok (.putfield idx, 3)) (hf : FP own idx ci k ty) (hl0 : lay c = .inr (ci, fl)) (hk : fl[k]? = some (.inr false)) (hc : c < cK) (hn : narrow ty (.int v) = .int v) (hfit : fits ty (.int v) = true) (kk : X E d own b nL C (pc + 3) L st (sa M c (upd (M.1 c) k v))) : X E d own b nL C pc L (.int v :: .ref (ad E c) :: st) M := by
  obtain ⟨p, e, R, s, m, args, below, meth, cc, cs, Q⟩ := C
  intro ok H locs ls hP hS hl
  obtain ⟨Cn, T, N, h1, h2, h3, h4, ⟨ty0, h5⟩, h6, h7, h8⟩ := hf
  have he : (ws E M)[c]? = some (ad E c, .inr (ci, fvs E M c 0 fl)) := by rw [ws_at hc, ce_o hl0]
  have hlen : k < (fvs E M c 0 fl).length := by rw [fvs_len]; exact (List.getElem?_eq_some_iff.mp hk).1
  have hset : (ws E M).set c (ad E c, .inr (ci, (fvs E M c 0 fl).set k (.int v))) = ws E (sa M c (upd (M.1 c) k v)) := by
    rw [fvs_put fl 0 k hk, Nat.zero_add, ← ws_sa, ce_o hl0]
  obtain ⟨o1, o2, o3, o4, o5, o6, o7, o8⟩ := id ok
  rcases h4 with h4 | ⟨host, h4⟩
  · exact va_put o1 o2 o5 h3 ty0 h5 h6 o4 o7.1 hP (o6.D M) hS c he h1 k h2 (o5 _ h4) (fun _ h9 => h9) h7 h8 hn hfit hlen hd (fun H1 locs1 hP1 hD1 hS1 => kk ok H1 locs1 ls (by rw [← hset]; exact hP1) hS1 hl)
  · exact va_putN o1 o2 o5 h3 ty0 h5 h6 o4 o7.1 hP (o6.D M) hS c he h1 k h2 (va_Nw.use rfl (o7.2.1 _ h4)) (fun _ h9 => h9) h7 h8 hn hfit hlen hd (fun H1 locs1 hP1 hD1 hS1 => kk ok H1 locs1 ls (by rw [← hset]; exact hP1) hS1 hl)
theorem x_putl {idx ci k c : Nat} {fl : List (Nat ⊕ Bool)} {v : Int64} (hd : decode b pc = .ok (.putfield idx, 3)) (hf : FP own idx ci k .long) (hl0 : lay c = .inr (ci, fl)) (hk : fl[k]? = some (Sum.inr true)) (h1k : ∀ j : Nat, fl[j]? = some (Sum.inr true) → j = k) (hc : c < cK) (kk : X E d own b nL C (pc + 3) L st (sl M c v)) : X E d own b nL C pc L (.long v :: .ref (ad E c) :: st) M := by
  obtain ⟨p, e, R, s, m, args, below, meth, cc, cs, Q⟩ := C
  intro ok H locs ls hP hS hl
  obtain ⟨Cn, T, N, h1, h2, h3, h4, ⟨ty0, h5⟩, h6, h7, h8⟩ := hf
  have he : (ws E M)[c]? = some (ad E c, .inr (ci, fvs E M c 0 fl)) := by rw [ws_at hc, ce_o hl0]
  have hlen : k < (fvs E M c 0 fl).length := by rw [fvs_len]; exact (List.getElem?_eq_some_iff.mp hk).1
  have hset : (ws E M).set c (ad E c, .inr (ci, (fvs E M c 0 fl).set k (.long v))) = ws E (sl M c v) := by
    rw [fvs_putl fl 0 k hk h1k, ← ws_sl, ce_o hl0]
  obtain ⟨o1, o2, o3, o4, o5, o6, o7, o8⟩ := id ok
  rcases h4 with h4 | ⟨host, h4⟩
  · exact va_put o1 o2 o5 h3 ty0 h5 h6 o4 o7.1 hP (o6.D M) hS c he h1 k h2 (o5 _ h4) (fun _ h9 => h9) h7 h8 rfl rfl hlen hd (fun H1 locs1 hP1 hD1 hS1 => kk ok H1 locs1 ls (by rw [← hset]; exact hP1) hS1 hl)
  · exact va_putN o1 o2 o5 h3 ty0 h5 h6 o4 o7.1 hP (o6.D M) hS c he h1 k h2 (va_Nw.use rfl (o7.2.1 _ h4)) (fun _ h9 => h9) h7 h8 rfl rfl hlen hd (fun H1 locs1 hP1 hD1 hS1 => kk ok H1 locs1 ls (by rw [← hset]; exact hP1) hS1 hl)
-- arrays
theorem x_iald {c n : Nat} {i : Int32} (hd : decode b pc = .ok (.iaload, 1)) (hl0 : lay c = .inl (0, n)) (hc : c < cK) (hin : vp_in i n) (kk : X E d own b nL C (pc + 1) L (.int (M.1 c i.toNatClampNeg) :: st) M) : X E d own b nL C pc L (.int i :: .ref (ad E c) :: st) M := by
  obtain ⟨p, e, R, s, m, args, below, meth, cc, cs, Q⟩ := C
  intro ok H locs ls hP hS hl
  have he : (ws E M)[c]? = some (ad E c, .inl (cI E, n, .inl (M.1 c))) := by rw [ws_at hc, ce_i hl0]
  obtain ⟨o1, o2, o3, o4, o5, o6, o7, o8⟩ := id ok
  exact va_iald o1 o2 o7.1 hP c 0 he rfl hin hd (kk ok H locs ls hP hS hl)
theorem x_iast {c n : Nat} {i x : Int32} (hd : decode b pc = .ok (.iastore, 1)) (hl0 : lay c = .inl (0, n)) (hc : c < cK) (hin : vp_in i n) (kk : X E d own b nL C (pc + 1) L st (sa M c (upd (M.1 c) i.toNatClampNeg x))) : X E d own b nL C pc L (.int x :: .int i :: .ref (ad E c) :: st) M := by
  obtain ⟨p, e, R, s, m, args, below, meth, cc, cs, Q⟩ := C
  intro ok H locs ls hP hS hl
  have he : (ws E M)[c]? = some (ad E c, .inl (cI E, n, .inl (M.1 c))) := by rw [ws_at hc, ce_i hl0]
  have hset : (ws E M).set c (ad E c, .inl (cI E, n, .inl (upd (M.1 c) i.toNatClampNeg x))) = ws E (sa M c (upd (M.1 c) i.toNatClampNeg x)) := by
    rw [← ws_sa, ce_i hl0, sa_1]
  obtain ⟨o1, o2, o3, o4, o5, o6, o7, o8⟩ := id ok
  exact va_iast o1 o2 o7.1 hP (o6.D M) hS c 0 he rfl hin hd (fun H1 locs1 hP1 hD1 hS1 => kk ok H1 locs1 ls (by rw [← hset]; exact hP1) hS1 hl)
theorem x_zald {c n : Nat} {i : Int32} (hd : decode b pc = .ok (.baload, 1)) (hl0 : lay c = .inl (1, n)) (hc : c < cK) (hin : vp_in i n) (kk : X E d own b nL C (pc + 1) L (.int (M.1 c i.toNatClampNeg) :: st) M) : X E d own b nL C pc L (.int i :: .ref (ad E c) :: st) M := by
  obtain ⟨p, e, R, s, m, args, below, meth, cc, cs, Q⟩ := C
  intro ok H locs ls hP hS hl
  have he : (ws E M)[c]? = some (ad E c, .inl (cZ E, n, .inl (M.1 c))) := by rw [ws_at hc, ce_z hl0]
  obtain ⟨o1, o2, o3, o4, o5, o6, o7, o8⟩ := id ok
  exact va_zald o1 o2 o7.1 hP c 1 he rfl hin hd (kk ok H locs ls hP hS hl)
theorem x_zast {c n : Nat} {i x : Int32} (hd : decode b pc = .ok (.bastore, 1)) (hl0 : lay c = .inl (1, n)) (hc : c < cK) (hin : vp_in i n) (hx : vp_nar .boolean x = x) (kk : X E d own b nL C (pc + 1) L st (sa M c (upd (M.1 c) i.toNatClampNeg x))) : X E d own b nL C pc L (.int x :: .int i :: .ref (ad E c) :: st) M := by
  obtain ⟨p, e, R, s, m, args, below, meth, cc, cs, Q⟩ := C
  intro ok H locs ls hP hS hl
  have he : (ws E M)[c]? = some (ad E c, .inl (cZ E, n, .inl (M.1 c))) := by rw [ws_at hc, ce_z hl0]
  have hset : (ws E M).set c (ad E c, .inl (cZ E, n, .inl (upd (M.1 c) i.toNatClampNeg (vp_nar .boolean x)))) = ws E (sa M c (upd (M.1 c) i.toNatClampNeg x)) := by
    rw [hx, ← ws_sa, ce_z hl0, sa_1]
  obtain ⟨o1, o2, o3, o4, o5, o6, o7, o8⟩ := id ok
  exact va_zast o1 o2 o7.1 hP (o6.D M) hS c 1 he rfl hin hd (fun H1 locs1 hP1 hD1 hS1 => kk ok H1 locs1 ls (by rw [← hset]; exact hP1) hS1 hl)
theorem x_aald {i : Int32} (hd : decode b pc = .ok (.aaload, 1)) (hin : vp_in i 2) (kk : X E d own b nL C (pc + 1) L (.ref (ad E (20 + 3 * i.toNatClampNeg)) :: st) M) : X E d own b nL C pc L (.int i :: .ref (ad E 19) :: st) M := by
  obtain ⟨p, e, R, s, m, args, below, meth, cc, cs, Q⟩ := C
  intro ok H locs ls hP hS hl
  have he : (ws E M)[19]? = some (ad E 19, .inl (cT E, 2, .inr (.inr (.inr (.inr (fun i => some (ad E (20 + 3 * i)))))))) := by rw [ws_at (by decide)]; rfl
  obtain ⟨o1, o2, o3, o4, o5, o6, o7, o8⟩ := id ok
  exact va_aldq o1 o2 o7.1 hP 19 2 he rfl hin hd (kk ok H locs ls hP hS hl)
theorem x_alen {c n : Nat} {v : Int32} (hd : decode b pc = .ok (.arraylength, 1)) (hl0 : lay c = .inl (0, n)) (hc : c < cK) (hv : Int32.ofNat n = v) (kk : X E d own b nL C (pc + 1) L (.int v :: st) M) : X E d own b nL C pc L (.ref (ad E c) :: st) M := by
  obtain ⟨p, e, R, s, m, args, below, meth, cc, cs, Q⟩ := C
  intro ok H locs ls hP hS hl
  have he : (ws E M)[c]? = some (ad E c, .inl (cI E, n, .inl (M.1 c))) := by rw [ws_at hc, ce_i hl0]
  obtain ⟨o1, o2, o3, o4, o5, o6, o7, o8⟩ := id ok
  exact va_alen o1 o2 o7.1 hP c 0 he rfl hv hd (kk ok H locs ls hP hS hl)
theorem x_fac {index : Nat} (hd : decode b pc = .ok (.getstatic index, 3)) (hlk : Cond.fieldLink own index "WireFamily" "FACTORIAL" "[I" ∈ tblG) (kk : X E d own b nL C (pc + 3) L (.ref (fa E) :: st) M) : X E d own b nL C pc L st M := by
  obtain ⟨p, e, R, s, m, args, below, meth, cc, cs, Q⟩ := C
  intro ok H locs ls hP hS hl
  obtain ⟨o1, o2, o3, o4, o5, o6, o7, o8⟩ := id ok
  exact va_gets o1 o2 o7.2.2.1 hS o4 (o5 _ hlk) (fun _ h => h) hd (kk ok H locs ls hP hS hl)
theorem x_facld {i v : Int32} (hd : decode b pc = .ok (.iaload, 1)) (hin : vp_in i 6) (hv : facF i.toNatClampNeg = .int v) (kk : X E d own b nL C (pc + 1) L (.int v :: st) M) : X E d own b nL C pc L (.int i :: .ref (fa E) :: st) M := by
  obtain ⟨p, e, R, s, m, args, below, meth, cc, cs, Q⟩ := C
  intro ok H locs ls hP hS hl
  obtain ⟨o1, o2, o3, o4, o5, o6, o7, o8⟩ := id ok
  exact va_ti o1 o2 o7.2.2.2 hS hin hv hd (kk ok H locs ls hP hS hl)
theorem x_copy {index c0 c1 n0 n1 : Nat} {sp dp n : Int32} (hd : decode b pc = .ok (.invokestatic index, 3)) (hlk : Cond.methodLink own index arraycopyName ∈ tblG) (hd1 : 1 ≤ d) (hnL : nL = L.length) (h0 : lay c0 = .inl (0, n0)) (h1 : lay c1 = .inl (0, n1)) (hc0 : c0 < cK) (hc1 : c1 < cK)
    (g1 : ¬ sp < 0) (g2 : ¬ dp < 0) (g3 : ¬ n < 0) (g4 : sp.toNatClampNeg + n.toNatClampNeg ≤ n0) (g5 : dp.toNatClampNeg + n.toNatClampNeg ≤ n1) (hw : (st.map fun v => v.category).sum ≤ 8)
    (kk : X E d own b nL C (pc + 3) L st (sa M c1 (va_cpy (M.1 c0) (M.1 c1) sp.toNatClampNeg dp.toNatClampNeg n.toNatClampNeg))) : X E d own b nL C pc L (.int n :: .int dp :: .ref (ad E c1) :: .int sp :: .ref (ad E c0) :: st) M := by
  obtain ⟨p, e, R, s, m, args, below, meth, cc, cs, Q⟩ := C
  intro ok H locs ls hP hS hl
  have he0 : (ws E M)[c0]? = some (ad E c0, .inl (cI E, n0, .inl (M.1 c0))) := by rw [ws_at hc0, ce_i h0]
  have he1 : (ws E M)[c1]? = some (ad E c1, .inl (cI E, n1, .inl (M.1 c1))) := by rw [ws_at hc1, ce_i h1]
  obtain ⟨o1, o2, o3, o4, o5, o6, o7, o8, o9, o10⟩ := id ok
  have hset : (ws E M).set c1 (ad E c1, .inl (cI E, n1, .inl (va_cpy (M.1 c0) (M.1 c1) sp.toNatClampNeg dp.toNatClampNeg n.toNatClampNeg))) = ws E (sa M c1 (va_cpy (M.1 c0) (M.1 c1) sp.toNatClampNeg dp.toNatClampNeg n.toNatClampNeg)) := by
    rw [← ws_sa, ce_i h1, sa_1]
  refine va_copyi o1 o2 (o3.trans hl.1.symm) o4 (o5 _ hlk) (o5 _ (by decide +kernel)) (o5 _ (by decide +kernel)) (o5 _ (by decide +kernel)) o7.1 hP (o6.D M) hS c0 c1 0 0 he0 he1 rfl rfl rfl g1 g2 g3 g4 g5 (fun _ _ => rfl) (by omega) ?_ hd (fun H1 locs1 hP1 hD1 hS1 => kk ok H1 locs1 ls (by rw [← hset]; exact hP1) hS1 hl)
  have hz : nativeFrameWords "java/lang/System" "arraycopy" 5 ≤ 16 := by decide +kernel
  omega
-- calls
/-- a callee: its words are in the tables -/
def MOk (m : MI) (n : Nat) : Prop := Cond.code m.1 m.2.1 m.2.2.1 m.2.2.2 ∈ tblG ∧ Cond.initialized m.1.cls ∈ tblG ∧ (m.1.cls ≠ "java/lang/invoke/MethodHandle" ∧ m.1.cls ≠ "java/lang/invoke/VarHandle") ∧ (parseMethodDescriptor m.1.desc).map (fun d => d.parameters.length) = some n ∧ m.2.2.1 ≤ 16
def MV (m : MI) (n ci : Nat) : Prop := MOk m n ∧ Cond.instanceMethod m.1 ∈ tblG ∧ Cond.selects m.1.cls m.1 m.1 ∈ tblG ∧ ∃ (T : u_T) (N : Nat), vwCl[ci]? = some (m.1.cls, T, N)
def MS (m : MI) (n : Nat) : Prop := MOk m n ∧ Cond.static m.1 ∈ tblG
theorem goodIn_M {m : MI} (h : Cond.code m.1 m.2.1 m.2.2.1 m.2.2.2 ∈ tblG) : GoodIn tblG (wsM m) := by
  intro w hw
  rcases List.mem_cons.mp hw with rfl | hw
  · exact ⟨h, tblG_good _ h⟩
  · exact ⟨hw, tblG_good _ hw⟩
theorem Wd.blind {E : Ev} {M : PM} {al : List Value} : FrameBlind (va_Pc al (fun U => Wd E M U)) := by
  rintro a U g mk ⟨h1, h2, h3, h4⟩
  exact ⟨h1, h2, h3.blind rfl rfl, h4⟩
theorem x_run {p : Program} {e : Env} {R : Room} {s : State} {m : MethodId} {args : Array Value} {below : List Frame} {meth : Method} {c : Code} {cs : Nat × Nat} {Q : State → Prop} {H : Heap} {locs : List Loc} {ls : Array Slot} {st0 rest : List Value} {P : Option Value → PM → Prop} (ok : Ok E d own b nL (p, e, R, s, m, args, below, meth, c, cs, Q)) (hS : va_S (wA E) s.heap H locs) (hl : lvH ls nL L)
    (hr : va_Run p E.1 e R s m args below meth c H locs cs.1 cs.2 0 0 (F0 m pc ls st0) rest (fun (st : State) (o : Outcome) (t : State) => (∃ (r : Option Value) (N : PM), o = .returned r ∧ P r N ∧ va_P (eD E) vwCl (ws E N) t.heap) ∧ va_F (wA E) st t) (wA E))
    (kk : ∀ r N, P r N → X E d own b nL (p, e, R, s, m, args, below, meth, c, cs, Q) (pc + 3) L (r.toList ++ rest) N) : W p E.1 e R s m args below meth c H locs cs.1 cs.2 Q (F0 m pc ls st0) := by
  intro T hT Xs
  obtain ⟨v, st₀, t, T', Lc, h0, X', hL, e1, e2, ⟨⟨r, N, hv, hp, hPn⟩, hz, hk⟩, stp⟩ := hr T hT Xs
  cases hv
  rw [h0] at hz hk
  have hS' : va_S (wA E) s.heap T'.heap (locs ++ Lc) := by
    refine ⟨Nat.le_trans hS.1 (by rw [e1]; exact hz), fun q h1 h2 => ?_, fun q hq => ?_⟩
    · rw [e1, hk q (Nat.lt_of_lt_of_le h1 hS.1) h2]; exact hS.2.1 q h1 h2
    · rcases List.mem_append.mp hq with h | h
      · exact hS.2.2 q h
      · exact hL q h
  obtain ⟨t2, a1, b1⟩ := kk v N hp ok T'.heap (locs ++ Lc) ls (by rw [e1]; exact hPn) hS' hl T' rfl X'
  exact ⟨t2, stp t2 a1, b1⟩
theorem x_callV {d' idx ci n c : Nat} {mi : MI} {fl : List (Nat ⊕ Bool)} {As rest st0 : List Value} {P : Option Value → PM → Prop} (hd : decode b pc = .ok (.invokevirtual idx, 3)) (hm : MV mi n ci) (hlk : Cond.methodLink own idx mi.1 ∈ tblG) (hl0 : lay c = .inr (ci, fl)) (hc : c < cK) (hct : Ct E d' mi (.ref (ad E c) :: As) M P) (hdd : d' + 1 ≤ d) (hn : As.length = n) (hst : st0 = As.reverse ++ .ref (ad E c) :: rest) (hw : (rest.map fun v => v.category).sum ≤ 8)
    (kk : ∀ r N, P r N → X E d own b nL C (pc + 3) L (r.toList ++ rest) N) : X E d own b nL C pc L st0 M := by
  obtain ⟨p, e, R, s, m, args, below, meth, cc, cs, Q⟩ := C
  intro ok H locs ls hP hS hl
  obtain ⟨⟨h1, h2, h3, h4, h5⟩, h6, h7, T, N, h8⟩ := hm
  obtain ⟨o1, o2, o3, o4, o5, o6, o7, o8, o9, o10, o11⟩ := id ok
  have he : (ws E M)[c]? = some (ad E c, .inr (ci, fvs E M c 0 fl)) := by rw [ws_at hc, ce_o hl0]
  have hgood : GoodIn tblG (wsV own idx mi.1.cls mi.1 (wsM mi)) := by
    intro w hw
    rcases List.mem_append.mp hw with hw | hw
    · have hw' : w ∈ tblG := by
        simp at hw
        rcases hw with rfl | rfl | rfl | rfl <;> assumption
      exact ⟨hw', tblG_good _ hw'⟩
    · exact goodIn_M h1 w hw
  have cw : CallW R s args own mi.1.cls idx mi.1 mi.2.1 mi.2.2.1 mi.2.2.2 (wsM mi) (rmD d') 0 0 n := cwV n o5 hgood rfl rfl rfl ⟨rfl, h3.1, h3.2, h4⟩ ⟨by show d' + 1 ≤ _; omega, by show 8 + (_ + 11) + 35 * d' ≤ _; omega⟩
  refine x_run ok hS hl (va_runV (As := As) (rest := rest) ⟨o1, o2, o3, o4, o5⟩ hct cw ⟨Wd.blind, va_recv o7.1 hP h8 he, fun U hU hW => ⟨rfl, o6, o7.to hW (fun a h1 h2 => by rw [hU]; exact hS.2.1 a h1 h2), by rw [hU]; exact hP⟩⟩ rfl hn hl.1 hst (lv_room hw) hd ⟨by omega, by omega⟩) kk
theorem x_callS {d' idx n : Nat} {mi : MI} {As rest st0 : List Value} {P : Option Value → PM → Prop} (hd : decode b pc = .ok (.invokestatic idx, 3)) (hm : MS mi n) (hlk : Cond.methodLink own idx mi.1 ∈ tblG ∨ ∃ host, Cond.methodLinkNest own idx mi.1 host ∈ nestW) (hct : Ct E d' mi As M P) (hdd : d' + 1 ≤ d) (hn : As.length = n) (hst : st0 = As.reverse ++ rest) (hw : (rest.map fun v => v.category).sum ≤ 8)
    (kk : ∀ r N, P r N → X E d own b nL C (pc + 3) L (r.toList ++ rest) N) : X E d own b nL C pc L st0 M := by
  obtain ⟨p, e, R, s, m, args, below, meth, cc, cs, Q⟩ := C
  intro ok H locs ls hP hS hl
  obtain ⟨⟨h1, h2, h3, h4, h5⟩, h6⟩ := hm
  obtain ⟨o1, o2, o3, o4, o5, o6, o7, o8, o9, o10, o11⟩ := id ok
  have hR : (rmD d').frames + 1 ≤ R.frames ∧ 8 + (mi.2.2.1 + 11) + (rmD d').locals ≤ R.locals := ⟨by show d' + 1 ≤ _; omega, by show 8 + (_ + 11) + 35 * d' ≤ _; omega⟩
  have hpre : PreS s H (va_Pc As (fun U => Wd E M U)) As := ⟨Wd.blind, fun U hU hW => ⟨rfl, o6, o7.to hW (fun a h1 h2 => by rw [hU]; exact hS.2.1 a h1 h2), by rw [hU]; exact hP⟩⟩
  rcases hlk with hlk | ⟨host, hlk⟩
  · have cb : CallB R s args own idx mi.1 mi.2.1 mi.2.2.1 mi.2.2.2 (wsM mi) (rmD d') 0 0 n := callB_of n o5 (goodIn_M h1) rfl rfl rfl (o5 _ h2) (o5 _ hlk) ⟨h3.1, h3.2, h4⟩ hR
    exact x_run ok hS hl (va_runS (As := As) (rest := rest) ⟨o1, o2, o3, o4, o5⟩ hct ⟨cb, o5 _ h6⟩ hpre rfl hn hl.1 hst (lv_room hw) hd ⟨by omega, by omega⟩) kk
  · have cb : va_CN R s args own idx mi.1 host mi.2.1 mi.2.2.1 mi.2.2.2 (wsM mi) (rmD d') 0 0 n := va_cnB n o5 (goodIn_M h1) rfl rfl rfl (o7.2.1 _ hlk) (o5 _ h2) ⟨h3.1, h3.2, h4⟩ hR
    exact x_run ok hS hl (va_runSN (As := As) (rest := rest) ⟨o1, o2, o3, o4, o5⟩ hct ⟨cb, o5 _ h6, trivial⟩ hpre rfl hn hl.1 hst (lv_room hw) hd ⟨by omega, by omega⟩) kk
end XR
theorem x_callVi {E : Ev} {d : Nat} {own : String} {b : ByteArray} {nL : Nat} {C : Cx} {pc : Nat} {L : List (Option Value)} {M : PM} {d' idx ci n c : Nat} {mi : MI} {fl : List (Nat ⊕ Bool)} {As rest st0 : List Value} {P : Int32 → PM → Prop} (hd : decode b pc = .ok (.invokevirtual idx, 3)) (hm : MV mi n ci) (hlk : Cond.methodLink own idx mi.1 ∈ tblG) (hct : Ci E d' mi (.ref (ad E c) :: As) M P) (hl0 : lay c = .inr (ci, fl)) (hc : c < cK) (hdd : d' + 1 ≤ d) (hn : As.length = n) (hst : st0 = As.reverse ++ .ref (ad E c) :: rest) (hw : (rest.map fun v => v.category).sum ≤ 8)
    (kk : ∀ v N, P v N → X E d own b nL C (pc + 3) L (.int v :: rest) N) : X E d own b nL C pc L st0 M := x_callV hd hm hlk hl0 hc hct hdd hn hst hw (fun r N h => by obtain ⟨v, rfl, h⟩ := h; exact kk v N h)
theorem x_callVv {E : Ev} {d : Nat} {own : String} {b : ByteArray} {nL : Nat} {C : Cx} {pc : Nat} {L : List (Option Value)} {M : PM} {d' idx ci n c : Nat} {mi : MI} {fl : List (Nat ⊕ Bool)} {As rest st0 : List Value} {P : PM → Prop} (hd : decode b pc = .ok (.invokevirtual idx, 3)) (hm : MV mi n ci) (hlk : Cond.methodLink own idx mi.1 ∈ tblG) (hct : Cv E d' mi (.ref (ad E c) :: As) M P) (hl0 : lay c = .inr (ci, fl)) (hc : c < cK) (hdd : d' + 1 ≤ d) (hn : As.length = n) (hst : st0 = As.reverse ++ .ref (ad E c) :: rest) (hw : (rest.map fun v => v.category).sum ≤ 8)
    (kk : ∀ N, P N → X E d own b nL C (pc + 3) L rest N) : X E d own b nL C pc L st0 M := x_callV hd hm hlk hl0 hc hct hdd hn hst hw (fun r N h => by obtain ⟨rfl, h⟩ := h; exact kk N h)
theorem x_callVl {E : Ev} {d : Nat} {own : String} {b : ByteArray} {nL : Nat} {C : Cx} {pc : Nat} {L : List (Option Value)} {M : PM} {d' idx ci n c : Nat} {mi : MI} {fl : List (Nat ⊕ Bool)} {As rest st0 : List Value} {P : Int64 → PM → Prop} (hd : decode b pc = .ok (.invokevirtual idx, 3)) (hm : MV mi n ci) (hlk : Cond.methodLink own idx mi.1 ∈ tblG) (hct : Cl E d' mi (.ref (ad E c) :: As) M P) (hl0 : lay c = .inr (ci, fl)) (hc : c < cK) (hdd : d' + 1 ≤ d) (hn : As.length = n) (hst : st0 = As.reverse ++ .ref (ad E c) :: rest) (hw : (rest.map fun v => v.category).sum ≤ 8)
    (kk : ∀ v N, P v N → X E d own b nL C (pc + 3) L (.long v :: rest) N) : X E d own b nL C pc L st0 M := x_callV hd hm hlk hl0 hc hct hdd hn hst hw (fun r N h => by obtain ⟨v, rfl, h⟩ := h; exact kk v N h)
theorem x_callVr {E : Ev} {d : Nat} {own : String} {b : ByteArray} {nL : Nat} {C : Cx} {pc : Nat} {L : List (Option Value)} {M : PM} {d' idx ci n c : Nat} {mi : MI} {fl : List (Nat ⊕ Bool)} {As rest st0 : List Value} {P : Nat → PM → Prop} (hd : decode b pc = .ok (.invokevirtual idx, 3)) (hm : MV mi n ci) (hlk : Cond.methodLink own idx mi.1 ∈ tblG) (hct : Cr E d' mi (.ref (ad E c) :: As) M P) (hl0 : lay c = .inr (ci, fl)) (hc : c < cK) (hdd : d' + 1 ≤ d) (hn : As.length = n) (hst : st0 = As.reverse ++ .ref (ad E c) :: rest) (hw : (rest.map fun v => v.category).sum ≤ 8)
    (kk : ∀ v N, P v N → X E d own b nL C (pc + 3) L (.ref (ad E v) :: rest) N) : X E d own b nL C pc L st0 M := x_callV hd hm hlk hl0 hc hct hdd hn hst hw (fun r N h => by obtain ⟨v, rfl, h⟩ := h; exact kk v N h)
theorem x_callSi {E : Ev} {d : Nat} {own : String} {b : ByteArray} {nL : Nat} {C : Cx} {pc : Nat} {L : List (Option Value)} {M : PM} {d' idx n : Nat} {mi : MI} {As rest st0 : List Value} {P : Int32 → PM → Prop} (hd : decode b pc = .ok (.invokestatic idx, 3)) (hm : MS mi n) (hlk : Cond.methodLink own idx mi.1 ∈ tblG ∨ ∃ host, Cond.methodLinkNest own idx mi.1 host ∈ nestW) (hct : Ci E d' mi As M P) (hdd : d' + 1 ≤ d) (hn : As.length = n) (hst : st0 = As.reverse ++ rest) (hw : (rest.map fun v => v.category).sum ≤ 8)
    (kk : ∀ v N, P v N → X E d own b nL C (pc + 3) L (.int v :: rest) N) : X E d own b nL C pc L st0 M := x_callS hd hm hlk hct hdd hn hst hw (fun r N h => by obtain ⟨v, rfl, h⟩ := h; exact kk v N h)
theorem x_callSv {E : Ev} {d : Nat} {own : String} {b : ByteArray} {nL : Nat} {C : Cx} {pc : Nat} {L : List (Option Value)} {M : PM} {d' idx n : Nat} {mi : MI} {As rest st0 : List Value} {P : PM → Prop} (hd : decode b pc = .ok (.invokestatic idx, 3)) (hm : MS mi n) (hlk : Cond.methodLink own idx mi.1 ∈ tblG ∨ ∃ host, Cond.methodLinkNest own idx mi.1 host ∈ nestW) (hct : Cv E d' mi As M P) (hdd : d' + 1 ≤ d) (hn : As.length = n) (hst : st0 = As.reverse ++ rest) (hw : (rest.map fun v => v.category).sum ≤ 8)
    (kk : ∀ N, P N → X E d own b nL C (pc + 3) L rest N) : X E d own b nL C pc L st0 M := x_callS hd hm hlk hct hdd hn hst hw (fun r N h => by obtain ⟨rfl, h⟩ := h; exact kk N h)
theorem x_callSl {E : Ev} {d : Nat} {own : String} {b : ByteArray} {nL : Nat} {C : Cx} {pc : Nat} {L : List (Option Value)} {M : PM} {d' idx n : Nat} {mi : MI} {As rest st0 : List Value} {P : Int64 → PM → Prop} (hd : decode b pc = .ok (.invokestatic idx, 3)) (hm : MS mi n) (hlk : Cond.methodLink own idx mi.1 ∈ tblG ∨ ∃ host, Cond.methodLinkNest own idx mi.1 host ∈ nestW) (hct : Cl E d' mi As M P) (hdd : d' + 1 ≤ d) (hn : As.length = n) (hst : st0 = As.reverse ++ rest) (hw : (rest.map fun v => v.category).sum ≤ 8)
    (kk : ∀ v N, P v N → X E d own b nL C (pc + 3) L (.long v :: rest) N) : X E d own b nL C pc L st0 M := x_callS hd hm hlk hct hdd hn hst hw (fun r N h => by obtain ⟨v, rfl, h⟩ := h; exact kk v N h)
theorem x_callSr {E : Ev} {d : Nat} {own : String} {b : ByteArray} {nL : Nat} {C : Cx} {pc : Nat} {L : List (Option Value)} {M : PM} {d' idx n : Nat} {mi : MI} {As rest st0 : List Value} {P : Nat → PM → Prop} (hd : decode b pc = .ok (.invokestatic idx, 3)) (hm : MS mi n) (hlk : Cond.methodLink own idx mi.1 ∈ tblG ∨ ∃ host, Cond.methodLinkNest own idx mi.1 host ∈ nestW) (hct : Cr E d' mi As M P) (hdd : d' + 1 ≤ d) (hn : As.length = n) (hst : st0 = As.reverse ++ rest) (hw : (rest.map fun v => v.category).sum ≤ 8)
    (kk : ∀ v N, P v N → X E d own b nL C (pc + 3) L (.ref (ad E v) :: rest) N) : X E d own b nL C pc L st0 M := x_callS hd hm hlk hct hdd hn hst hw (fun r N h => by obtain ⟨v, rfl, h⟩ := h; exact kk v N h)
theorem Ct.ofi {E : Ev} {d : Nat} {y : MethodName} {b : ByteArray} {nL : Nat} {args : List Value} {M : PM} {P : Int32 → PM → Prop} {own : String} (L0 : List (Option Value)) (ho : y.cls = own) (hy : plainName own = true) (hL : (lg_sl args).length ≤ nL) (hL0 : al 0 L0 = lv_args 0 args)
    (body : ∀ C : Cx, (∀ (pc : Nat) (L : List (Option Value)) (v : Int32) (N : PM), decode b pc = .ok (.ireturn, 1) → P v N → X E d own b nL C pc L [.int v] N) → X E d own b nL C 0 L0 [] M) : Ci E d (y, b, nL, some .int) args M P := by
  subst ho
  unfold Ci Ct
  refine Met.ofW (cc := b) (maxL := nL) (ret := some .int) hy rfl ?_
  intro p e s m args' below meth c s₁ B hml hv
  obtain ⟨rfl, hAp, hG, hP0⟩ := hv
  have hts := atoms_spec (ws := wsM (y, b, nL, some .int)) B.pre
  have hr := B.returns
  have hlocks := B.notSynchronized
  rw [lg_entry_eq]
  refine body (p, e, rmD d, s, m, args.toArray, below, meth, c, (0, 0), _) ?_ ⟨B.exec, B.bytes, hml, findClass_of_methodNamed B.named, fun w hw => hts w (List.mem_cons_of_mem _ hw), hAp, hG, Nat.le_refl _, Nat.le_refl _, Nat.le_refl _, Nat.le_refl _⟩ s.heap [] _ hP0 va_S.rf (lvH.of (lv_entry args hL) (fun i v hi => hL0 ▸ mem_al.mpr ⟨Nat.zero_le _, by simpa using hi⟩))
  intro pc L v N hd hp ok2 H locs ls hP hS hl
  exact W.iret ok2.1 ok2.2.1 hr (fun t ht hW => ⟨⟨_, N, rfl, ⟨v, rfl, hp⟩, by rw [ht]; exact hP⟩, hS.F ht⟩) hS.2.2 hd
theorem Ct.ofz {E : Ev} {d : Nat} {y : MethodName} {b : ByteArray} {nL : Nat} {args : List Value} {M : PM} {P : Int32 → PM → Prop} {own : String} (L0 : List (Option Value)) (ho : y.cls = own) (hy : plainName own = true) (hL : (lg_sl args).length ≤ nL) (hL0 : al 0 L0 = lv_args 0 args)
    (body : ∀ C : Cx, (∀ (pc : Nat) (L : List (Option Value)) (v : Int32) (N : PM), decode b pc = .ok (.ireturn, 1) → narrow .boolean (.int v) = .int v → P v N → X E d own b nL C pc L [.int v] N) → X E d own b nL C 0 L0 [] M) : Ci E d (y, b, nL, some .boolean) args M P := by
  subst ho
  unfold Ci Ct
  refine Met.ofW (cc := b) (maxL := nL) (ret := some .boolean) hy rfl ?_
  intro p e s m args' below meth c s₁ B hml hv
  obtain ⟨rfl, hAp, hG, hP0⟩ := hv
  have hts := atoms_spec (ws := wsM (y, b, nL, some .boolean)) B.pre
  have hr := B.returns
  have hlocks := B.notSynchronized
  rw [lg_entry_eq]
  refine body (p, e, rmD d, s, m, args.toArray, below, meth, c, (0, 0), _) ?_ ⟨B.exec, B.bytes, hml, findClass_of_methodNamed B.named, fun w hw => hts w (List.mem_cons_of_mem _ hw), hAp, hG, Nat.le_refl _, Nat.le_refl _, Nat.le_refl _, Nat.le_refl _⟩ s.heap [] _ hP0 va_S.rf (lvH.of (lv_entry args hL) (fun i v hi => hL0 ▸ mem_al.mpr ⟨Nat.zero_le _, by simpa using hi⟩))
  intro pc L v N hd hnar hp ok2 H locs ls hP hS hl
  exact W.zret ok2.1 ok2.2.1 hr hnar (fun t ht hW => ⟨⟨_, N, rfl, ⟨v, rfl, hp⟩, by rw [ht]; exact hP⟩, hS.F ht⟩) hS.2.2 hd
theorem Ct.ofv {E : Ev} {d : Nat} {y : MethodName} {b : ByteArray} {nL : Nat} {args : List Value} {M : PM} {P : PM → Prop} {own : String} (L0 : List (Option Value)) (ho : y.cls = own) (hy : plainName own = true) (hL : (lg_sl args).length ≤ nL) (hL0 : al 0 L0 = lv_args 0 args)
    (body : ∀ C : Cx, (∀ (pc : Nat) (L : List (Option Value)) (N : PM), decode b pc = .ok (.return_, 1) → P N → X E d own b nL C pc L [] N) → X E d own b nL C 0 L0 [] M) : Cv E d (y, b, nL, none) args M P := by
  subst ho
  unfold Cv Ct
  refine Met.ofW (cc := b) (maxL := nL) (ret := none) hy rfl ?_
  intro p e s m args' below meth c s₁ B hml hv
  obtain ⟨rfl, hAp, hG, hP0⟩ := hv
  have hts := atoms_spec (ws := wsM (y, b, nL, none)) B.pre
  have hr := B.returns
  have hlocks := B.notSynchronized
  rw [lg_entry_eq]
  refine body (p, e, rmD d, s, m, args.toArray, below, meth, c, (0, 0), _) ?_ ⟨B.exec, B.bytes, hml, findClass_of_methodNamed B.named, fun w hw => hts w (List.mem_cons_of_mem _ hw), hAp, hG, Nat.le_refl _, Nat.le_refl _, Nat.le_refl _, Nat.le_refl _⟩ s.heap [] _ hP0 va_S.rf (lvH.of (lv_entry args hL) (fun i v hi => hL0 ▸ mem_al.mpr ⟨Nat.zero_le _, by simpa using hi⟩))
  intro pc L N hd hp ok2 H locs ls hP hS hl
  exact W.vret ok2.1 ok2.2.1 hr (fun t ht hW => ⟨⟨_, N, rfl, ⟨rfl, hp⟩, by rw [ht]; exact hP⟩, hS.F ht⟩) hS.2.2 hd
theorem Ct.ofl {E : Ev} {d : Nat} {y : MethodName} {b : ByteArray} {nL : Nat} {args : List Value} {M : PM} {P : Int64 → PM → Prop} {own : String} (L0 : List (Option Value)) (ho : y.cls = own) (hy : plainName own = true) (hL : (lg_sl args).length ≤ nL) (hL0 : al 0 L0 = lv_args 0 args)
    (body : ∀ C : Cx, (∀ (pc : Nat) (L : List (Option Value)) (v : Int64) (N : PM), decode b pc = .ok (.lreturn, 1) → P v N → X E d own b nL C pc L [.long v] N) → X E d own b nL C 0 L0 [] M) : Cl E d (y, b, nL, some .long) args M P := by
  subst ho
  unfold Cl Ct
  refine Met.ofW (cc := b) (maxL := nL) (ret := some .long) hy rfl ?_
  intro p e s m args' below meth c s₁ B hml hv
  obtain ⟨rfl, hAp, hG, hP0⟩ := hv
  have hts := atoms_spec (ws := wsM (y, b, nL, some .long)) B.pre
  have hr := B.returns
  have hlocks := B.notSynchronized
  rw [lg_entry_eq]
  refine body (p, e, rmD d, s, m, args.toArray, below, meth, c, (0, 0), _) ?_ ⟨B.exec, B.bytes, hml, findClass_of_methodNamed B.named, fun w hw => hts w (List.mem_cons_of_mem _ hw), hAp, hG, Nat.le_refl _, Nat.le_refl _, Nat.le_refl _, Nat.le_refl _⟩ s.heap [] _ hP0 va_S.rf (lvH.of (lv_entry args hL) (fun i v hi => hL0 ▸ mem_al.mpr ⟨Nat.zero_le _, by simpa using hi⟩))
  intro pc L v N hd hp ok2 H locs ls hP hS hl
  exact W.lret ok2.1 ok2.2.1 hr (fun t ht hW => ⟨⟨_, N, rfl, ⟨v, rfl, hp⟩, by rw [ht]; exact hP⟩, hS.F ht⟩) hS.2.2 hd
theorem Ct.ofr {E : Ev} {d : Nat} {y : MethodName} {b : ByteArray} {nL : Nat} {rn : String} {args : List Value} {M : PM} {P : Nat → PM → Prop} {own : String} (L0 : List (Option Value)) (ho : y.cls = own) (hy : plainName own = true) (hL : (lg_sl args).length ≤ nL) (hL0 : al 0 L0 = lv_args 0 args)
    (body : ∀ C : Cx, (∀ (pc : Nat) (L : List (Option Value)) (v : Nat) (N : PM), decode b pc = .ok (.areturn, 1) → P v N → X E d own b nL C pc L [.ref (ad E v)] N) → X E d own b nL C 0 L0 [] M) : Cr E d (y, b, nL, some (.object rn)) args M P := by
  subst ho
  unfold Cr Ct
  refine Met.ofW (cc := b) (maxL := nL) (ret := some (.object rn)) hy rfl ?_
  intro p e s m args' below meth c s₁ B hml hv
  obtain ⟨rfl, hAp, hG, hP0⟩ := hv
  have hts := atoms_spec (ws := wsM (y, b, nL, some (.object rn))) B.pre
  have hr := B.returns
  have hlocks := B.notSynchronized
  rw [lg_entry_eq]
  refine body (p, e, rmD d, s, m, args.toArray, below, meth, c, (0, 0), _) ?_ ⟨B.exec, B.bytes, hml, findClass_of_methodNamed B.named, fun w hw => hts w (List.mem_cons_of_mem _ hw), hAp, hG, Nat.le_refl _, Nat.le_refl _, Nat.le_refl _, Nat.le_refl _⟩ s.heap [] _ hP0 va_S.rf (lvH.of (lv_entry args hL) (fun i v hi => hL0 ▸ mem_al.mpr ⟨Nat.zero_le _, by simpa using hi⟩))
  intro pc L v N hd hp ok2 H locs ls hP hS hl
  exact W.aret ok2.1 ok2.2.1 hr (Or.inl ⟨_, rfl⟩) (Or.inr ⟨_, rfl⟩) (fun t ht hW => ⟨⟨_, N, rfl, ⟨v, rfl, hp⟩, by rw [ht]; exact hP⟩, hS.F ht⟩) hS.2.2 hd
end
section
theorem in_X0 : ∀ w ∈ u_ws RX0 TX0 4, w ∈ tblG := by decide +kernel
theorem in_X1 : ∀ w ∈ u_ws RX1 TX1 9, w ∈ tblG := by decide +kernel
theorem in_X2 : ∀ w ∈ u_ws RX2 TX2 3, w ∈ tblG := by decide +kernel
theorem in_X3 : ∀ w ∈ u_ws RX3 TX3 3, w ∈ tblG := by decide +kernel
theorem in_X4 : ∀ w ∈ u_ws RX4 TX4 4, w ∈ tblG := by decide +kernel
theorem in_X5 : ∀ w ∈ u_ws RX5 TX5 3, w ∈ tblG := by decide +kernel
theorem in_X6 : ∀ w ∈ u_ws RX6 TX6 2, w ∈ tblG := by decide +kernel
theorem in_X7 : ∀ w ∈ u_ws RX7 TX7 3, w ∈ tblG := by decide +kernel
theorem in_X8 : ∀ w ∈ u_ws RX8 TX8 13, w ∈ tblG := by decide +kernel
theorem in_X9 : ∀ w ∈ u_ws RX9 TX9 35, w ∈ tblG := by decide +kernel
abbrev mX8_init : MI := (yX8_init, cX8_init, 2, none)
theorem moX8_init : MOk mX8_init 0 := ⟨List.mem_filter.mpr ⟨List.mem_of_getElem? (i := 60) (by decide +kernel), by decide +kernel⟩, List.mem_filter.mpr ⟨List.mem_of_getElem? (i := 42) (by decide +kernel), by decide +kernel⟩, ⟨by decide +kernel, by decide +kernel⟩, by decide +kernel, by decide⟩
abbrev mX6_init : MI := (yX6_init, cX6_init, 1, none)
theorem moX6_init : MOk mX6_init 0 := ⟨List.mem_filter.mpr ⟨List.mem_of_getElem? (i := 68) (by decide +kernel), by decide +kernel⟩, List.mem_filter.mpr ⟨List.mem_of_getElem? (i := 43) (by decide +kernel), by decide +kernel⟩, ⟨by decide +kernel, by decide +kernel⟩, by decide +kernel, by decide⟩
abbrev mX1_init : MI := (yX1_init, cX1_init, 1, none)
theorem moX1_init : MOk mX1_init 0 := ⟨List.mem_filter.mpr ⟨List.mem_of_getElem? (i := 83) (by decide +kernel), by decide +kernel⟩, List.mem_filter.mpr ⟨List.mem_of_getElem? (i := 44) (by decide +kernel), by decide +kernel⟩, ⟨by decide +kernel, by decide +kernel⟩, by decide +kernel, by decide⟩
abbrev mX4_init : MI := (yX4_init, cX4_init, 2, none)
theorem moX4_init : MOk mX4_init 1 := ⟨List.mem_filter.mpr ⟨List.mem_of_getElem? (i := 129) (by decide +kernel), by decide +kernel⟩, List.mem_filter.mpr ⟨List.mem_of_getElem? (i := 45) (by decide +kernel), by decide +kernel⟩, ⟨by decide +kernel, by decide +kernel⟩, by decide +kernel, by decide⟩
abbrev mX0_init : MI := (yX0_init, cX0_init, 1, none)
theorem moX0_init : MOk mX0_init 0 := ⟨List.mem_filter.mpr ⟨List.mem_of_getElem? (i := 153) (by decide +kernel), by decide +kernel⟩, List.mem_filter.mpr ⟨List.mem_of_getElem? (i := 46) (by decide +kernel), by decide +kernel⟩, ⟨by decide +kernel, by decide +kernel⟩, by decide +kernel, by decide⟩
abbrev mX5_init : MI := (yX5_init, cX5_init, 2, none)
theorem moX5_init : MOk mX5_init 1 := ⟨List.mem_filter.mpr ⟨List.mem_of_getElem? (i := 174) (by decide +kernel), by decide +kernel⟩, List.mem_filter.mpr ⟨List.mem_of_getElem? (i := 47) (by decide +kernel), by decide +kernel⟩, ⟨by decide +kernel, by decide +kernel⟩, by decide +kernel, by decide⟩
abbrev mX3_init : MI := (yX3_init, cX3_init, 1, none)
theorem moX3_init : MOk mX3_init 0 := ⟨List.mem_filter.mpr ⟨List.mem_of_getElem? (i := 190) (by decide +kernel), by decide +kernel⟩, List.mem_filter.mpr ⟨List.mem_of_getElem? (i := 48) (by decide +kernel), by decide +kernel⟩, ⟨by decide +kernel, by decide +kernel⟩, by decide +kernel, by decide⟩
abbrev mX7_init : MI := (yX7_init, cX7_init, 1, none)
theorem moX7_init : MOk mX7_init 0 := ⟨List.mem_filter.mpr ⟨List.mem_of_getElem? (i := 207) (by decide +kernel), by decide +kernel⟩, List.mem_filter.mpr ⟨List.mem_of_getElem? (i := 49) (by decide +kernel), by decide +kernel⟩, ⟨by decide +kernel, by decide +kernel⟩, by decide +kernel, by decide⟩
abbrev mX2_init : MI := (yX2_init, cX2_init, 1, none)
theorem moX2_init : MOk mX2_init 0 := ⟨List.mem_filter.mpr ⟨List.mem_of_getElem? (i := 225) (by decide +kernel), by decide +kernel⟩, List.mem_filter.mpr ⟨List.mem_of_getElem? (i := 50) (by decide +kernel), by decide +kernel⟩, ⟨by decide +kernel, by decide +kernel⟩, by decide +kernel, by decide⟩
abbrev mX8_write : MI := (yX8_write, cX8_write, 2, some (FieldType.int))
theorem moX8_write : MOk mX8_write 1 := ⟨List.mem_filter.mpr ⟨List.mem_of_getElem? (i := 283) (by decide +kernel), by decide +kernel⟩, List.mem_filter.mpr ⟨List.mem_of_getElem? (i := 42) (by decide +kernel), by decide +kernel⟩, ⟨by decide +kernel, by decide +kernel⟩, by decide +kernel, by decide⟩
theorem mvX8_write : MV mX8_write 1 8 := ⟨moX8_write, List.mem_filter.mpr ⟨List.mem_of_getElem? (i := 281) (by decide +kernel), by decide +kernel⟩, List.mem_filter.mpr ⟨List.mem_of_getElem? (i := 282) (by decide +kernel), by decide +kernel⟩, TX8, 13, rfl⟩
abbrev mX6_append : MI := (yX6_append, cX6_append, 2, some (FieldType.boolean))
theorem moX6_append : MOk mX6_append 1 := ⟨List.mem_filter.mpr ⟨List.mem_of_getElem? (i := 287) (by decide +kernel), by decide +kernel⟩, List.mem_filter.mpr ⟨List.mem_of_getElem? (i := 43) (by decide +kernel), by decide +kernel⟩, ⟨by decide +kernel, by decide +kernel⟩, by decide +kernel, by decide⟩
theorem mvX6_append : MV mX6_append 1 6 := ⟨moX6_append, List.mem_filter.mpr ⟨List.mem_of_getElem? (i := 285) (by decide +kernel), by decide +kernel⟩, List.mem_filter.mpr ⟨List.mem_of_getElem? (i := 286) (by decide +kernel), by decide +kernel⟩, TX6, 2, rfl⟩
abbrev mX8_wipe : MI := (yX8_wipe, cX8_wipe, 2, some (FieldType.int))
theorem moX8_wipe : MOk mX8_wipe 0 := ⟨List.mem_filter.mpr ⟨List.mem_of_getElem? (i := 291) (by decide +kernel), by decide +kernel⟩, List.mem_filter.mpr ⟨List.mem_of_getElem? (i := 42) (by decide +kernel), by decide +kernel⟩, ⟨by decide +kernel, by decide +kernel⟩, by decide +kernel, by decide⟩
theorem mvX8_wipe : MV mX8_wipe 0 8 := ⟨moX8_wipe, List.mem_filter.mpr ⟨List.mem_of_getElem? (i := 289) (by decide +kernel), by decide +kernel⟩, List.mem_filter.mpr ⟨List.mem_of_getElem? (i := 290) (by decide +kernel), by decide +kernel⟩, TX8, 13, rfl⟩
abbrev mX8_fault : MI := (yX8_fault, cX8_fault, 1, some (FieldType.int))
theorem moX8_fault : MOk mX8_fault 0 := ⟨List.mem_filter.mpr ⟨List.mem_of_getElem? (i := 295) (by decide +kernel), by decide +kernel⟩, List.mem_filter.mpr ⟨List.mem_of_getElem? (i := 42) (by decide +kernel), by decide +kernel⟩, ⟨by decide +kernel, by decide +kernel⟩, by decide +kernel, by decide⟩
theorem mvX8_fault : MV mX8_fault 0 8 := ⟨moX8_fault, List.mem_filter.mpr ⟨List.mem_of_getElem? (i := 293) (by decide +kernel), by decide +kernel⟩, List.mem_filter.mpr ⟨List.mem_of_getElem? (i := 294) (by decide +kernel), by decide +kernel⟩, TX8, 13, rfl⟩
abbrev mX6_readInto : MI := (yX6_readInto, cX6_readInto, 3, some (FieldType.int))
theorem moX6_readInto : MOk mX6_readInto 1 := ⟨List.mem_filter.mpr ⟨List.mem_of_getElem? (i := 299) (by decide +kernel), by decide +kernel⟩, List.mem_filter.mpr ⟨List.mem_of_getElem? (i := 43) (by decide +kernel), by decide +kernel⟩, ⟨by decide +kernel, by decide +kernel⟩, by decide +kernel, by decide⟩
theorem mvX6_readInto : MV mX6_readInto 1 6 := ⟨moX6_readInto, List.mem_filter.mpr ⟨List.mem_of_getElem? (i := 297) (by decide +kernel), by decide +kernel⟩, List.mem_filter.mpr ⟨List.mem_of_getElem? (i := 298) (by decide +kernel), by decide +kernel⟩, TX6, 2, rfl⟩
abbrev mX1_begin : MI := (yX1_begin, cX1_begin, 1, none)
theorem moX1_begin : MOk mX1_begin 0 := ⟨List.mem_filter.mpr ⟨List.mem_of_getElem? (i := 303) (by decide +kernel), by decide +kernel⟩, List.mem_filter.mpr ⟨List.mem_of_getElem? (i := 44) (by decide +kernel), by decide +kernel⟩, ⟨by decide +kernel, by decide +kernel⟩, by decide +kernel, by decide⟩
theorem mvX1_begin : MV mX1_begin 0 1 := ⟨moX1_begin, List.mem_filter.mpr ⟨List.mem_of_getElem? (i := 301) (by decide +kernel), by decide +kernel⟩, List.mem_filter.mpr ⟨List.mem_of_getElem? (i := 302) (by decide +kernel), by decide +kernel⟩, TX1, 9, rfl⟩
abbrev mX1_take : MI := (yX1_take, cX1_take, 2, some (FieldType.boolean))
theorem moX1_take : MOk mX1_take 1 := ⟨List.mem_filter.mpr ⟨List.mem_of_getElem? (i := 307) (by decide +kernel), by decide +kernel⟩, List.mem_filter.mpr ⟨List.mem_of_getElem? (i := 44) (by decide +kernel), by decide +kernel⟩, ⟨by decide +kernel, by decide +kernel⟩, by decide +kernel, by decide⟩
theorem mvX1_take : MV mX1_take 1 1 := ⟨moX1_take, List.mem_filter.mpr ⟨List.mem_of_getElem? (i := 305) (by decide +kernel), by decide +kernel⟩, List.mem_filter.mpr ⟨List.mem_of_getElem? (i := 306) (by decide +kernel), by decide +kernel⟩, TX1, 9, rfl⟩
abbrev mX1_takeStart : MI := (yX1_takeStart, cX1_takeStart, 2, some (FieldType.boolean))
theorem moX1_takeStart : MOk mX1_takeStart 1 := ⟨List.mem_filter.mpr ⟨List.mem_of_getElem? (i := 311) (by decide +kernel), by decide +kernel⟩, List.mem_filter.mpr ⟨List.mem_of_getElem? (i := 44) (by decide +kernel), by decide +kernel⟩, ⟨by decide +kernel, by decide +kernel⟩, by decide +kernel, by decide⟩
theorem mvX1_takeStart : MV mX1_takeStart 1 1 := ⟨moX1_takeStart, List.mem_filter.mpr ⟨List.mem_of_getElem? (i := 310) (by decide +kernel), by decide +kernel⟩, List.mem_filter.mpr ⟨List.mem_of_getElem? (i := 0) (by decide +kernel), by decide +kernel⟩, TX1, 9, rfl⟩
abbrev mX1_takeThing : MI := (yX1_takeThing, cX1_takeThing, 2, some (FieldType.boolean))
theorem moX1_takeThing : MOk mX1_takeThing 1 := ⟨List.mem_filter.mpr ⟨List.mem_of_getElem? (i := 315) (by decide +kernel), by decide +kernel⟩, List.mem_filter.mpr ⟨List.mem_of_getElem? (i := 44) (by decide +kernel), by decide +kernel⟩, ⟨by decide +kernel, by decide +kernel⟩, by decide +kernel, by decide⟩
theorem mvX1_takeThing : MV mX1_takeThing 1 1 := ⟨moX1_takeThing, List.mem_filter.mpr ⟨List.mem_of_getElem? (i := 314) (by decide +kernel), by decide +kernel⟩, List.mem_filter.mpr ⟨List.mem_of_getElem? (i := 1) (by decide +kernel), by decide +kernel⟩, TX1, 9, rfl⟩
abbrev mX1_takeKind : MI := (yX1_takeKind, cX1_takeKind, 2, some (FieldType.boolean))
theorem moX1_takeKind : MOk mX1_takeKind 1 := ⟨List.mem_filter.mpr ⟨List.mem_of_getElem? (i := 319) (by decide +kernel), by decide +kernel⟩, List.mem_filter.mpr ⟨List.mem_of_getElem? (i := 44) (by decide +kernel), by decide +kernel⟩, ⟨by decide +kernel, by decide +kernel⟩, by decide +kernel, by decide⟩
theorem mvX1_takeKind : MV mX1_takeKind 1 1 := ⟨moX1_takeKind, List.mem_filter.mpr ⟨List.mem_of_getElem? (i := 318) (by decide +kernel), by decide +kernel⟩, List.mem_filter.mpr ⟨List.mem_of_getElem? (i := 2) (by decide +kernel), by decide +kernel⟩, TX1, 9, rfl⟩
abbrev mX1_takeCell : MI := (yX1_takeCell, cX1_takeCell, 2, some (FieldType.boolean))
theorem moX1_takeCell : MOk mX1_takeCell 1 := ⟨List.mem_filter.mpr ⟨List.mem_of_getElem? (i := 323) (by decide +kernel), by decide +kernel⟩, List.mem_filter.mpr ⟨List.mem_of_getElem? (i := 44) (by decide +kernel), by decide +kernel⟩, ⟨by decide +kernel, by decide +kernel⟩, by decide +kernel, by decide⟩
theorem mvX1_takeCell : MV mX1_takeCell 1 1 := ⟨moX1_takeCell, List.mem_filter.mpr ⟨List.mem_of_getElem? (i := 322) (by decide +kernel), by decide +kernel⟩, List.mem_filter.mpr ⟨List.mem_of_getElem? (i := 3) (by decide +kernel), by decide +kernel⟩, TX1, 9, rfl⟩
abbrev mX1_takePart : MI := (yX1_takePart, cX1_takePart, 2, some (FieldType.boolean))
theorem moX1_takePart : MOk mX1_takePart 1 := ⟨List.mem_filter.mpr ⟨List.mem_of_getElem? (i := 327) (by decide +kernel), by decide +kernel⟩, List.mem_filter.mpr ⟨List.mem_of_getElem? (i := 44) (by decide +kernel), by decide +kernel⟩, ⟨by decide +kernel, by decide +kernel⟩, by decide +kernel, by decide⟩
theorem mvX1_takePart : MV mX1_takePart 1 1 := ⟨moX1_takePart, List.mem_filter.mpr ⟨List.mem_of_getElem? (i := 326) (by decide +kernel), by decide +kernel⟩, List.mem_filter.mpr ⟨List.mem_of_getElem? (i := 4) (by decide +kernel), by decide +kernel⟩, TX1, 9, rfl⟩
abbrev mX1_takeNeed : MI := (yX1_takeNeed, cX1_takeNeed, 2, some (FieldType.boolean))
theorem moX1_takeNeed : MOk mX1_takeNeed 1 := ⟨List.mem_filter.mpr ⟨List.mem_of_getElem? (i := 331) (by decide +kernel), by decide +kernel⟩, List.mem_filter.mpr ⟨List.mem_of_getElem? (i := 44) (by decide +kernel), by decide +kernel⟩, ⟨by decide +kernel, by decide +kernel⟩, by decide +kernel, by decide⟩
theorem mvX1_takeNeed : MV mX1_takeNeed 1 1 := ⟨moX1_takeNeed, List.mem_filter.mpr ⟨List.mem_of_getElem? (i := 330) (by decide +kernel), by decide +kernel⟩, List.mem_filter.mpr ⟨List.mem_of_getElem? (i := 5) (by decide +kernel), by decide +kernel⟩, TX1, 9, rfl⟩
abbrev mX1_isWhole : MI := (yX1_isWhole, cX1_isWhole, 1, some (FieldType.boolean))
theorem moX1_isWhole : MOk mX1_isWhole 0 := ⟨List.mem_filter.mpr ⟨List.mem_of_getElem? (i := 335) (by decide +kernel), by decide +kernel⟩, List.mem_filter.mpr ⟨List.mem_of_getElem? (i := 44) (by decide +kernel), by decide +kernel⟩, ⟨by decide +kernel, by decide +kernel⟩, by decide +kernel, by decide⟩
theorem mvX1_isWhole : MV mX1_isWhole 0 1 := ⟨moX1_isWhole, List.mem_filter.mpr ⟨List.mem_of_getElem? (i := 333) (by decide +kernel), by decide +kernel⟩, List.mem_filter.mpr ⟨List.mem_of_getElem? (i := 334) (by decide +kernel), by decide +kernel⟩, TX1, 9, rfl⟩
abbrev mX8_family : MI := (yX8_family, cX8_family, 2, some (FieldType.int))
theorem moX8_family : MOk mX8_family 0 := ⟨List.mem_filter.mpr ⟨List.mem_of_getElem? (i := 339) (by decide +kernel), by decide +kernel⟩, List.mem_filter.mpr ⟨List.mem_of_getElem? (i := 42) (by decide +kernel), by decide +kernel⟩, ⟨by decide +kernel, by decide +kernel⟩, by decide +kernel, by decide⟩
theorem mvX8_family : MV mX8_family 0 8 := ⟨moX8_family, List.mem_filter.mpr ⟨List.mem_of_getElem? (i := 337) (by decide +kernel), by decide +kernel⟩, List.mem_filter.mpr ⟨List.mem_of_getElem? (i := 338) (by decide +kernel), by decide +kernel⟩, TX8, 13, rfl⟩
abbrev mX4_begin : MI := (yX4_begin, cX4_begin, 1, none)
theorem moX4_begin : MOk mX4_begin 0 := ⟨List.mem_filter.mpr ⟨List.mem_of_getElem? (i := 343) (by decide +kernel), by decide +kernel⟩, List.mem_filter.mpr ⟨List.mem_of_getElem? (i := 45) (by decide +kernel), by decide +kernel⟩, ⟨by decide +kernel, by decide +kernel⟩, by decide +kernel, by decide⟩
theorem mvX4_begin : MV mX4_begin 0 4 := ⟨moX4_begin, List.mem_filter.mpr ⟨List.mem_of_getElem? (i := 341) (by decide +kernel), by decide +kernel⟩, List.mem_filter.mpr ⟨List.mem_of_getElem? (i := 342) (by decide +kernel), by decide +kernel⟩, TX4, 4, rfl⟩
abbrev mJ7_fill_53178 : MI := (yJ7_fill_53178, cJ7_fill_53178, 4, none)
theorem moJ7_fill_53178 : MOk mJ7_fill_53178 2 := ⟨List.mem_filter.mpr ⟨List.mem_of_getElem? (i := 349) (by decide +kernel), by decide +kernel⟩, List.mem_filter.mpr ⟨List.mem_of_getElem? (i := 53) (by decide +kernel), by decide +kernel⟩, ⟨by decide +kernel, by decide +kernel⟩, by decide +kernel, by decide⟩
theorem msJ7_fill_53178 : MS mJ7_fill_53178 2 := ⟨moJ7_fill_53178, List.mem_filter.mpr ⟨List.mem_of_getElem? (i := 348) (by decide +kernel), by decide +kernel⟩⟩
abbrev mX0_forget : MI := (yX0_forget, cX0_forget, 1, none)
theorem moX0_forget : MOk mX0_forget 0 := ⟨List.mem_filter.mpr ⟨List.mem_of_getElem? (i := 353) (by decide +kernel), by decide +kernel⟩, List.mem_filter.mpr ⟨List.mem_of_getElem? (i := 46) (by decide +kernel), by decide +kernel⟩, ⟨by decide +kernel, by decide +kernel⟩, by decide +kernel, by decide⟩
theorem mvX0_forget : MV mX0_forget 0 0 := ⟨moX0_forget, List.mem_filter.mpr ⟨List.mem_of_getElem? (i := 351) (by decide +kernel), by decide +kernel⟩, List.mem_filter.mpr ⟨List.mem_of_getElem? (i := 352) (by decide +kernel), by decide +kernel⟩, TX0, 4, rfl⟩
abbrev mX8_about : MI := (yX8_about, cX8_about, 2, some (FieldType.int))
theorem moX8_about : MOk mX8_about 1 := ⟨List.mem_filter.mpr ⟨List.mem_of_getElem? (i := 357) (by decide +kernel), by decide +kernel⟩, List.mem_filter.mpr ⟨List.mem_of_getElem? (i := 42) (by decide +kernel), by decide +kernel⟩, ⟨by decide +kernel, by decide +kernel⟩, by decide +kernel, by decide⟩
theorem mvX8_about : MV mX8_about 1 8 := ⟨moX8_about, List.mem_filter.mpr ⟨List.mem_of_getElem? (i := 355) (by decide +kernel), by decide +kernel⟩, List.mem_filter.mpr ⟨List.mem_of_getElem? (i := 356) (by decide +kernel), by decide +kernel⟩, TX8, 13, rfl⟩
abbrev mX4_wireNumber : MI := (yX4_wireNumber, cX4_wireNumber, 1, some (FieldType.int))
theorem moX4_wireNumber : MOk mX4_wireNumber 0 := ⟨List.mem_filter.mpr ⟨List.mem_of_getElem? (i := 361) (by decide +kernel), by decide +kernel⟩, List.mem_filter.mpr ⟨List.mem_of_getElem? (i := 45) (by decide +kernel), by decide +kernel⟩, ⟨by decide +kernel, by decide +kernel⟩, by decide +kernel, by decide⟩
theorem mvX4_wireNumber : MV mX4_wireNumber 0 4 := ⟨moX4_wireNumber, List.mem_filter.mpr ⟨List.mem_of_getElem? (i := 359) (by decide +kernel), by decide +kernel⟩, List.mem_filter.mpr ⟨List.mem_of_getElem? (i := 360) (by decide +kernel), by decide +kernel⟩, TX4, 4, rfl⟩
abbrev mX8_figuresOf : MI := (yX8_figuresOf, cX8_figuresOf, 4, some (FieldType.int))
theorem moX8_figuresOf : MOk mX8_figuresOf 2 := ⟨List.mem_filter.mpr ⟨List.mem_of_getElem? (i := 364) (by decide +kernel), by decide +kernel⟩, List.mem_filter.mpr ⟨List.mem_of_getElem? (i := 42) (by decide +kernel), by decide +kernel⟩, ⟨by decide +kernel, by decide +kernel⟩, by decide +kernel, by decide⟩
theorem msX8_figuresOf : MS mX8_figuresOf 2 := ⟨moX8_figuresOf, List.mem_filter.mpr ⟨List.mem_of_getElem? (i := 363) (by decide +kernel), by decide +kernel⟩⟩
abbrev mX4_slipCount : MI := (yX4_slipCount, cX4_slipCount, 3, some (FieldType.int))
theorem moX4_slipCount : MOk mX4_slipCount 0 := ⟨List.mem_filter.mpr ⟨List.mem_of_getElem? (i := 368) (by decide +kernel), by decide +kernel⟩, List.mem_filter.mpr ⟨List.mem_of_getElem? (i := 45) (by decide +kernel), by decide +kernel⟩, ⟨by decide +kernel, by decide +kernel⟩, by decide +kernel, by decide⟩
theorem mvX4_slipCount : MV mX4_slipCount 0 4 := ⟨moX4_slipCount, List.mem_filter.mpr ⟨List.mem_of_getElem? (i := 366) (by decide +kernel), by decide +kernel⟩, List.mem_filter.mpr ⟨List.mem_of_getElem? (i := 367) (by decide +kernel), by decide +kernel⟩, TX4, 4, rfl⟩
abbrev mX8_talliedNow : MI := (yX8_talliedNow, cX8_talliedNow, 1, some ((FieldType.object "WireFamily$Tally")))
theorem moX8_talliedNow : MOk mX8_talliedNow 0 := ⟨List.mem_filter.mpr ⟨List.mem_of_getElem? (i := 372) (by decide +kernel), by decide +kernel⟩, List.mem_filter.mpr ⟨List.mem_of_getElem? (i := 42) (by decide +kernel), by decide +kernel⟩, ⟨by decide +kernel, by decide +kernel⟩, by decide +kernel, by decide⟩
theorem mvX8_talliedNow : MV mX8_talliedNow 0 8 := ⟨moX8_talliedNow, List.mem_filter.mpr ⟨List.mem_of_getElem? (i := 371) (by decide +kernel), by decide +kernel⟩, List.mem_filter.mpr ⟨List.mem_of_getElem? (i := 6) (by decide +kernel), by decide +kernel⟩, TX8, 13, rfl⟩
abbrev mX5_take : MI := (yX5_take, cX5_take, 7, none)
theorem moX5_take : MOk mX5_take 2 := ⟨List.mem_filter.mpr ⟨List.mem_of_getElem? (i := 376) (by decide +kernel), by decide +kernel⟩, List.mem_filter.mpr ⟨List.mem_of_getElem? (i := 47) (by decide +kernel), by decide +kernel⟩, ⟨by decide +kernel, by decide +kernel⟩, by decide +kernel, by decide⟩
theorem mvX5_take : MV mX5_take 2 5 := ⟨moX5_take, List.mem_filter.mpr ⟨List.mem_of_getElem? (i := 374) (by decide +kernel), by decide +kernel⟩, List.mem_filter.mpr ⟨List.mem_of_getElem? (i := 375) (by decide +kernel), by decide +kernel⟩, TX5, 3, rfl⟩
abbrev mX5_countCells : MI := (yX5_countCells, cX5_countCells, 6, none)
theorem moX5_countCells : MOk mX5_countCells 2 := ⟨List.mem_filter.mpr ⟨List.mem_of_getElem? (i := 380) (by decide +kernel), by decide +kernel⟩, List.mem_filter.mpr ⟨List.mem_of_getElem? (i := 47) (by decide +kernel), by decide +kernel⟩, ⟨by decide +kernel, by decide +kernel⟩, by decide +kernel, by decide⟩
theorem mvX5_countCells : MV mX5_countCells 2 5 := ⟨moX5_countCells, List.mem_filter.mpr ⟨List.mem_of_getElem? (i := 379) (by decide +kernel), by decide +kernel⟩, List.mem_filter.mpr ⟨List.mem_of_getElem? (i := 7) (by decide +kernel), by decide +kernel⟩, TX5, 3, rfl⟩
abbrev mX8_halfOf : MI := (yX8_halfOf, cX8_halfOf, 2, some (FieldType.int))
theorem moX8_halfOf : MOk mX8_halfOf 2 := ⟨List.mem_filter.mpr ⟨List.mem_of_getElem? (i := 384) (by decide +kernel), by decide +kernel⟩, List.mem_filter.mpr ⟨List.mem_of_getElem? (i := 42) (by decide +kernel), by decide +kernel⟩, ⟨by decide +kernel, by decide +kernel⟩, by decide +kernel, by decide⟩
theorem msX8_halfOf : MS mX8_halfOf 2 := ⟨moX8_halfOf, List.mem_filter.mpr ⟨List.mem_of_getElem? (i := 383) (by decide +kernel), by decide +kernel⟩⟩
abbrev mX8_kinOf : MI := (yX8_kinOf, cX8_kinOf, 1, some (FieldType.int))
theorem moX8_kinOf : MOk mX8_kinOf 1 := ⟨List.mem_filter.mpr ⟨List.mem_of_getElem? (i := 387) (by decide +kernel), by decide +kernel⟩, List.mem_filter.mpr ⟨List.mem_of_getElem? (i := 42) (by decide +kernel), by decide +kernel⟩, ⟨by decide +kernel, by decide +kernel⟩, by decide +kernel, by decide⟩
theorem msX8_kinOf : MS mX8_kinOf 1 := ⟨moX8_kinOf, List.mem_filter.mpr ⟨List.mem_of_getElem? (i := 386) (by decide +kernel), by decide +kernel⟩⟩
abbrev mX5_halvesFor : MI := (yX5_halvesFor, cX5_halvesFor, 5, some (FieldType.int))
theorem moX5_halvesFor : MOk mX5_halvesFor 2 := ⟨List.mem_filter.mpr ⟨List.mem_of_getElem? (i := 391) (by decide +kernel), by decide +kernel⟩, List.mem_filter.mpr ⟨List.mem_of_getElem? (i := 47) (by decide +kernel), by decide +kernel⟩, ⟨by decide +kernel, by decide +kernel⟩, by decide +kernel, by decide⟩
theorem mvX5_halvesFor : MV mX5_halvesFor 2 5 := ⟨moX5_halvesFor, List.mem_filter.mpr ⟨List.mem_of_getElem? (i := 389) (by decide +kernel), by decide +kernel⟩, List.mem_filter.mpr ⟨List.mem_of_getElem? (i := 390) (by decide +kernel), by decide +kernel⟩, TX5, 3, rfl⟩
abbrev mX8_partOf : MI := (yX8_partOf, cX8_partOf, 1, some (FieldType.int))
theorem moX8_partOf : MOk mX8_partOf 1 := ⟨List.mem_filter.mpr ⟨List.mem_of_getElem? (i := 394) (by decide +kernel), by decide +kernel⟩, List.mem_filter.mpr ⟨List.mem_of_getElem? (i := 42) (by decide +kernel), by decide +kernel⟩, ⟨by decide +kernel, by decide +kernel⟩, by decide +kernel, by decide⟩
theorem msX8_partOf : MS mX8_partOf 1 := ⟨moX8_partOf, List.mem_filter.mpr ⟨List.mem_of_getElem? (i := 393) (by decide +kernel), by decide +kernel⟩⟩
abbrev mX5_isParted : MI := (yX5_isParted, cX5_isParted, 2, some (FieldType.boolean))
theorem moX5_isParted : MOk mX5_isParted 1 := ⟨List.mem_filter.mpr ⟨List.mem_of_getElem? (i := 398) (by decide +kernel), by decide +kernel⟩, List.mem_filter.mpr ⟨List.mem_of_getElem? (i := 47) (by decide +kernel), by decide +kernel⟩, ⟨by decide +kernel, by decide +kernel⟩, by decide +kernel, by decide⟩
theorem mvX5_isParted : MV mX5_isParted 1 5 := ⟨moX5_isParted, List.mem_filter.mpr ⟨List.mem_of_getElem? (i := 396) (by decide +kernel), by decide +kernel⟩, List.mem_filter.mpr ⟨List.mem_of_getElem? (i := 397) (by decide +kernel), by decide +kernel⟩, TX5, 3, rfl⟩
abbrev mX5_cellsIn : MI := (yX5_cellsIn, cX5_cellsIn, 3, some (FieldType.int))
theorem moX5_cellsIn : MOk mX5_cellsIn 2 := ⟨List.mem_filter.mpr ⟨List.mem_of_getElem? (i := 402) (by decide +kernel), by decide +kernel⟩, List.mem_filter.mpr ⟨List.mem_of_getElem? (i := 47) (by decide +kernel), by decide +kernel⟩, ⟨by decide +kernel, by decide +kernel⟩, by decide +kernel, by decide⟩
theorem mvX5_cellsIn : MV mX5_cellsIn 2 5 := ⟨moX5_cellsIn, List.mem_filter.mpr ⟨List.mem_of_getElem? (i := 400) (by decide +kernel), by decide +kernel⟩, List.mem_filter.mpr ⟨List.mem_of_getElem? (i := 401) (by decide +kernel), by decide +kernel⟩, TX5, 3, rfl⟩
abbrev mX5_partedBits : MI := (yX5_partedBits, cX5_partedBits, 3, some (FieldType.int))
theorem moX5_partedBits : MOk mX5_partedBits 0 := ⟨List.mem_filter.mpr ⟨List.mem_of_getElem? (i := 406) (by decide +kernel), by decide +kernel⟩, List.mem_filter.mpr ⟨List.mem_of_getElem? (i := 47) (by decide +kernel), by decide +kernel⟩, ⟨by decide +kernel, by decide +kernel⟩, by decide +kernel, by decide⟩
theorem mvX5_partedBits : MV mX5_partedBits 0 5 := ⟨moX5_partedBits, List.mem_filter.mpr ⟨List.mem_of_getElem? (i := 404) (by decide +kernel), by decide +kernel⟩, List.mem_filter.mpr ⟨List.mem_of_getElem? (i := 405) (by decide +kernel), by decide +kernel⟩, TX5, 3, rfl⟩
abbrev mX8_wireCount : MI := (yX8_wireCount, cX8_wireCount, 3, some (FieldType.int))
theorem moX8_wireCount : MOk mX8_wireCount 0 := ⟨List.mem_filter.mpr ⟨List.mem_of_getElem? (i := 410) (by decide +kernel), by decide +kernel⟩, List.mem_filter.mpr ⟨List.mem_of_getElem? (i := 42) (by decide +kernel), by decide +kernel⟩, ⟨by decide +kernel, by decide +kernel⟩, by decide +kernel, by decide⟩
theorem mvX8_wireCount : MV mX8_wireCount 0 8 := ⟨moX8_wireCount, List.mem_filter.mpr ⟨List.mem_of_getElem? (i := 409) (by decide +kernel), by decide +kernel⟩, List.mem_filter.mpr ⟨List.mem_of_getElem? (i := 8) (by decide +kernel), by decide +kernel⟩, TX8, 13, rfl⟩
abbrev mX7_begin : MI := (yX7_begin, cX7_begin, 2, none)
theorem moX7_begin : MOk mX7_begin 1 := ⟨List.mem_filter.mpr ⟨List.mem_of_getElem? (i := 414) (by decide +kernel), by decide +kernel⟩, List.mem_filter.mpr ⟨List.mem_of_getElem? (i := 49) (by decide +kernel), by decide +kernel⟩, ⟨by decide +kernel, by decide +kernel⟩, by decide +kernel, by decide⟩
theorem mvX7_begin : MV mX7_begin 1 7 := ⟨moX7_begin, List.mem_filter.mpr ⟨List.mem_of_getElem? (i := 412) (by decide +kernel), by decide +kernel⟩, List.mem_filter.mpr ⟨List.mem_of_getElem? (i := 413) (by decide +kernel), by decide +kernel⟩, TX7, 3, rfl⟩
abbrev mJ9_min_7cf53 : MI := (yJ9_min_7cf53, cJ9_min_7cf53, 2, some (FieldType.int))
theorem moJ9_min_7cf53 : MOk mJ9_min_7cf53 2 := ⟨List.mem_filter.mpr ⟨List.mem_of_getElem? (i := 417) (by decide +kernel), by decide +kernel⟩, List.mem_filter.mpr ⟨List.mem_of_getElem? (i := 54) (by decide +kernel), by decide +kernel⟩, ⟨by decide +kernel, by decide +kernel⟩, by decide +kernel, by decide⟩
theorem msJ9_min_7cf53 : MS mJ9_min_7cf53 2 := ⟨moJ9_min_7cf53, List.mem_filter.mpr ⟨List.mem_of_getElem? (i := 416) (by decide +kernel), by decide +kernel⟩⟩
abbrev mX7_advance : MI := (yX7_advance, cX7_advance, 2, none)
theorem moX7_advance : MOk mX7_advance 0 := ⟨List.mem_filter.mpr ⟨List.mem_of_getElem? (i := 422) (by decide +kernel), by decide +kernel⟩, List.mem_filter.mpr ⟨List.mem_of_getElem? (i := 49) (by decide +kernel), by decide +kernel⟩, ⟨by decide +kernel, by decide +kernel⟩, by decide +kernel, by decide⟩
theorem mvX7_advance : MV mX7_advance 0 7 := ⟨moX7_advance, List.mem_filter.mpr ⟨List.mem_of_getElem? (i := 420) (by decide +kernel), by decide +kernel⟩, List.mem_filter.mpr ⟨List.mem_of_getElem? (i := 421) (by decide +kernel), by decide +kernel⟩, TX7, 3, rfl⟩
abbrev mX7_putLeastBehind : MI := (yX7_putLeastBehind, cX7_putLeastBehind, 3, none)
theorem moX7_putLeastBehind : MOk mX7_putLeastBehind 1 := ⟨List.mem_filter.mpr ⟨List.mem_of_getElem? (i := 426) (by decide +kernel), by decide +kernel⟩, List.mem_filter.mpr ⟨List.mem_of_getElem? (i := 49) (by decide +kernel), by decide +kernel⟩, ⟨by decide +kernel, by decide +kernel⟩, by decide +kernel, by decide⟩
theorem mvX7_putLeastBehind : MV mX7_putLeastBehind 1 7 := ⟨moX7_putLeastBehind, List.mem_filter.mpr ⟨List.mem_of_getElem? (i := 425) (by decide +kernel), by decide +kernel⟩, List.mem_filter.mpr ⟨List.mem_of_getElem? (i := 9) (by decide +kernel), by decide +kernel⟩, TX7, 3, rfl⟩
abbrev mJ9_max_7cf53 : MI := (yJ9_max_7cf53, cJ9_max_7cf53, 2, some (FieldType.int))
theorem moJ9_max_7cf53 : MOk mJ9_max_7cf53 2 := ⟨List.mem_filter.mpr ⟨List.mem_of_getElem? (i := 429) (by decide +kernel), by decide +kernel⟩, List.mem_filter.mpr ⟨List.mem_of_getElem? (i := 54) (by decide +kernel), by decide +kernel⟩, ⟨by decide +kernel, by decide +kernel⟩, by decide +kernel, by decide⟩
theorem msJ9_max_7cf53 : MS mJ9_max_7cf53 2 := ⟨moJ9_max_7cf53, List.mem_filter.mpr ⟨List.mem_of_getElem? (i := 428) (by decide +kernel), by decide +kernel⟩⟩
abbrev mX8_cell : MI := (yX8_cell, cX8_cell, 6, some (FieldType.int))
theorem moX8_cell : MOk mX8_cell 3 := ⟨List.mem_filter.mpr ⟨List.mem_of_getElem? (i := 433) (by decide +kernel), by decide +kernel⟩, List.mem_filter.mpr ⟨List.mem_of_getElem? (i := 42) (by decide +kernel), by decide +kernel⟩, ⟨by decide +kernel, by decide +kernel⟩, by decide +kernel, by decide⟩
theorem mvX8_cell : MV mX8_cell 3 8 := ⟨moX8_cell, List.mem_filter.mpr ⟨List.mem_of_getElem? (i := 431) (by decide +kernel), by decide +kernel⟩, List.mem_filter.mpr ⟨List.mem_of_getElem? (i := 432) (by decide +kernel), by decide +kernel⟩, TX8, 13, rfl⟩
abbrev mX8_isRow : MI := (yX8_isRow, cX8_isRow, 2, some (FieldType.boolean))
theorem moX8_isRow : MOk mX8_isRow 1 := ⟨List.mem_filter.mpr ⟨List.mem_of_getElem? (i := 437) (by decide +kernel), by decide +kernel⟩, List.mem_filter.mpr ⟨List.mem_of_getElem? (i := 42) (by decide +kernel), by decide +kernel⟩, ⟨by decide +kernel, by decide +kernel⟩, by decide +kernel, by decide⟩
theorem mvX8_isRow : MV mX8_isRow 1 8 := ⟨moX8_isRow, List.mem_filter.mpr ⟨List.mem_of_getElem? (i := 436) (by decide +kernel), by decide +kernel⟩, List.mem_filter.mpr ⟨List.mem_of_getElem? (i := 10) (by decide +kernel), by decide +kernel⟩, TX8, 13, rfl⟩
abbrev mX8_kin : MI := (yX8_kin, cX8_kin, 3, some (FieldType.int))
theorem moX8_kin : MOk mX8_kin 2 := ⟨List.mem_filter.mpr ⟨List.mem_of_getElem? (i := 445) (by decide +kernel), by decide +kernel⟩, List.mem_filter.mpr ⟨List.mem_of_getElem? (i := 42) (by decide +kernel), by decide +kernel⟩, ⟨by decide +kernel, by decide +kernel⟩, by decide +kernel, by decide⟩
theorem mvX8_kin : MV mX8_kin 2 8 := ⟨moX8_kin, List.mem_filter.mpr ⟨List.mem_of_getElem? (i := 443) (by decide +kernel), by decide +kernel⟩, List.mem_filter.mpr ⟨List.mem_of_getElem? (i := 444) (by decide +kernel), by decide +kernel⟩, TX8, 13, rfl⟩
abbrev mX8_isKin : MI := (yX8_isKin, cX8_isKin, 2, some (FieldType.boolean))
theorem moX8_isKin : MOk mX8_isKin 1 := ⟨List.mem_filter.mpr ⟨List.mem_of_getElem? (i := 449) (by decide +kernel), by decide +kernel⟩, List.mem_filter.mpr ⟨List.mem_of_getElem? (i := 42) (by decide +kernel), by decide +kernel⟩, ⟨by decide +kernel, by decide +kernel⟩, by decide +kernel, by decide⟩
theorem mvX8_isKin : MV mX8_isKin 1 8 := ⟨moX8_isKin, List.mem_filter.mpr ⟨List.mem_of_getElem? (i := 448) (by decide +kernel), by decide +kernel⟩, List.mem_filter.mpr ⟨List.mem_of_getElem? (i := 11) (by decide +kernel), by decide +kernel⟩, TX8, 13, rfl⟩
abbrev mX5_countedOf : MI := (yX5_countedOf, cX5_countedOf, 5, some (FieldType.int))
theorem moX5_countedOf : MOk mX5_countedOf 2 := ⟨List.mem_filter.mpr ⟨List.mem_of_getElem? (i := 454) (by decide +kernel), by decide +kernel⟩, List.mem_filter.mpr ⟨List.mem_of_getElem? (i := 47) (by decide +kernel), by decide +kernel⟩, ⟨by decide +kernel, by decide +kernel⟩, by decide +kernel, by decide⟩
theorem mvX5_countedOf : MV mX5_countedOf 2 5 := ⟨moX5_countedOf, List.mem_filter.mpr ⟨List.mem_of_getElem? (i := 452) (by decide +kernel), by decide +kernel⟩, List.mem_filter.mpr ⟨List.mem_of_getElem? (i := 453) (by decide +kernel), by decide +kernel⟩, TX5, 3, rfl⟩
abbrev mX8_has : MI := (yX8_has, cX8_has, 3, some (FieldType.int))
theorem moX8_has : MOk mX8_has 2 := ⟨List.mem_filter.mpr ⟨List.mem_of_getElem? (i := 458) (by decide +kernel), by decide +kernel⟩, List.mem_filter.mpr ⟨List.mem_of_getElem? (i := 42) (by decide +kernel), by decide +kernel⟩, ⟨by decide +kernel, by decide +kernel⟩, by decide +kernel, by decide⟩
theorem mvX8_has : MV mX8_has 2 8 := ⟨moX8_has, List.mem_filter.mpr ⟨List.mem_of_getElem? (i := 456) (by decide +kernel), by decide +kernel⟩, List.mem_filter.mpr ⟨List.mem_of_getElem? (i := 457) (by decide +kernel), by decide +kernel⟩, TX8, 13, rfl⟩
abbrev mX8_isHalf : MI := (yX8_isHalf, cX8_isHalf, 1, some (FieldType.boolean))
theorem moX8_isHalf : MOk mX8_isHalf 1 := ⟨List.mem_filter.mpr ⟨List.mem_of_getElem? (i := 461) (by decide +kernel), by decide +kernel⟩, List.mem_filter.mpr ⟨List.mem_of_getElem? (i := 42) (by decide +kernel), by decide +kernel⟩, ⟨by decide +kernel, by decide +kernel⟩, by decide +kernel, by decide⟩
theorem msX8_isHalf : MS mX8_isHalf 1 := ⟨moX8_isHalf, List.mem_filter.mpr ⟨List.mem_of_getElem? (i := 460) (by decide +kernel), by decide +kernel⟩⟩
abbrev mX5_counted : MI := (yX5_counted, cX5_counted, 6, some (FieldType.int))
theorem moX5_counted : MOk mX5_counted 3 := ⟨List.mem_filter.mpr ⟨List.mem_of_getElem? (i := 465) (by decide +kernel), by decide +kernel⟩, List.mem_filter.mpr ⟨List.mem_of_getElem? (i := 47) (by decide +kernel), by decide +kernel⟩, ⟨by decide +kernel, by decide +kernel⟩, by decide +kernel, by decide⟩
theorem mvX5_counted : MV mX5_counted 3 5 := ⟨moX5_counted, List.mem_filter.mpr ⟨List.mem_of_getElem? (i := 463) (by decide +kernel), by decide +kernel⟩, List.mem_filter.mpr ⟨List.mem_of_getElem? (i := 464) (by decide +kernel), by decide +kernel⟩, TX5, 3, rfl⟩
abbrev mX8_can : MI := (yX8_can, cX8_can, 2, some (FieldType.int))
theorem moX8_can : MOk mX8_can 1 := ⟨List.mem_filter.mpr ⟨List.mem_of_getElem? (i := 469) (by decide +kernel), by decide +kernel⟩, List.mem_filter.mpr ⟨List.mem_of_getElem? (i := 42) (by decide +kernel), by decide +kernel⟩, ⟨by decide +kernel, by decide +kernel⟩, by decide +kernel, by decide⟩
theorem mvX8_can : MV mX8_can 1 8 := ⟨moX8_can, List.mem_filter.mpr ⟨List.mem_of_getElem? (i := 467) (by decide +kernel), by decide +kernel⟩, List.mem_filter.mpr ⟨List.mem_of_getElem? (i := 468) (by decide +kernel), by decide +kernel⟩, TX8, 13, rfl⟩
abbrev mX5_deedBits : MI := (yX5_deedBits, cX5_deedBits, 5, some (FieldType.int))
theorem moX5_deedBits : MOk mX5_deedBits 2 := ⟨List.mem_filter.mpr ⟨List.mem_of_getElem? (i := 473) (by decide +kernel), by decide +kernel⟩, List.mem_filter.mpr ⟨List.mem_of_getElem? (i := 47) (by decide +kernel), by decide +kernel⟩, ⟨by decide +kernel, by decide +kernel⟩, by decide +kernel, by decide⟩
theorem mvX5_deedBits : MV mX5_deedBits 2 5 := ⟨moX5_deedBits, List.mem_filter.mpr ⟨List.mem_of_getElem? (i := 471) (by decide +kernel), by decide +kernel⟩, List.mem_filter.mpr ⟨List.mem_of_getElem? (i := 472) (by decide +kernel), by decide +kernel⟩, TX5, 3, rfl⟩
abbrev mX5_isDone : MI := (yX5_isDone, cX5_isDone, 4, some (FieldType.boolean))
theorem moX5_isDone : MOk mX5_isDone 3 := ⟨List.mem_filter.mpr ⟨List.mem_of_getElem? (i := 477) (by decide +kernel), by decide +kernel⟩, List.mem_filter.mpr ⟨List.mem_of_getElem? (i := 47) (by decide +kernel), by decide +kernel⟩, ⟨by decide +kernel, by decide +kernel⟩, by decide +kernel, by decide⟩
theorem mvX5_isDone : MV mX5_isDone 3 5 := ⟨moX5_isDone, List.mem_filter.mpr ⟨List.mem_of_getElem? (i := 475) (by decide +kernel), by decide +kernel⟩, List.mem_filter.mpr ⟨List.mem_of_getElem? (i := 476) (by decide +kernel), by decide +kernel⟩, TX5, 3, rfl⟩
abbrev mX8_draw : MI := (yX8_draw, cX8_draw, 4, some (FieldType.int))
theorem moX8_draw : MOk mX8_draw 2 := ⟨List.mem_filter.mpr ⟨List.mem_of_getElem? (i := 482) (by decide +kernel), by decide +kernel⟩, List.mem_filter.mpr ⟨List.mem_of_getElem? (i := 42) (by decide +kernel), by decide +kernel⟩, ⟨by decide +kernel, by decide +kernel⟩, by decide +kernel, by decide⟩
theorem mvX8_draw : MV mX8_draw 2 8 := ⟨moX8_draw, List.mem_filter.mpr ⟨List.mem_of_getElem? (i := 480) (by decide +kernel), by decide +kernel⟩, List.mem_filter.mpr ⟨List.mem_of_getElem? (i := 481) (by decide +kernel), by decide +kernel⟩, TX8, 13, rfl⟩
abbrev mX4_moveWire : MI := (yX4_moveWire, cX4_moveWire, 4, some (FieldType.boolean))
theorem moX4_moveWire : MOk mX4_moveWire 2 := ⟨List.mem_filter.mpr ⟨List.mem_of_getElem? (i := 486) (by decide +kernel), by decide +kernel⟩, List.mem_filter.mpr ⟨List.mem_of_getElem? (i := 45) (by decide +kernel), by decide +kernel⟩, ⟨by decide +kernel, by decide +kernel⟩, by decide +kernel, by decide⟩
theorem mvX4_moveWire : MV mX4_moveWire 2 4 := ⟨moX4_moveWire, List.mem_filter.mpr ⟨List.mem_of_getElem? (i := 484) (by decide +kernel), by decide +kernel⟩, List.mem_filter.mpr ⟨List.mem_of_getElem? (i := 485) (by decide +kernel), by decide +kernel⟩, TX4, 4, rfl⟩
abbrev mX4_isNear : MI := (yX4_isNear, cX4_isNear, 3, some (FieldType.boolean))
theorem moX4_isNear : MOk mX4_isNear 2 := ⟨List.mem_filter.mpr ⟨List.mem_of_getElem? (i := 490) (by decide +kernel), by decide +kernel⟩, List.mem_filter.mpr ⟨List.mem_of_getElem? (i := 45) (by decide +kernel), by decide +kernel⟩, ⟨by decide +kernel, by decide +kernel⟩, by decide +kernel, by decide⟩
theorem mvX4_isNear : MV mX4_isNear 2 4 := ⟨moX4_isNear, List.mem_filter.mpr ⟨List.mem_of_getElem? (i := 489) (by decide +kernel), by decide +kernel⟩, List.mem_filter.mpr ⟨List.mem_of_getElem? (i := 12) (by decide +kernel), by decide +kernel⟩, TX4, 4, rfl⟩
abbrev mJ9_abs_0f7a4 : MI := (yJ9_abs_0f7a4, cJ9_abs_0f7a4, 1, some (FieldType.int))
theorem moJ9_abs_0f7a4 : MOk mJ9_abs_0f7a4 1 := ⟨List.mem_filter.mpr ⟨List.mem_of_getElem? (i := 493) (by decide +kernel), by decide +kernel⟩, List.mem_filter.mpr ⟨List.mem_of_getElem? (i := 54) (by decide +kernel), by decide +kernel⟩, ⟨by decide +kernel, by decide +kernel⟩, by decide +kernel, by decide⟩
theorem msJ9_abs_0f7a4 : MS mJ9_abs_0f7a4 1 := ⟨moJ9_abs_0f7a4, List.mem_filter.mpr ⟨List.mem_of_getElem? (i := 492) (by decide +kernel), by decide +kernel⟩⟩
abbrev mX0_note : MI := (yX0_note, cX0_note, 4, none)
theorem moX0_note : MOk mX0_note 3 := ⟨List.mem_filter.mpr ⟨List.mem_of_getElem? (i := 497) (by decide +kernel), by decide +kernel⟩, List.mem_filter.mpr ⟨List.mem_of_getElem? (i := 46) (by decide +kernel), by decide +kernel⟩, ⟨by decide +kernel, by decide +kernel⟩, by decide +kernel, by decide⟩
theorem mvX0_note : MV mX0_note 3 0 := ⟨moX0_note, List.mem_filter.mpr ⟨List.mem_of_getElem? (i := 495) (by decide +kernel), by decide +kernel⟩, List.mem_filter.mpr ⟨List.mem_of_getElem? (i := 496) (by decide +kernel), by decide +kernel⟩, TX0, 4, rfl⟩
abbrev mX0_forgetFirst : MI := (yX0_forgetFirst, cX0_forgetFirst, 1, none)
theorem moX0_forgetFirst : MOk mX0_forgetFirst 0 := ⟨List.mem_filter.mpr ⟨List.mem_of_getElem? (i := 501) (by decide +kernel), by decide +kernel⟩, List.mem_filter.mpr ⟨List.mem_of_getElem? (i := 46) (by decide +kernel), by decide +kernel⟩, ⟨by decide +kernel, by decide +kernel⟩, by decide +kernel, by decide⟩
theorem mvX0_forgetFirst : MV mX0_forgetFirst 0 0 := ⟨moX0_forgetFirst, List.mem_filter.mpr ⟨List.mem_of_getElem? (i := 500) (by decide +kernel), by decide +kernel⟩, List.mem_filter.mpr ⟨List.mem_of_getElem? (i := 13) (by decide +kernel), by decide +kernel⟩, TX0, 4, rfl⟩
abbrev mX8_change : MI := (yX8_change, cX8_change, 2, some (FieldType.int))
theorem moX8_change : MOk mX8_change 1 := ⟨List.mem_filter.mpr ⟨List.mem_of_getElem? (i := 506) (by decide +kernel), by decide +kernel⟩, List.mem_filter.mpr ⟨List.mem_of_getElem? (i := 42) (by decide +kernel), by decide +kernel⟩, ⟨by decide +kernel, by decide +kernel⟩, by decide +kernel, by decide⟩
theorem mvX8_change : MV mX8_change 1 8 := ⟨moX8_change, List.mem_filter.mpr ⟨List.mem_of_getElem? (i := 504) (by decide +kernel), by decide +kernel⟩, List.mem_filter.mpr ⟨List.mem_of_getElem? (i := 505) (by decide +kernel), by decide +kernel⟩, TX8, 13, rfl⟩
abbrev mX4_swapAtWire : MI := (yX4_swapAtWire, cX4_swapAtWire, 4, some (FieldType.boolean))
theorem moX4_swapAtWire : MOk mX4_swapAtWire 1 := ⟨List.mem_filter.mpr ⟨List.mem_of_getElem? (i := 510) (by decide +kernel), by decide +kernel⟩, List.mem_filter.mpr ⟨List.mem_of_getElem? (i := 45) (by decide +kernel), by decide +kernel⟩, ⟨by decide +kernel, by decide +kernel⟩, by decide +kernel, by decide⟩
theorem mvX4_swapAtWire : MV mX4_swapAtWire 1 4 := ⟨moX4_swapAtWire, List.mem_filter.mpr ⟨List.mem_of_getElem? (i := 508) (by decide +kernel), by decide +kernel⟩, List.mem_filter.mpr ⟨List.mem_of_getElem? (i := 509) (by decide +kernel), by decide +kernel⟩, TX4, 4, rfl⟩
abbrev mX8_join : MI := (yX8_join, cX8_join, 1, some (FieldType.int))
theorem moX8_join : MOk mX8_join 0 := ⟨List.mem_filter.mpr ⟨List.mem_of_getElem? (i := 514) (by decide +kernel), by decide +kernel⟩, List.mem_filter.mpr ⟨List.mem_of_getElem? (i := 42) (by decide +kernel), by decide +kernel⟩, ⟨by decide +kernel, by decide +kernel⟩, by decide +kernel, by decide⟩
theorem mvX8_join : MV mX8_join 0 8 := ⟨moX8_join, List.mem_filter.mpr ⟨List.mem_of_getElem? (i := 512) (by decide +kernel), by decide +kernel⟩, List.mem_filter.mpr ⟨List.mem_of_getElem? (i := 513) (by decide +kernel), by decide +kernel⟩, TX8, 13, rfl⟩
abbrev mX4_joinFaces : MI := (yX4_joinFaces, cX4_joinFaces, 1, none)
theorem moX4_joinFaces : MOk mX4_joinFaces 0 := ⟨List.mem_filter.mpr ⟨List.mem_of_getElem? (i := 518) (by decide +kernel), by decide +kernel⟩, List.mem_filter.mpr ⟨List.mem_of_getElem? (i := 45) (by decide +kernel), by decide +kernel⟩, ⟨by decide +kernel, by decide +kernel⟩, by decide +kernel, by decide⟩
theorem mvX4_joinFaces : MV mX4_joinFaces 0 4 := ⟨moX4_joinFaces, List.mem_filter.mpr ⟨List.mem_of_getElem? (i := 516) (by decide +kernel), by decide +kernel⟩, List.mem_filter.mpr ⟨List.mem_of_getElem? (i := 517) (by decide +kernel), by decide +kernel⟩, TX4, 4, rfl⟩
abbrev mX8_undo : MI := (yX8_undo, cX8_undo, 1, some (FieldType.int))
theorem moX8_undo : MOk mX8_undo 0 := ⟨List.mem_filter.mpr ⟨List.mem_of_getElem? (i := 523) (by decide +kernel), by decide +kernel⟩, List.mem_filter.mpr ⟨List.mem_of_getElem? (i := 42) (by decide +kernel), by decide +kernel⟩, ⟨by decide +kernel, by decide +kernel⟩, by decide +kernel, by decide⟩
theorem mvX8_undo : MV mX8_undo 0 8 := ⟨moX8_undo, List.mem_filter.mpr ⟨List.mem_of_getElem? (i := 521) (by decide +kernel), by decide +kernel⟩, List.mem_filter.mpr ⟨List.mem_of_getElem? (i := 522) (by decide +kernel), by decide +kernel⟩, TX8, 13, rfl⟩
abbrev mX0_takeBack : MI := (yX0_takeBack, cX0_takeBack, 2, none)
theorem moX0_takeBack : MOk mX0_takeBack 1 := ⟨List.mem_filter.mpr ⟨List.mem_of_getElem? (i := 527) (by decide +kernel), by decide +kernel⟩, List.mem_filter.mpr ⟨List.mem_of_getElem? (i := 46) (by decide +kernel), by decide +kernel⟩, ⟨by decide +kernel, by decide +kernel⟩, by decide +kernel, by decide⟩
theorem mvX0_takeBack : MV mX0_takeBack 1 0 := ⟨moX0_takeBack, List.mem_filter.mpr ⟨List.mem_of_getElem? (i := 525) (by decide +kernel), by decide +kernel⟩, List.mem_filter.mpr ⟨List.mem_of_getElem? (i := 526) (by decide +kernel), by decide +kernel⟩, TX0, 4, rfl⟩
abbrev mX4_setWire : MI := (yX4_setWire, cX4_setWire, 4, none)
theorem moX4_setWire : MOk mX4_setWire 1 := ⟨List.mem_filter.mpr ⟨List.mem_of_getElem? (i := 531) (by decide +kernel), by decide +kernel⟩, List.mem_filter.mpr ⟨List.mem_of_getElem? (i := 45) (by decide +kernel), by decide +kernel⟩, ⟨by decide +kernel, by decide +kernel⟩, by decide +kernel, by decide⟩
theorem mvX4_setWire : MV mX4_setWire 1 4 := ⟨moX4_setWire, List.mem_filter.mpr ⟨List.mem_of_getElem? (i := 529) (by decide +kernel), by decide +kernel⟩, List.mem_filter.mpr ⟨List.mem_of_getElem? (i := 530) (by decide +kernel), by decide +kernel⟩, TX4, 4, rfl⟩
abbrev mX8_best : MI := (yX8_best, cX8_best, 5, some (FieldType.int))
theorem moX8_best : MOk mX8_best 1 := ⟨List.mem_filter.mpr ⟨List.mem_of_getElem? (i := 536) (by decide +kernel), by decide +kernel⟩, List.mem_filter.mpr ⟨List.mem_of_getElem? (i := 42) (by decide +kernel), by decide +kernel⟩, ⟨by decide +kernel, by decide +kernel⟩, by decide +kernel, by decide⟩
theorem mvX8_best : MV mX8_best 1 8 := ⟨moX8_best, List.mem_filter.mpr ⟨List.mem_of_getElem? (i := 534) (by decide +kernel), by decide +kernel⟩, List.mem_filter.mpr ⟨List.mem_of_getElem? (i := 535) (by decide +kernel), by decide +kernel⟩, TX8, 13, rfl⟩
abbrev mX2_begin : MI := (yX2_begin, cX2_begin, 1, none)
theorem moX2_begin : MOk mX2_begin 0 := ⟨List.mem_filter.mpr ⟨List.mem_of_getElem? (i := 540) (by decide +kernel), by decide +kernel⟩, List.mem_filter.mpr ⟨List.mem_of_getElem? (i := 50) (by decide +kernel), by decide +kernel⟩, ⟨by decide +kernel, by decide +kernel⟩, by decide +kernel, by decide⟩
theorem mvX2_begin : MV mX2_begin 0 2 := ⟨moX2_begin, List.mem_filter.mpr ⟨List.mem_of_getElem? (i := 538) (by decide +kernel), by decide +kernel⟩, List.mem_filter.mpr ⟨List.mem_of_getElem? (i := 539) (by decide +kernel), by decide +kernel⟩, TX2, 3, rfl⟩
abbrev mX5_deedCount : MI := (yX5_deedCount, cX5_deedCount, 2, some (FieldType.int))
theorem moX5_deedCount : MOk mX5_deedCount 1 := ⟨List.mem_filter.mpr ⟨List.mem_of_getElem? (i := 544) (by decide +kernel), by decide +kernel⟩, List.mem_filter.mpr ⟨List.mem_of_getElem? (i := 47) (by decide +kernel), by decide +kernel⟩, ⟨by decide +kernel, by decide +kernel⟩, by decide +kernel, by decide⟩
theorem mvX5_deedCount : MV mX5_deedCount 1 5 := ⟨moX5_deedCount, List.mem_filter.mpr ⟨List.mem_of_getElem? (i := 542) (by decide +kernel), by decide +kernel⟩, List.mem_filter.mpr ⟨List.mem_of_getElem? (i := 543) (by decide +kernel), by decide +kernel⟩, TX5, 3, rfl⟩
abbrev mJ6_bitCount_0f7a4 : MI := (yJ6_bitCount_0f7a4, cJ6_bitCount_0f7a4, 1, some (FieldType.int))
theorem moJ6_bitCount_0f7a4 : MOk mJ6_bitCount_0f7a4 1 := ⟨List.mem_filter.mpr ⟨List.mem_of_getElem? (i := 548) (by decide +kernel), by decide +kernel⟩, List.mem_filter.mpr ⟨List.mem_of_getElem? (i := 55) (by decide +kernel), by decide +kernel⟩, ⟨by decide +kernel, by decide +kernel⟩, by decide +kernel, by decide⟩
theorem msJ6_bitCount_0f7a4 : MS mJ6_bitCount_0f7a4 1 := ⟨moJ6_bitCount_0f7a4, List.mem_filter.mpr ⟨List.mem_of_getElem? (i := 547) (by decide +kernel), by decide +kernel⟩⟩
abbrev mX5_partedCount : MI := (yX5_partedCount, cX5_partedCount, 1, some (FieldType.int))
theorem moX5_partedCount : MOk mX5_partedCount 0 := ⟨List.mem_filter.mpr ⟨List.mem_of_getElem? (i := 555) (by decide +kernel), by decide +kernel⟩, List.mem_filter.mpr ⟨List.mem_of_getElem? (i := 47) (by decide +kernel), by decide +kernel⟩, ⟨by decide +kernel, by decide +kernel⟩, by decide +kernel, by decide⟩
theorem mvX5_partedCount : MV mX5_partedCount 0 5 := ⟨moX5_partedCount, List.mem_filter.mpr ⟨List.mem_of_getElem? (i := 553) (by decide +kernel), by decide +kernel⟩, List.mem_filter.mpr ⟨List.mem_of_getElem? (i := 554) (by decide +kernel), by decide +kernel⟩, TX5, 3, rfl⟩
abbrev mX7_figures : MI := (yX7_figures, cX7_figures, 1, some (FieldType.int))
theorem moX7_figures : MOk mX7_figures 0 := ⟨List.mem_filter.mpr ⟨List.mem_of_getElem? (i := 560) (by decide +kernel), by decide +kernel⟩, List.mem_filter.mpr ⟨List.mem_of_getElem? (i := 49) (by decide +kernel), by decide +kernel⟩, ⟨by decide +kernel, by decide +kernel⟩, by decide +kernel, by decide⟩
theorem mvX7_figures : MV mX7_figures 0 7 := ⟨moX7_figures, List.mem_filter.mpr ⟨List.mem_of_getElem? (i := 558) (by decide +kernel), by decide +kernel⟩, List.mem_filter.mpr ⟨List.mem_of_getElem? (i := 559) (by decide +kernel), by decide +kernel⟩, TX7, 3, rfl⟩
abbrev mX2_offer : MI := (yX2_offer, cX2_offer, 3, none)
theorem moX2_offer : MOk mX2_offer 2 := ⟨List.mem_filter.mpr ⟨List.mem_of_getElem? (i := 565) (by decide +kernel), by decide +kernel⟩, List.mem_filter.mpr ⟨List.mem_of_getElem? (i := 50) (by decide +kernel), by decide +kernel⟩, ⟨by decide +kernel, by decide +kernel⟩, by decide +kernel, by decide⟩
theorem mvX2_offer : MV mX2_offer 2 2 := ⟨moX2_offer, List.mem_filter.mpr ⟨List.mem_of_getElem? (i := 563) (by decide +kernel), by decide +kernel⟩, List.mem_filter.mpr ⟨List.mem_of_getElem? (i := 564) (by decide +kernel), by decide +kernel⟩, TX2, 3, rfl⟩
abbrev mX8_fewest : MI := (yX8_fewest, cX8_fewest, 4, some (FieldType.int))
theorem moX8_fewest : MOk mX8_fewest 2 := ⟨List.mem_filter.mpr ⟨List.mem_of_getElem? (i := 569) (by decide +kernel), by decide +kernel⟩, List.mem_filter.mpr ⟨List.mem_of_getElem? (i := 42) (by decide +kernel), by decide +kernel⟩, ⟨by decide +kernel, by decide +kernel⟩, by decide +kernel, by decide⟩
theorem mvX8_fewest : MV mX8_fewest 2 8 := ⟨moX8_fewest, List.mem_filter.mpr ⟨List.mem_of_getElem? (i := 567) (by decide +kernel), by decide +kernel⟩, List.mem_filter.mpr ⟨List.mem_of_getElem? (i := 568) (by decide +kernel), by decide +kernel⟩, TX8, 13, rfl⟩
abbrev mX8_isDeed : MI := (yX8_isDeed, cX8_isDeed, 2, some (FieldType.boolean))
theorem moX8_isDeed : MOk mX8_isDeed 1 := ⟨List.mem_filter.mpr ⟨List.mem_of_getElem? (i := 573) (by decide +kernel), by decide +kernel⟩, List.mem_filter.mpr ⟨List.mem_of_getElem? (i := 42) (by decide +kernel), by decide +kernel⟩, ⟨by decide +kernel, by decide +kernel⟩, by decide +kernel, by decide⟩
theorem mvX8_isDeed : MV mX8_isDeed 1 8 := ⟨moX8_isDeed, List.mem_filter.mpr ⟨List.mem_of_getElem? (i := 572) (by decide +kernel), by decide +kernel⟩, List.mem_filter.mpr ⟨List.mem_of_getElem? (i := 14) (by decide +kernel), by decide +kernel⟩, TX8, 13, rfl⟩
abbrev mX8_fair : MI := (yX8_fair, cX8_fair, 5, some (FieldType.int))
theorem moX8_fair : MOk mX8_fair 3 := ⟨List.mem_filter.mpr ⟨List.mem_of_getElem? (i := 578) (by decide +kernel), by decide +kernel⟩, List.mem_filter.mpr ⟨List.mem_of_getElem? (i := 42) (by decide +kernel), by decide +kernel⟩, ⟨by decide +kernel, by decide +kernel⟩, by decide +kernel, by decide⟩
theorem mvX8_fair : MV mX8_fair 3 8 := ⟨moX8_fair, List.mem_filter.mpr ⟨List.mem_of_getElem? (i := 576) (by decide +kernel), by decide +kernel⟩, List.mem_filter.mpr ⟨List.mem_of_getElem? (i := 577) (by decide +kernel), by decide +kernel⟩, TX8, 13, rfl⟩
abbrev mX8_isWorth : MI := (yX8_isWorth, cX8_isWorth, 1, some (FieldType.boolean))
theorem moX8_isWorth : MOk mX8_isWorth 1 := ⟨List.mem_filter.mpr ⟨List.mem_of_getElem? (i := 581) (by decide +kernel), by decide +kernel⟩, List.mem_filter.mpr ⟨List.mem_of_getElem? (i := 42) (by decide +kernel), by decide +kernel⟩, ⟨by decide +kernel, by decide +kernel⟩, by decide +kernel, by decide⟩
theorem msX8_isWorth : MS mX8_isWorth 1 := ⟨moX8_isWorth, List.mem_filter.mpr ⟨List.mem_of_getElem? (i := 580) (by decide +kernel), by decide +kernel⟩⟩
abbrev mX5_worth : MI := (yX5_worth, cX5_worth, 6, some (FieldType.int))
theorem moX5_worth : MOk mX5_worth 2 := ⟨List.mem_filter.mpr ⟨List.mem_of_getElem? (i := 585) (by decide +kernel), by decide +kernel⟩, List.mem_filter.mpr ⟨List.mem_of_getElem? (i := 47) (by decide +kernel), by decide +kernel⟩, ⟨by decide +kernel, by decide +kernel⟩, by decide +kernel, by decide⟩
theorem mvX5_worth : MV mX5_worth 2 5 := ⟨moX5_worth, List.mem_filter.mpr ⟨List.mem_of_getElem? (i := 583) (by decide +kernel), by decide +kernel⟩, List.mem_filter.mpr ⟨List.mem_of_getElem? (i := 584) (by decide +kernel), by decide +kernel⟩, TX5, 3, rfl⟩
abbrev mX8_judge : MI := (yX8_judge, cX8_judge, 6, some (FieldType.int))
theorem moX8_judge : MOk mX8_judge 2 := ⟨List.mem_filter.mpr ⟨List.mem_of_getElem? (i := 589) (by decide +kernel), by decide +kernel⟩, List.mem_filter.mpr ⟨List.mem_of_getElem? (i := 42) (by decide +kernel), by decide +kernel⟩, ⟨by decide +kernel, by decide +kernel⟩, by decide +kernel, by decide⟩
theorem mvX8_judge : MV mX8_judge 2 8 := ⟨moX8_judge, List.mem_filter.mpr ⟨List.mem_of_getElem? (i := 587) (by decide +kernel), by decide +kernel⟩, List.mem_filter.mpr ⟨List.mem_of_getElem? (i := 588) (by decide +kernel), by decide +kernel⟩, TX8, 13, rfl⟩
abbrev mX4_copyOf : MI := (yX4_copyOf, cX4_copyOf, 2, none)
theorem moX4_copyOf : MOk mX4_copyOf 1 := ⟨List.mem_filter.mpr ⟨List.mem_of_getElem? (i := 593) (by decide +kernel), by decide +kernel⟩, List.mem_filter.mpr ⟨List.mem_of_getElem? (i := 45) (by decide +kernel), by decide +kernel⟩, ⟨by decide +kernel, by decide +kernel⟩, by decide +kernel, by decide⟩
theorem mvX4_copyOf : MV mX4_copyOf 1 4 := ⟨moX4_copyOf, List.mem_filter.mpr ⟨List.mem_of_getElem? (i := 591) (by decide +kernel), by decide +kernel⟩, List.mem_filter.mpr ⟨List.mem_of_getElem? (i := 592) (by decide +kernel), by decide +kernel⟩, TX4, 4, rfl⟩
abbrev mX4_act : MI := (yX4_act, cX4_act, 3, some (FieldType.boolean))
theorem moX4_act : MOk mX4_act 2 := ⟨List.mem_filter.mpr ⟨List.mem_of_getElem? (i := 597) (by decide +kernel), by decide +kernel⟩, List.mem_filter.mpr ⟨List.mem_of_getElem? (i := 45) (by decide +kernel), by decide +kernel⟩, ⟨by decide +kernel, by decide +kernel⟩, by decide +kernel, by decide⟩
theorem mvX4_act : MV mX4_act 2 4 := ⟨moX4_act, List.mem_filter.mpr ⟨List.mem_of_getElem? (i := 595) (by decide +kernel), by decide +kernel⟩, List.mem_filter.mpr ⟨List.mem_of_getElem? (i := 596) (by decide +kernel), by decide +kernel⟩, TX4, 4, rfl⟩
abbrev mX8_share : MI := (yX8_share, cX8_share, 7, some (FieldType.int))
theorem moX8_share : MOk mX8_share 3 := ⟨List.mem_filter.mpr ⟨List.mem_of_getElem? (i := 604) (by decide +kernel), by decide +kernel⟩, List.mem_filter.mpr ⟨List.mem_of_getElem? (i := 42) (by decide +kernel), by decide +kernel⟩, ⟨by decide +kernel, by decide +kernel⟩, by decide +kernel, by decide⟩
theorem mvX8_share : MV mX8_share 3 8 := ⟨moX8_share, List.mem_filter.mpr ⟨List.mem_of_getElem? (i := 602) (by decide +kernel), by decide +kernel⟩, List.mem_filter.mpr ⟨List.mem_of_getElem? (i := 603) (by decide +kernel), by decide +kernel⟩, TX8, 13, rfl⟩
abbrev mX8_ordersWith : MI := (yX8_ordersWith, cX8_ordersWith, 3, some (FieldType.int))
theorem moX8_ordersWith : MOk mX8_ordersWith 1 := ⟨List.mem_filter.mpr ⟨List.mem_of_getElem? (i := 609) (by decide +kernel), by decide +kernel⟩, List.mem_filter.mpr ⟨List.mem_of_getElem? (i := 42) (by decide +kernel), by decide +kernel⟩, ⟨by decide +kernel, by decide +kernel⟩, by decide +kernel, by decide⟩
theorem mvX8_ordersWith : MV mX8_ordersWith 1 8 := ⟨moX8_ordersWith, List.mem_filter.mpr ⟨List.mem_of_getElem? (i := 608) (by decide +kernel), by decide +kernel⟩, List.mem_filter.mpr ⟨List.mem_of_getElem? (i := 15) (by decide +kernel), by decide +kernel⟩, TX8, 13, rfl⟩
abbrev mX8_fraction : MI := (yX8_fraction, cX8_fraction, 4, some (FieldType.int))
theorem moX8_fraction : MOk mX8_fraction 3 := ⟨List.mem_filter.mpr ⟨List.mem_of_getElem? (i := 614) (by decide +kernel), by decide +kernel⟩, List.mem_filter.mpr ⟨List.mem_of_getElem? (i := 42) (by decide +kernel), by decide +kernel⟩, ⟨by decide +kernel, by decide +kernel⟩, by decide +kernel, by decide⟩
theorem msX8_fraction : MS mX8_fraction 3 := ⟨moX8_fraction, List.mem_filter.mpr ⟨List.mem_of_getElem? (i := 613) (by decide +kernel), by decide +kernel⟩⟩
abbrev mX8_commonDivisor : MI := (yX8_commonDivisor, cX8_commonDivisor, 6, some (FieldType.int))
theorem moX8_commonDivisor : MOk mX8_commonDivisor 2 := ⟨List.mem_filter.mpr ⟨List.mem_of_getElem? (i := 617) (by decide +kernel), by decide +kernel⟩, List.mem_filter.mpr ⟨List.mem_of_getElem? (i := 42) (by decide +kernel), by decide +kernel⟩, ⟨by decide +kernel, by decide +kernel⟩, by decide +kernel, by decide⟩
theorem msX8_commonDivisor : MS mX8_commonDivisor 2 := ⟨moX8_commonDivisor, List.mem_filter.mpr ⟨List.mem_of_getElem? (i := 616) (by decide +kernel), by decide +kernel⟩⟩
abbrev mX8_see : MI := (yX8_see, cX8_see, 3, some (FieldType.int))
theorem moX8_see : MOk mX8_see 2 := ⟨List.mem_filter.mpr ⟨List.mem_of_getElem? (i := 621) (by decide +kernel), by decide +kernel⟩, List.mem_filter.mpr ⟨List.mem_of_getElem? (i := 42) (by decide +kernel), by decide +kernel⟩, ⟨by decide +kernel, by decide +kernel⟩, by decide +kernel, by decide⟩
theorem mvX8_see : MV mX8_see 2 8 := ⟨moX8_see, List.mem_filter.mpr ⟨List.mem_of_getElem? (i := 619) (by decide +kernel), by decide +kernel⟩, List.mem_filter.mpr ⟨List.mem_of_getElem? (i := 620) (by decide +kernel), by decide +kernel⟩, TX8, 13, rfl⟩
abbrev mX3_append : MI := (yX3_append, cX3_append, 3, some (FieldType.boolean))
theorem moX3_append : MOk mX3_append 2 := ⟨List.mem_filter.mpr ⟨List.mem_of_getElem? (i := 625) (by decide +kernel), by decide +kernel⟩, List.mem_filter.mpr ⟨List.mem_of_getElem? (i := 48) (by decide +kernel), by decide +kernel⟩, ⟨by decide +kernel, by decide +kernel⟩, by decide +kernel, by decide⟩
theorem mvX3_append : MV mX3_append 2 3 := ⟨moX3_append, List.mem_filter.mpr ⟨List.mem_of_getElem? (i := 623) (by decide +kernel), by decide +kernel⟩, List.mem_filter.mpr ⟨List.mem_of_getElem? (i := 624) (by decide +kernel), by decide +kernel⟩, TX3, 3, rfl⟩
abbrev mX8_unsee : MI := (yX8_unsee, cX8_unsee, 2, some (FieldType.int))
theorem moX8_unsee : MOk mX8_unsee 0 := ⟨List.mem_filter.mpr ⟨List.mem_of_getElem? (i := 629) (by decide +kernel), by decide +kernel⟩, List.mem_filter.mpr ⟨List.mem_of_getElem? (i := 42) (by decide +kernel), by decide +kernel⟩, ⟨by decide +kernel, by decide +kernel⟩, by decide +kernel, by decide⟩
theorem mvX8_unsee : MV mX8_unsee 0 8 := ⟨moX8_unsee, List.mem_filter.mpr ⟨List.mem_of_getElem? (i := 627) (by decide +kernel), by decide +kernel⟩, List.mem_filter.mpr ⟨List.mem_of_getElem? (i := 628) (by decide +kernel), by decide +kernel⟩, TX8, 13, rfl⟩
abbrev mX8_traces : MI := (yX8_traces, cX8_traces, 3, some (FieldType.int))
theorem moX8_traces : MOk mX8_traces 1 := ⟨List.mem_filter.mpr ⟨List.mem_of_getElem? (i := 633) (by decide +kernel), by decide +kernel⟩, List.mem_filter.mpr ⟨List.mem_of_getElem? (i := 42) (by decide +kernel), by decide +kernel⟩, ⟨by decide +kernel, by decide +kernel⟩, by decide +kernel, by decide⟩
theorem mvX8_traces : MV mX8_traces 1 8 := ⟨moX8_traces, List.mem_filter.mpr ⟨List.mem_of_getElem? (i := 631) (by decide +kernel), by decide +kernel⟩, List.mem_filter.mpr ⟨List.mem_of_getElem? (i := 632) (by decide +kernel), by decide +kernel⟩, TX8, 13, rfl⟩
abbrev mX3_agreesWith : MI := (yX3_agreesWith, cX3_agreesWith, 4, some (FieldType.boolean))
theorem moX3_agreesWith : MOk mX3_agreesWith 2 := ⟨List.mem_filter.mpr ⟨List.mem_of_getElem? (i := 637) (by decide +kernel), by decide +kernel⟩, List.mem_filter.mpr ⟨List.mem_of_getElem? (i := 48) (by decide +kernel), by decide +kernel⟩, ⟨by decide +kernel, by decide +kernel⟩, by decide +kernel, by decide⟩
theorem mvX3_agreesWith : MV mX3_agreesWith 2 3 := ⟨moX3_agreesWith, List.mem_filter.mpr ⟨List.mem_of_getElem? (i := 635) (by decide +kernel), by decide +kernel⟩, List.mem_filter.mpr ⟨List.mem_of_getElem? (i := 636) (by decide +kernel), by decide +kernel⟩, TX3, 3, rfl⟩
abbrev mX3_isSo : MI := (yX3_isSo, cX3_isSo, 5, some (FieldType.boolean))
theorem moX3_isSo : MOk mX3_isSo 3 := ⟨List.mem_filter.mpr ⟨List.mem_of_getElem? (i := 640) (by decide +kernel), by decide +kernel⟩, List.mem_filter.mpr ⟨List.mem_of_getElem? (i := 48) (by decide +kernel), by decide +kernel⟩, ⟨by decide +kernel, by decide +kernel⟩, by decide +kernel, by decide⟩
theorem msX3_isSo : MS mX3_isSo 3 := ⟨moX3_isSo, List.mem_filter.mpr ⟨List.mem_of_getElem? (i := 639) (by decide +kernel), by decide +kernel⟩⟩
abbrev mX8_rests : MI := (yX8_rests, cX8_rests, 4, some (FieldType.int))
theorem moX8_rests : MOk mX8_rests 1 := ⟨List.mem_filter.mpr ⟨List.mem_of_getElem? (i := 645) (by decide +kernel), by decide +kernel⟩, List.mem_filter.mpr ⟨List.mem_of_getElem? (i := 42) (by decide +kernel), by decide +kernel⟩, ⟨by decide +kernel, by decide +kernel⟩, by decide +kernel, by decide⟩
theorem mvX8_rests : MV mX8_rests 1 8 := ⟨moX8_rests, List.mem_filter.mpr ⟨List.mem_of_getElem? (i := 643) (by decide +kernel), by decide +kernel⟩, List.mem_filter.mpr ⟨List.mem_of_getElem? (i := 644) (by decide +kernel), by decide +kernel⟩, TX8, 13, rfl⟩
abbrev mX8_isAtRest : MI := (yX8_isAtRest, cX8_isAtRest, 3, some (FieldType.boolean))
theorem moX8_isAtRest : MOk mX8_isAtRest 2 := ⟨List.mem_filter.mpr ⟨List.mem_of_getElem? (i := 649) (by decide +kernel), by decide +kernel⟩, List.mem_filter.mpr ⟨List.mem_of_getElem? (i := 42) (by decide +kernel), by decide +kernel⟩, ⟨by decide +kernel, by decide +kernel⟩, by decide +kernel, by decide⟩
theorem mvX8_isAtRest : MV mX8_isAtRest 2 8 := ⟨moX8_isAtRest, List.mem_filter.mpr ⟨List.mem_of_getElem? (i := 648) (by decide +kernel), by decide +kernel⟩, List.mem_filter.mpr ⟨List.mem_of_getElem? (i := 16) (by decide +kernel), by decide +kernel⟩, TX8, 13, rfl⟩
abbrev mX8_holding : MI := (yX8_holding, cX8_holding, 6, some (FieldType.int))
theorem moX8_holding : MOk mX8_holding 3 := ⟨List.mem_filter.mpr ⟨List.mem_of_getElem? (i := 653) (by decide +kernel), by decide +kernel⟩, List.mem_filter.mpr ⟨List.mem_of_getElem? (i := 42) (by decide +kernel), by decide +kernel⟩, ⟨by decide +kernel, by decide +kernel⟩, by decide +kernel, by decide⟩
theorem mvX8_holding : MV mX8_holding 3 8 := ⟨moX8_holding, List.mem_filter.mpr ⟨List.mem_of_getElem? (i := 652) (by decide +kernel), by decide +kernel⟩, List.mem_filter.mpr ⟨List.mem_of_getElem? (i := 17) (by decide +kernel), by decide +kernel⟩, TX8, 13, rfl⟩
abbrev mX8_slips : MI := (yX8_slips, cX8_slips, 11, some (FieldType.int))
theorem moX8_slips : MOk mX8_slips 4 := ⟨List.mem_filter.mpr ⟨List.mem_of_getElem? (i := 659) (by decide +kernel), by decide +kernel⟩, List.mem_filter.mpr ⟨List.mem_of_getElem? (i := 42) (by decide +kernel), by decide +kernel⟩, ⟨by decide +kernel, by decide +kernel⟩, by decide +kernel, by decide⟩
theorem mvX8_slips : MV mX8_slips 4 8 := ⟨moX8_slips, List.mem_filter.mpr ⟨List.mem_of_getElem? (i := 657) (by decide +kernel), by decide +kernel⟩, List.mem_filter.mpr ⟨List.mem_of_getElem? (i := 658) (by decide +kernel), by decide +kernel⟩, TX8, 13, rfl⟩
abbrev mX8_seed : MI := (yX8_seed, cX8_seed, 5, some (FieldType.long))
theorem moX8_seed : MOk mX8_seed 1 := ⟨List.mem_filter.mpr ⟨List.mem_of_getElem? (i := 663) (by decide +kernel), by decide +kernel⟩, List.mem_filter.mpr ⟨List.mem_of_getElem? (i := 42) (by decide +kernel), by decide +kernel⟩, ⟨by decide +kernel, by decide +kernel⟩, by decide +kernel, by decide⟩
theorem mvX8_seed : MV mX8_seed 1 8 := ⟨moX8_seed, List.mem_filter.mpr ⟨List.mem_of_getElem? (i := 661) (by decide +kernel), by decide +kernel⟩, List.mem_filter.mpr ⟨List.mem_of_getElem? (i := 662) (by decide +kernel), by decide +kernel⟩, TX8, 13, rfl⟩
abbrev mX8_years : MI := (yX8_years, cX8_years, 5, some (FieldType.int))
theorem moX8_years : MOk mX8_years 1 := ⟨List.mem_filter.mpr ⟨List.mem_of_getElem? (i := 667) (by decide +kernel), by decide +kernel⟩, List.mem_filter.mpr ⟨List.mem_of_getElem? (i := 42) (by decide +kernel), by decide +kernel⟩, ⟨by decide +kernel, by decide +kernel⟩, by decide +kernel, by decide⟩
theorem mvX8_years : MV mX8_years 1 8 := ⟨moX8_years, List.mem_filter.mpr ⟨List.mem_of_getElem? (i := 665) (by decide +kernel), by decide +kernel⟩, List.mem_filter.mpr ⟨List.mem_of_getElem? (i := 666) (by decide +kernel), by decide +kernel⟩, TX8, 13, rfl⟩
abbrev mX8_keep : MI := (yX8_keep, cX8_keep, 2, some (FieldType.int))
theorem moX8_keep : MOk mX8_keep 1 := ⟨List.mem_filter.mpr ⟨List.mem_of_getElem? (i := 674) (by decide +kernel), by decide +kernel⟩, List.mem_filter.mpr ⟨List.mem_of_getElem? (i := 42) (by decide +kernel), by decide +kernel⟩, ⟨by decide +kernel, by decide +kernel⟩, by decide +kernel, by decide⟩
theorem mvX8_keep : MV mX8_keep 1 8 := ⟨moX8_keep, List.mem_filter.mpr ⟨List.mem_of_getElem? (i := 672) (by decide +kernel), by decide +kernel⟩, List.mem_filter.mpr ⟨List.mem_of_getElem? (i := 673) (by decide +kernel), by decide +kernel⟩, TX8, 13, rfl⟩
abbrev mX8_again : MI := (yX8_again, cX8_again, 2, some (FieldType.int))
theorem moX8_again : MOk mX8_again 1 := ⟨List.mem_filter.mpr ⟨List.mem_of_getElem? (i := 678) (by decide +kernel), by decide +kernel⟩, List.mem_filter.mpr ⟨List.mem_of_getElem? (i := 42) (by decide +kernel), by decide +kernel⟩, ⟨by decide +kernel, by decide +kernel⟩, by decide +kernel, by decide⟩
theorem mvX8_again : MV mX8_again 1 8 := ⟨moX8_again, List.mem_filter.mpr ⟨List.mem_of_getElem? (i := 676) (by decide +kernel), by decide +kernel⟩, List.mem_filter.mpr ⟨List.mem_of_getElem? (i := 677) (by decide +kernel), by decide +kernel⟩, TX8, 13, rfl⟩
abbrev mX9_init : MI := (yX9_init, cX9_init, 1, none)
theorem moX9_init : MOk mX9_init 0 := ⟨List.mem_filter.mpr ⟨List.mem_of_getElem? (i := 683) (by decide +kernel), by decide +kernel⟩, List.mem_filter.mpr ⟨List.mem_of_getElem? (i := 51) (by decide +kernel), by decide +kernel⟩, ⟨by decide +kernel, by decide +kernel⟩, by decide +kernel, by decide⟩
abbrev mX9_write : MI := (yX9_write, cX9_write, 2, some (FieldType.int))
theorem moX9_write : MOk mX9_write 1 := ⟨List.mem_filter.mpr ⟨List.mem_of_getElem? (i := 794) (by decide +kernel), by decide +kernel⟩, List.mem_filter.mpr ⟨List.mem_of_getElem? (i := 51) (by decide +kernel), by decide +kernel⟩, ⟨by decide +kernel, by decide +kernel⟩, by decide +kernel, by decide⟩
theorem mvX9_write : MV mX9_write 1 9 := ⟨moX9_write, List.mem_filter.mpr ⟨List.mem_of_getElem? (i := 792) (by decide +kernel), by decide +kernel⟩, List.mem_filter.mpr ⟨List.mem_of_getElem? (i := 793) (by decide +kernel), by decide +kernel⟩, TX9, 35, rfl⟩
abbrev mX9_in : MI := (yX9_in, cX9_in, 6, some (FieldType.boolean))
theorem moX9_in : MOk mX9_in 3 := ⟨List.mem_filter.mpr ⟨List.mem_of_getElem? (i := 798) (by decide +kernel), by decide +kernel⟩, List.mem_filter.mpr ⟨List.mem_of_getElem? (i := 51) (by decide +kernel), by decide +kernel⟩, ⟨by decide +kernel, by decide +kernel⟩, by decide +kernel, by decide⟩
theorem msX9_in : MS mX9_in 3 := ⟨moX9_in, List.mem_filter.mpr ⟨List.mem_of_getElem? (i := 797) (by decide +kernel), by decide +kernel⟩⟩
abbrev mX9_wipe : MI := (yX9_wipe, cX9_wipe, 2, some (FieldType.int))
theorem moX9_wipe : MOk mX9_wipe 0 := ⟨List.mem_filter.mpr ⟨List.mem_of_getElem? (i := 802) (by decide +kernel), by decide +kernel⟩, List.mem_filter.mpr ⟨List.mem_of_getElem? (i := 51) (by decide +kernel), by decide +kernel⟩, ⟨by decide +kernel, by decide +kernel⟩, by decide +kernel, by decide⟩
theorem mvX9_wipe : MV mX9_wipe 0 9 := ⟨moX9_wipe, List.mem_filter.mpr ⟨List.mem_of_getElem? (i := 800) (by decide +kernel), by decide +kernel⟩, List.mem_filter.mpr ⟨List.mem_of_getElem? (i := 801) (by decide +kernel), by decide +kernel⟩, TX9, 35, rfl⟩
abbrev mX9_fault : MI := (yX9_fault, cX9_fault, 1, some (FieldType.int))
theorem moX9_fault : MOk mX9_fault 0 := ⟨List.mem_filter.mpr ⟨List.mem_of_getElem? (i := 806) (by decide +kernel), by decide +kernel⟩, List.mem_filter.mpr ⟨List.mem_of_getElem? (i := 51) (by decide +kernel), by decide +kernel⟩, ⟨by decide +kernel, by decide +kernel⟩, by decide +kernel, by decide⟩
theorem mvX9_fault : MV mX9_fault 0 9 := ⟨moX9_fault, List.mem_filter.mpr ⟨List.mem_of_getElem? (i := 804) (by decide +kernel), by decide +kernel⟩, List.mem_filter.mpr ⟨List.mem_of_getElem? (i := 805) (by decide +kernel), by decide +kernel⟩, TX9, 35, rfl⟩
abbrev mX9_readFamily : MI := (yX9_readFamily, cX9_readFamily, 1, some (FieldType.int))
theorem moX9_readFamily : MOk mX9_readFamily 0 := ⟨List.mem_filter.mpr ⟨List.mem_of_getElem? (i := 810) (by decide +kernel), by decide +kernel⟩, List.mem_filter.mpr ⟨List.mem_of_getElem? (i := 51) (by decide +kernel), by decide +kernel⟩, ⟨by decide +kernel, by decide +kernel⟩, by decide +kernel, by decide⟩
theorem mvX9_readFamily : MV mX9_readFamily 0 9 := ⟨moX9_readFamily, List.mem_filter.mpr ⟨List.mem_of_getElem? (i := 809) (by decide +kernel), by decide +kernel⟩, List.mem_filter.mpr ⟨List.mem_of_getElem? (i := 18) (by decide +kernel), by decide +kernel⟩, TX9, 35, rfl⟩
abbrev mX9_readThing : MI := (yX9_readThing, cX9_readThing, 2, some (FieldType.boolean))
theorem moX9_readThing : MOk mX9_readThing 0 := ⟨List.mem_filter.mpr ⟨List.mem_of_getElem? (i := 814) (by decide +kernel), by decide +kernel⟩, List.mem_filter.mpr ⟨List.mem_of_getElem? (i := 51) (by decide +kernel), by decide +kernel⟩, ⟨by decide +kernel, by decide +kernel⟩, by decide +kernel, by decide⟩
theorem mvX9_readThing : MV mX9_readThing 0 9 := ⟨moX9_readThing, List.mem_filter.mpr ⟨List.mem_of_getElem? (i := 813) (by decide +kernel), by decide +kernel⟩, List.mem_filter.mpr ⟨List.mem_of_getElem? (i := 19) (by decide +kernel), by decide +kernel⟩, TX9, 35, rfl⟩
abbrev mX9_readOneKin : MI := (yX9_readOneKin, cX9_readOneKin, 2, some (FieldType.boolean))
theorem moX9_readOneKin : MOk mX9_readOneKin 0 := ⟨List.mem_filter.mpr ⟨List.mem_of_getElem? (i := 818) (by decide +kernel), by decide +kernel⟩, List.mem_filter.mpr ⟨List.mem_of_getElem? (i := 51) (by decide +kernel), by decide +kernel⟩, ⟨by decide +kernel, by decide +kernel⟩, by decide +kernel, by decide⟩
theorem mvX9_readOneKin : MV mX9_readOneKin 0 9 := ⟨moX9_readOneKin, List.mem_filter.mpr ⟨List.mem_of_getElem? (i := 817) (by decide +kernel), by decide +kernel⟩, List.mem_filter.mpr ⟨List.mem_of_getElem? (i := 20) (by decide +kernel), by decide +kernel⟩, TX9, 35, rfl⟩
abbrev mX9_from : MI := (yX9_from, cX9_from, 4, some (FieldType.int))
theorem moX9_from : MOk mX9_from 3 := ⟨List.mem_filter.mpr ⟨List.mem_of_getElem? (i := 822) (by decide +kernel), by decide +kernel⟩, List.mem_filter.mpr ⟨List.mem_of_getElem? (i := 51) (by decide +kernel), by decide +kernel⟩, ⟨by decide +kernel, by decide +kernel⟩, by decide +kernel, by decide⟩
theorem mvX9_from : MV mX9_from 3 9 := ⟨moX9_from, List.mem_filter.mpr ⟨List.mem_of_getElem? (i := 821) (by decide +kernel), by decide +kernel⟩, List.mem_filter.mpr ⟨List.mem_of_getElem? (i := 21) (by decide +kernel), by decide +kernel⟩, TX9, 35, rfl⟩
abbrev mX9_readOneRow : MI := (yX9_readOneRow, cX9_readOneRow, 3, some (FieldType.boolean))
theorem moX9_readOneRow : MOk mX9_readOneRow 0 := ⟨List.mem_filter.mpr ⟨List.mem_of_getElem? (i := 826) (by decide +kernel), by decide +kernel⟩, List.mem_filter.mpr ⟨List.mem_of_getElem? (i := 51) (by decide +kernel), by decide +kernel⟩, ⟨by decide +kernel, by decide +kernel⟩, by decide +kernel, by decide⟩
theorem mvX9_readOneRow : MV mX9_readOneRow 0 9 := ⟨moX9_readOneRow, List.mem_filter.mpr ⟨List.mem_of_getElem? (i := 825) (by decide +kernel), by decide +kernel⟩, List.mem_filter.mpr ⟨List.mem_of_getElem? (i := 22) (by decide +kernel), by decide +kernel⟩, TX9, 35, rfl⟩
abbrev mX9_readOneDeed : MI := (yX9_readOneDeed, cX9_readOneDeed, 3, some (FieldType.boolean))
theorem moX9_readOneDeed : MOk mX9_readOneDeed 0 := ⟨List.mem_filter.mpr ⟨List.mem_of_getElem? (i := 830) (by decide +kernel), by decide +kernel⟩, List.mem_filter.mpr ⟨List.mem_of_getElem? (i := 51) (by decide +kernel), by decide +kernel⟩, ⟨by decide +kernel, by decide +kernel⟩, by decide +kernel, by decide⟩
theorem mvX9_readOneDeed : MV mX9_readOneDeed 0 9 := ⟨moX9_readOneDeed, List.mem_filter.mpr ⟨List.mem_of_getElem? (i := 829) (by decide +kernel), by decide +kernel⟩, List.mem_filter.mpr ⟨List.mem_of_getElem? (i := 23) (by decide +kernel), by decide +kernel⟩, TX9, 35, rfl⟩
abbrev mX9_family : MI := (yX9_family, cX9_family, 2, some (FieldType.int))
theorem moX9_family : MOk mX9_family 0 := ⟨List.mem_filter.mpr ⟨List.mem_of_getElem? (i := 834) (by decide +kernel), by decide +kernel⟩, List.mem_filter.mpr ⟨List.mem_of_getElem? (i := 51) (by decide +kernel), by decide +kernel⟩, ⟨by decide +kernel, by decide +kernel⟩, by decide +kernel, by decide⟩
theorem mvX9_family : MV mX9_family 0 9 := ⟨moX9_family, List.mem_filter.mpr ⟨List.mem_of_getElem? (i := 832) (by decide +kernel), by decide +kernel⟩, List.mem_filter.mpr ⟨List.mem_of_getElem? (i := 833) (by decide +kernel), by decide +kernel⟩, TX9, 35, rfl⟩
abbrev mX9_copyRow : MI := (yX9_copyRow, cX9_copyRow, 4, none)
theorem moX9_copyRow : MOk mX9_copyRow 3 := ⟨List.mem_filter.mpr ⟨List.mem_of_getElem? (i := 837) (by decide +kernel), by decide +kernel⟩, List.mem_filter.mpr ⟨List.mem_of_getElem? (i := 51) (by decide +kernel), by decide +kernel⟩, ⟨by decide +kernel, by decide +kernel⟩, by decide +kernel, by decide⟩
theorem msX9_copyRow : MS mX9_copyRow 3 := ⟨moX9_copyRow, List.mem_filter.mpr ⟨List.mem_of_getElem? (i := 836) (by decide +kernel), by decide +kernel⟩⟩
abbrev mX9_about : MI := (yX9_about, cX9_about, 2, some (FieldType.int))
theorem moX9_about : MOk mX9_about 1 := ⟨List.mem_filter.mpr ⟨List.mem_of_getElem? (i := 841) (by decide +kernel), by decide +kernel⟩, List.mem_filter.mpr ⟨List.mem_of_getElem? (i := 51) (by decide +kernel), by decide +kernel⟩, ⟨by decide +kernel, by decide +kernel⟩, by decide +kernel, by decide⟩
theorem mvX9_about : MV mX9_about 1 9 := ⟨moX9_about, List.mem_filter.mpr ⟨List.mem_of_getElem? (i := 839) (by decide +kernel), by decide +kernel⟩, List.mem_filter.mpr ⟨List.mem_of_getElem? (i := 840) (by decide +kernel), by decide +kernel⟩, TX9, 35, rfl⟩
abbrev mX9_layHalves : MI := (yX9_layHalves, cX9_layHalves, 5, none)
theorem moX9_layHalves : MOk mX9_layHalves 1 := ⟨List.mem_filter.mpr ⟨List.mem_of_getElem? (i := 845) (by decide +kernel), by decide +kernel⟩, List.mem_filter.mpr ⟨List.mem_of_getElem? (i := 51) (by decide +kernel), by decide +kernel⟩, ⟨by decide +kernel, by decide +kernel⟩, by decide +kernel, by decide⟩
theorem mvX9_layHalves : MV mX9_layHalves 1 9 := ⟨moX9_layHalves, List.mem_filter.mpr ⟨List.mem_of_getElem? (i := 844) (by decide +kernel), by decide +kernel⟩, List.mem_filter.mpr ⟨List.mem_of_getElem? (i := 24) (by decide +kernel), by decide +kernel⟩, TX9, 35, rfl⟩
abbrev mX9_figuresOf : MI := (yX9_figuresOf, cX9_figuresOf, 4, some (FieldType.int))
theorem moX9_figuresOf : MOk mX9_figuresOf 1 := ⟨List.mem_filter.mpr ⟨List.mem_of_getElem? (i := 849) (by decide +kernel), by decide +kernel⟩, List.mem_filter.mpr ⟨List.mem_of_getElem? (i := 51) (by decide +kernel), by decide +kernel⟩, ⟨by decide +kernel, by decide +kernel⟩, by decide +kernel, by decide⟩
theorem mvX9_figuresOf : MV mX9_figuresOf 1 9 := ⟨moX9_figuresOf, List.mem_filter.mpr ⟨List.mem_of_getElem? (i := 848) (by decide +kernel), by decide +kernel⟩, List.mem_filter.mpr ⟨List.mem_of_getElem? (i := 25) (by decide +kernel), by decide +kernel⟩, TX9, 35, rfl⟩
abbrev mX9_slipsOf : MI := (yX9_slipsOf, cX9_slipsOf, 4, some (FieldType.int))
theorem moX9_slipsOf : MOk mX9_slipsOf 1 := ⟨List.mem_filter.mpr ⟨List.mem_of_getElem? (i := 853) (by decide +kernel), by decide +kernel⟩, List.mem_filter.mpr ⟨List.mem_of_getElem? (i := 51) (by decide +kernel), by decide +kernel⟩, ⟨by decide +kernel, by decide +kernel⟩, by decide +kernel, by decide⟩
theorem mvX9_slipsOf : MV mX9_slipsOf 1 9 := ⟨moX9_slipsOf, List.mem_filter.mpr ⟨List.mem_of_getElem? (i := 852) (by decide +kernel), by decide +kernel⟩, List.mem_filter.mpr ⟨List.mem_of_getElem? (i := 26) (by decide +kernel), by decide +kernel⟩, TX9, 35, rfl⟩
abbrev mX9_partedLaid : MI := (yX9_partedLaid, cX9_partedLaid, 3, some (FieldType.int))
theorem moX9_partedLaid : MOk mX9_partedLaid 0 := ⟨List.mem_filter.mpr ⟨List.mem_of_getElem? (i := 857) (by decide +kernel), by decide +kernel⟩, List.mem_filter.mpr ⟨List.mem_of_getElem? (i := 51) (by decide +kernel), by decide +kernel⟩, ⟨by decide +kernel, by decide +kernel⟩, by decide +kernel, by decide⟩
theorem mvX9_partedLaid : MV mX9_partedLaid 0 9 := ⟨moX9_partedLaid, List.mem_filter.mpr ⟨List.mem_of_getElem? (i := 856) (by decide +kernel), by decide +kernel⟩, List.mem_filter.mpr ⟨List.mem_of_getElem? (i := 27) (by decide +kernel), by decide +kernel⟩, TX9, 35, rfl⟩
abbrev mX9_wires : MI := (yX9_wires, cX9_wires, 3, some (FieldType.int))
theorem moX9_wires : MOk mX9_wires 0 := ⟨List.mem_filter.mpr ⟨List.mem_of_getElem? (i := 861) (by decide +kernel), by decide +kernel⟩, List.mem_filter.mpr ⟨List.mem_of_getElem? (i := 51) (by decide +kernel), by decide +kernel⟩, ⟨by decide +kernel, by decide +kernel⟩, by decide +kernel, by decide⟩
theorem mvX9_wires : MV mX9_wires 0 9 := ⟨moX9_wires, List.mem_filter.mpr ⟨List.mem_of_getElem? (i := 860) (by decide +kernel), by decide +kernel⟩, List.mem_filter.mpr ⟨List.mem_of_getElem? (i := 28) (by decide +kernel), by decide +kernel⟩, TX9, 35, rfl⟩
abbrev mX9_power : MI := (yX9_power, cX9_power, 4, some (FieldType.int))
theorem moX9_power : MOk mX9_power 2 := ⟨List.mem_filter.mpr ⟨List.mem_of_getElem? (i := 864) (by decide +kernel), by decide +kernel⟩, List.mem_filter.mpr ⟨List.mem_of_getElem? (i := 51) (by decide +kernel), by decide +kernel⟩, ⟨by decide +kernel, by decide +kernel⟩, by decide +kernel, by decide⟩
theorem msX9_power : MS mX9_power 2 := ⟨moX9_power, List.mem_filter.mpr ⟨List.mem_of_getElem? (i := 863) (by decide +kernel), by decide +kernel⟩⟩
abbrev mX9_layWire : MI := (yX9_layWire, cX9_layWire, 4, some (FieldType.boolean))
theorem moX9_layWire : MOk mX9_layWire 1 := ⟨List.mem_filter.mpr ⟨List.mem_of_getElem? (i := 868) (by decide +kernel), by decide +kernel⟩, List.mem_filter.mpr ⟨List.mem_of_getElem? (i := 51) (by decide +kernel), by decide +kernel⟩, ⟨by decide +kernel, by decide +kernel⟩, by decide +kernel, by decide⟩
theorem mvX9_layWire : MV mX9_layWire 1 9 := ⟨moX9_layWire, List.mem_filter.mpr ⟨List.mem_of_getElem? (i := 867) (by decide +kernel), by decide +kernel⟩, List.mem_filter.mpr ⟨List.mem_of_getElem? (i := 29) (by decide +kernel), by decide +kernel⟩, TX9, 35, rfl⟩
abbrev mX9_cell : MI := (yX9_cell, cX9_cell, 5, some (FieldType.int))
theorem moX9_cell : MOk mX9_cell 3 := ⟨List.mem_filter.mpr ⟨List.mem_of_getElem? (i := 873) (by decide +kernel), by decide +kernel⟩, List.mem_filter.mpr ⟨List.mem_of_getElem? (i := 51) (by decide +kernel), by decide +kernel⟩, ⟨by decide +kernel, by decide +kernel⟩, by decide +kernel, by decide⟩
theorem mvX9_cell : MV mX9_cell 3 9 := ⟨moX9_cell, List.mem_filter.mpr ⟨List.mem_of_getElem? (i := 871) (by decide +kernel), by decide +kernel⟩, List.mem_filter.mpr ⟨List.mem_of_getElem? (i := 872) (by decide +kernel), by decide +kernel⟩, TX9, 35, rfl⟩
abbrev mX9_countsFor : MI := (yX9_countsFor, cX9_countsFor, 6, some (FieldType.int))
theorem moX9_countsFor : MOk mX9_countsFor 3 := ⟨List.mem_filter.mpr ⟨List.mem_of_getElem? (i := 878) (by decide +kernel), by decide +kernel⟩, List.mem_filter.mpr ⟨List.mem_of_getElem? (i := 51) (by decide +kernel), by decide +kernel⟩, ⟨by decide +kernel, by decide +kernel⟩, by decide +kernel, by decide⟩
theorem mvX9_countsFor : MV mX9_countsFor 3 9 := ⟨moX9_countsFor, List.mem_filter.mpr ⟨List.mem_of_getElem? (i := 877) (by decide +kernel), by decide +kernel⟩, List.mem_filter.mpr ⟨List.mem_of_getElem? (i := 30) (by decide +kernel), by decide +kernel⟩, TX9, 35, rfl⟩
abbrev mX9_kin : MI := (yX9_kin, cX9_kin, 3, some (FieldType.int))
theorem moX9_kin : MOk mX9_kin 2 := ⟨List.mem_filter.mpr ⟨List.mem_of_getElem? (i := 882) (by decide +kernel), by decide +kernel⟩, List.mem_filter.mpr ⟨List.mem_of_getElem? (i := 51) (by decide +kernel), by decide +kernel⟩, ⟨by decide +kernel, by decide +kernel⟩, by decide +kernel, by decide⟩
theorem mvX9_kin : MV mX9_kin 2 9 := ⟨moX9_kin, List.mem_filter.mpr ⟨List.mem_of_getElem? (i := 880) (by decide +kernel), by decide +kernel⟩, List.mem_filter.mpr ⟨List.mem_of_getElem? (i := 881) (by decide +kernel), by decide +kernel⟩, TX9, 35, rfl⟩
abbrev mX9_countsOf : MI := (yX9_countsOf, cX9_countsOf, 5, some (FieldType.int))
theorem moX9_countsOf : MOk mX9_countsOf 2 := ⟨List.mem_filter.mpr ⟨List.mem_of_getElem? (i := 886) (by decide +kernel), by decide +kernel⟩, List.mem_filter.mpr ⟨List.mem_of_getElem? (i := 51) (by decide +kernel), by decide +kernel⟩, ⟨by decide +kernel, by decide +kernel⟩, by decide +kernel, by decide⟩
theorem mvX9_countsOf : MV mX9_countsOf 2 9 := ⟨moX9_countsOf, List.mem_filter.mpr ⟨List.mem_of_getElem? (i := 885) (by decide +kernel), by decide +kernel⟩, List.mem_filter.mpr ⟨List.mem_of_getElem? (i := 31) (by decide +kernel), by decide +kernel⟩, TX9, 35, rfl⟩
abbrev mX9_countOf : MI := (yX9_countOf, cX9_countOf, 9, some (FieldType.int))
theorem moX9_countOf : MOk mX9_countOf 4 := ⟨List.mem_filter.mpr ⟨List.mem_of_getElem? (i := 890) (by decide +kernel), by decide +kernel⟩, List.mem_filter.mpr ⟨List.mem_of_getElem? (i := 51) (by decide +kernel), by decide +kernel⟩, ⟨by decide +kernel, by decide +kernel⟩, by decide +kernel, by decide⟩
theorem mvX9_countOf : MV mX9_countOf 4 9 := ⟨moX9_countOf, List.mem_filter.mpr ⟨List.mem_of_getElem? (i := 889) (by decide +kernel), by decide +kernel⟩, List.mem_filter.mpr ⟨List.mem_of_getElem? (i := 32) (by decide +kernel), by decide +kernel⟩, TX9, 35, rfl⟩
abbrev mX9_isIn : MI := (yX9_isIn, cX9_isIn, 2, some (FieldType.boolean))
theorem moX9_isIn : MOk mX9_isIn 2 := ⟨List.mem_filter.mpr ⟨List.mem_of_getElem? (i := 893) (by decide +kernel), by decide +kernel⟩, List.mem_filter.mpr ⟨List.mem_of_getElem? (i := 51) (by decide +kernel), by decide +kernel⟩, ⟨by decide +kernel, by decide +kernel⟩, by decide +kernel, by decide⟩
theorem msX9_isIn : MS mX9_isIn 2 := ⟨moX9_isIn, List.mem_filter.mpr ⟨List.mem_of_getElem? (i := 892) (by decide +kernel), by decide +kernel⟩⟩
abbrev mX9_has : MI := (yX9_has, cX9_has, 3, some (FieldType.int))
theorem moX9_has : MOk mX9_has 2 := ⟨List.mem_filter.mpr ⟨List.mem_of_getElem? (i := 897) (by decide +kernel), by decide +kernel⟩, List.mem_filter.mpr ⟨List.mem_of_getElem? (i := 51) (by decide +kernel), by decide +kernel⟩, ⟨by decide +kernel, by decide +kernel⟩, by decide +kernel, by decide⟩
theorem mvX9_has : MV mX9_has 2 9 := ⟨moX9_has, List.mem_filter.mpr ⟨List.mem_of_getElem? (i := 895) (by decide +kernel), by decide +kernel⟩, List.mem_filter.mpr ⟨List.mem_of_getElem? (i := 896) (by decide +kernel), by decide +kernel⟩, TX9, 35, rfl⟩
abbrev mX9_can : MI := (yX9_can, cX9_can, 2, some (FieldType.int))
theorem moX9_can : MOk mX9_can 1 := ⟨List.mem_filter.mpr ⟨List.mem_of_getElem? (i := 902) (by decide +kernel), by decide +kernel⟩, List.mem_filter.mpr ⟨List.mem_of_getElem? (i := 51) (by decide +kernel), by decide +kernel⟩, ⟨by decide +kernel, by decide +kernel⟩, by decide +kernel, by decide⟩
theorem mvX9_can : MV mX9_can 1 9 := ⟨moX9_can, List.mem_filter.mpr ⟨List.mem_of_getElem? (i := 900) (by decide +kernel), by decide +kernel⟩, List.mem_filter.mpr ⟨List.mem_of_getElem? (i := 901) (by decide +kernel), by decide +kernel⟩, TX9, 35, rfl⟩
abbrev mX9_canOf : MI := (yX9_canOf, cX9_canOf, 6, some (FieldType.int))
theorem moX9_canOf : MOk mX9_canOf 3 := ⟨List.mem_filter.mpr ⟨List.mem_of_getElem? (i := 906) (by decide +kernel), by decide +kernel⟩, List.mem_filter.mpr ⟨List.mem_of_getElem? (i := 51) (by decide +kernel), by decide +kernel⟩, ⟨by decide +kernel, by decide +kernel⟩, by decide +kernel, by decide⟩
theorem mvX9_canOf : MV mX9_canOf 3 9 := ⟨moX9_canOf, List.mem_filter.mpr ⟨List.mem_of_getElem? (i := 905) (by decide +kernel), by decide +kernel⟩, List.mem_filter.mpr ⟨List.mem_of_getElem? (i := 33) (by decide +kernel), by decide +kernel⟩, TX9, 35, rfl⟩
abbrev mX9_draw : MI := (yX9_draw, cX9_draw, 3, some (FieldType.int))
theorem moX9_draw : MOk mX9_draw 2 := ⟨List.mem_filter.mpr ⟨List.mem_of_getElem? (i := 910) (by decide +kernel), by decide +kernel⟩, List.mem_filter.mpr ⟨List.mem_of_getElem? (i := 51) (by decide +kernel), by decide +kernel⟩, ⟨by decide +kernel, by decide +kernel⟩, by decide +kernel, by decide⟩
theorem mvX9_draw : MV mX9_draw 2 9 := ⟨moX9_draw, List.mem_filter.mpr ⟨List.mem_of_getElem? (i := 908) (by decide +kernel), by decide +kernel⟩, List.mem_filter.mpr ⟨List.mem_of_getElem? (i := 909) (by decide +kernel), by decide +kernel⟩, TX9, 35, rfl⟩
abbrev mX9_canDraw : MI := (yX9_canDraw, cX9_canDraw, 5, some (FieldType.boolean))
theorem moX9_canDraw : MOk mX9_canDraw 3 := ⟨List.mem_filter.mpr ⟨List.mem_of_getElem? (i := 914) (by decide +kernel), by decide +kernel⟩, List.mem_filter.mpr ⟨List.mem_of_getElem? (i := 51) (by decide +kernel), by decide +kernel⟩, ⟨by decide +kernel, by decide +kernel⟩, by decide +kernel, by decide⟩
theorem mvX9_canDraw : MV mX9_canDraw 3 9 := ⟨moX9_canDraw, List.mem_filter.mpr ⟨List.mem_of_getElem? (i := 913) (by decide +kernel), by decide +kernel⟩, List.mem_filter.mpr ⟨List.mem_of_getElem? (i := 34) (by decide +kernel), by decide +kernel⟩, TX9, 35, rfl⟩
abbrev mX9_note : MI := (yX9_note, cX9_note, 2, none)
theorem moX9_note : MOk mX9_note 0 := ⟨List.mem_filter.mpr ⟨List.mem_of_getElem? (i := 919) (by decide +kernel), by decide +kernel⟩, List.mem_filter.mpr ⟨List.mem_of_getElem? (i := 51) (by decide +kernel), by decide +kernel⟩, ⟨by decide +kernel, by decide +kernel⟩, by decide +kernel, by decide⟩
theorem mvX9_note : MV mX9_note 0 9 := ⟨moX9_note, List.mem_filter.mpr ⟨List.mem_of_getElem? (i := 918) (by decide +kernel), by decide +kernel⟩, List.mem_filter.mpr ⟨List.mem_of_getElem? (i := 35) (by decide +kernel), by decide +kernel⟩, TX9, 35, rfl⟩
abbrev mX9_change : MI := (yX9_change, cX9_change, 2, some (FieldType.int))
theorem moX9_change : MOk mX9_change 1 := ⟨List.mem_filter.mpr ⟨List.mem_of_getElem? (i := 923) (by decide +kernel), by decide +kernel⟩, List.mem_filter.mpr ⟨List.mem_of_getElem? (i := 51) (by decide +kernel), by decide +kernel⟩, ⟨by decide +kernel, by decide +kernel⟩, by decide +kernel, by decide⟩
theorem mvX9_change : MV mX9_change 1 9 := ⟨moX9_change, List.mem_filter.mpr ⟨List.mem_of_getElem? (i := 921) (by decide +kernel), by decide +kernel⟩, List.mem_filter.mpr ⟨List.mem_of_getElem? (i := 922) (by decide +kernel), by decide +kernel⟩, TX9, 35, rfl⟩
abbrev mX9_swap : MI := (yX9_swap, cX9_swap, 4, none)
theorem moX9_swap : MOk mX9_swap 2 := ⟨List.mem_filter.mpr ⟨List.mem_of_getElem? (i := 926) (by decide +kernel), by decide +kernel⟩, List.mem_filter.mpr ⟨List.mem_of_getElem? (i := 51) (by decide +kernel), by decide +kernel⟩, ⟨by decide +kernel, by decide +kernel⟩, by decide +kernel, by decide⟩
theorem msX9_swap : MS mX9_swap 2 := ⟨moX9_swap, List.mem_filter.mpr ⟨List.mem_of_getElem? (i := 925) (by decide +kernel), by decide +kernel⟩⟩
abbrev mX9_join : MI := (yX9_join, cX9_join, 1, some (FieldType.int))
theorem moX9_join : MOk mX9_join 0 := ⟨List.mem_filter.mpr ⟨List.mem_of_getElem? (i := 930) (by decide +kernel), by decide +kernel⟩, List.mem_filter.mpr ⟨List.mem_of_getElem? (i := 51) (by decide +kernel), by decide +kernel⟩, ⟨by decide +kernel, by decide +kernel⟩, by decide +kernel, by decide⟩
theorem mvX9_join : MV mX9_join 0 9 := ⟨moX9_join, List.mem_filter.mpr ⟨List.mem_of_getElem? (i := 928) (by decide +kernel), by decide +kernel⟩, List.mem_filter.mpr ⟨List.mem_of_getElem? (i := 929) (by decide +kernel), by decide +kernel⟩, TX9, 35, rfl⟩
abbrev mX9_rejoin : MI := (yX9_rejoin, cX9_rejoin, 3, none)
theorem moX9_rejoin : MOk mX9_rejoin 1 := ⟨List.mem_filter.mpr ⟨List.mem_of_getElem? (i := 934) (by decide +kernel), by decide +kernel⟩, List.mem_filter.mpr ⟨List.mem_of_getElem? (i := 51) (by decide +kernel), by decide +kernel⟩, ⟨by decide +kernel, by decide +kernel⟩, by decide +kernel, by decide⟩
theorem mvX9_rejoin : MV mX9_rejoin 1 9 := ⟨moX9_rejoin, List.mem_filter.mpr ⟨List.mem_of_getElem? (i := 933) (by decide +kernel), by decide +kernel⟩, List.mem_filter.mpr ⟨List.mem_of_getElem? (i := 36) (by decide +kernel), by decide +kernel⟩, TX9, 35, rfl⟩
abbrev mX9_undo : MI := (yX9_undo, cX9_undo, 2, some (FieldType.int))
theorem moX9_undo : MOk mX9_undo 0 := ⟨List.mem_filter.mpr ⟨List.mem_of_getElem? (i := 938) (by decide +kernel), by decide +kernel⟩, List.mem_filter.mpr ⟨List.mem_of_getElem? (i := 51) (by decide +kernel), by decide +kernel⟩, ⟨by decide +kernel, by decide +kernel⟩, by decide +kernel, by decide⟩
theorem mvX9_undo : MV mX9_undo 0 9 := ⟨moX9_undo, List.mem_filter.mpr ⟨List.mem_of_getElem? (i := 936) (by decide +kernel), by decide +kernel⟩, List.mem_filter.mpr ⟨List.mem_of_getElem? (i := 937) (by decide +kernel), by decide +kernel⟩, TX9, 35, rfl⟩
abbrev mX9_best : MI := (yX9_best, cX9_best, 8, some (FieldType.int))
theorem moX9_best : MOk mX9_best 1 := ⟨List.mem_filter.mpr ⟨List.mem_of_getElem? (i := 942) (by decide +kernel), by decide +kernel⟩, List.mem_filter.mpr ⟨List.mem_of_getElem? (i := 51) (by decide +kernel), by decide +kernel⟩, ⟨by decide +kernel, by decide +kernel⟩, by decide +kernel, by decide⟩
theorem mvX9_best : MV mX9_best 1 9 := ⟨moX9_best, List.mem_filter.mpr ⟨List.mem_of_getElem? (i := 940) (by decide +kernel), by decide +kernel⟩, List.mem_filter.mpr ⟨List.mem_of_getElem? (i := 941) (by decide +kernel), by decide +kernel⟩, TX9, 35, rfl⟩
abbrev mX9_many : MI := (yX9_many, cX9_many, 3, some (FieldType.int))
theorem moX9_many : MOk mX9_many 1 := ⟨List.mem_filter.mpr ⟨List.mem_of_getElem? (i := 945) (by decide +kernel), by decide +kernel⟩, List.mem_filter.mpr ⟨List.mem_of_getElem? (i := 51) (by decide +kernel), by decide +kernel⟩, ⟨by decide +kernel, by decide +kernel⟩, by decide +kernel, by decide⟩
theorem msX9_many : MS mX9_many 1 := ⟨moX9_many, List.mem_filter.mpr ⟨List.mem_of_getElem? (i := 944) (by decide +kernel), by decide +kernel⟩⟩
abbrev mX9_fewest : MI := (yX9_fewest, cX9_fewest, 7, some (FieldType.int))
theorem moX9_fewest : MOk mX9_fewest 2 := ⟨List.mem_filter.mpr ⟨List.mem_of_getElem? (i := 949) (by decide +kernel), by decide +kernel⟩, List.mem_filter.mpr ⟨List.mem_of_getElem? (i := 51) (by decide +kernel), by decide +kernel⟩, ⟨by decide +kernel, by decide +kernel⟩, by decide +kernel, by decide⟩
theorem mvX9_fewest : MV mX9_fewest 2 9 := ⟨moX9_fewest, List.mem_filter.mpr ⟨List.mem_of_getElem? (i := 947) (by decide +kernel), by decide +kernel⟩, List.mem_filter.mpr ⟨List.mem_of_getElem? (i := 948) (by decide +kernel), by decide +kernel⟩, TX9, 35, rfl⟩
abbrev mX9_fair : MI := (yX9_fair, cX9_fair, 8, some (FieldType.int))
theorem moX9_fair : MOk mX9_fair 3 := ⟨List.mem_filter.mpr ⟨List.mem_of_getElem? (i := 953) (by decide +kernel), by decide +kernel⟩, List.mem_filter.mpr ⟨List.mem_of_getElem? (i := 51) (by decide +kernel), by decide +kernel⟩, ⟨by decide +kernel, by decide +kernel⟩, by decide +kernel, by decide⟩
theorem mvX9_fair : MV mX9_fair 3 9 := ⟨moX9_fair, List.mem_filter.mpr ⟨List.mem_of_getElem? (i := 951) (by decide +kernel), by decide +kernel⟩, List.mem_filter.mpr ⟨List.mem_of_getElem? (i := 952) (by decide +kernel), by decide +kernel⟩, TX9, 35, rfl⟩
abbrev mX9_worthOf : MI := (yX9_worthOf, cX9_worthOf, 5, some (FieldType.int))
theorem moX9_worthOf : MOk mX9_worthOf 2 := ⟨List.mem_filter.mpr ⟨List.mem_of_getElem? (i := 958) (by decide +kernel), by decide +kernel⟩, List.mem_filter.mpr ⟨List.mem_of_getElem? (i := 51) (by decide +kernel), by decide +kernel⟩, ⟨by decide +kernel, by decide +kernel⟩, by decide +kernel, by decide⟩
theorem mvX9_worthOf : MV mX9_worthOf 2 9 := ⟨moX9_worthOf, List.mem_filter.mpr ⟨List.mem_of_getElem? (i := 957) (by decide +kernel), by decide +kernel⟩, List.mem_filter.mpr ⟨List.mem_of_getElem? (i := 37) (by decide +kernel), by decide +kernel⟩, TX9, 35, rfl⟩
abbrev mX9_judge : MI := (yX9_judge, cX9_judge, 4, some (FieldType.int))
theorem moX9_judge : MOk mX9_judge 2 := ⟨List.mem_filter.mpr ⟨List.mem_of_getElem? (i := 962) (by decide +kernel), by decide +kernel⟩, List.mem_filter.mpr ⟨List.mem_of_getElem? (i := 51) (by decide +kernel), by decide +kernel⟩, ⟨by decide +kernel, by decide +kernel⟩, by decide +kernel, by decide⟩
theorem mvX9_judge : MV mX9_judge 2 9 := ⟨moX9_judge, List.mem_filter.mpr ⟨List.mem_of_getElem? (i := 960) (by decide +kernel), by decide +kernel⟩, List.mem_filter.mpr ⟨List.mem_of_getElem? (i := 961) (by decide +kernel), by decide +kernel⟩, TX9, 35, rfl⟩
abbrev mX9_does : MI := (yX9_does, cX9_does, 5, some (FieldType.boolean))
theorem moX9_does : MOk mX9_does 1 := ⟨List.mem_filter.mpr ⟨List.mem_of_getElem? (i := 966) (by decide +kernel), by decide +kernel⟩, List.mem_filter.mpr ⟨List.mem_of_getElem? (i := 51) (by decide +kernel), by decide +kernel⟩, ⟨by decide +kernel, by decide +kernel⟩, by decide +kernel, by decide⟩
theorem mvX9_does : MV mX9_does 1 9 := ⟨moX9_does, List.mem_filter.mpr ⟨List.mem_of_getElem? (i := 965) (by decide +kernel), by decide +kernel⟩, List.mem_filter.mpr ⟨List.mem_of_getElem? (i := 38) (by decide +kernel), by decide +kernel⟩, TX9, 35, rfl⟩
abbrev mX9_share : MI := (yX9_share, cX9_share, 7, some (FieldType.int))
theorem moX9_share : MOk mX9_share 3 := ⟨List.mem_filter.mpr ⟨List.mem_of_getElem? (i := 970) (by decide +kernel), by decide +kernel⟩, List.mem_filter.mpr ⟨List.mem_of_getElem? (i := 51) (by decide +kernel), by decide +kernel⟩, ⟨by decide +kernel, by decide +kernel⟩, by decide +kernel, by decide⟩
theorem mvX9_share : MV mX9_share 3 9 := ⟨moX9_share, List.mem_filter.mpr ⟨List.mem_of_getElem? (i := 968) (by decide +kernel), by decide +kernel⟩, List.mem_filter.mpr ⟨List.mem_of_getElem? (i := 969) (by decide +kernel), by decide +kernel⟩, TX9, 35, rfl⟩
abbrev mX9_ways : MI := (yX9_ways, cX9_ways, 3, some (FieldType.int))
theorem moX9_ways : MOk mX9_ways 1 := ⟨List.mem_filter.mpr ⟨List.mem_of_getElem? (i := 973) (by decide +kernel), by decide +kernel⟩, List.mem_filter.mpr ⟨List.mem_of_getElem? (i := 51) (by decide +kernel), by decide +kernel⟩, ⟨by decide +kernel, by decide +kernel⟩, by decide +kernel, by decide⟩
theorem msX9_ways : MS mX9_ways 1 := ⟨moX9_ways, List.mem_filter.mpr ⟨List.mem_of_getElem? (i := 972) (by decide +kernel), by decide +kernel⟩⟩
abbrev mX9_fraction : MI := (yX9_fraction, cX9_fraction, 4, some (FieldType.int))
theorem moX9_fraction : MOk mX9_fraction 3 := ⟨List.mem_filter.mpr ⟨List.mem_of_getElem? (i := 976) (by decide +kernel), by decide +kernel⟩, List.mem_filter.mpr ⟨List.mem_of_getElem? (i := 51) (by decide +kernel), by decide +kernel⟩, ⟨by decide +kernel, by decide +kernel⟩, by decide +kernel, by decide⟩
theorem msX9_fraction : MS mX9_fraction 3 := ⟨moX9_fraction, List.mem_filter.mpr ⟨List.mem_of_getElem? (i := 975) (by decide +kernel), by decide +kernel⟩⟩
abbrev mX9_divisor : MI := (yX9_divisor, cX9_divisor, 5, some (FieldType.int))
theorem moX9_divisor : MOk mX9_divisor 2 := ⟨List.mem_filter.mpr ⟨List.mem_of_getElem? (i := 979) (by decide +kernel), by decide +kernel⟩, List.mem_filter.mpr ⟨List.mem_of_getElem? (i := 51) (by decide +kernel), by decide +kernel⟩, ⟨by decide +kernel, by decide +kernel⟩, by decide +kernel, by decide⟩
theorem msX9_divisor : MS mX9_divisor 2 := ⟨moX9_divisor, List.mem_filter.mpr ⟨List.mem_of_getElem? (i := 978) (by decide +kernel), by decide +kernel⟩⟩
abbrev mX9_see : MI := (yX9_see, cX9_see, 3, some (FieldType.int))
theorem moX9_see : MOk mX9_see 2 := ⟨List.mem_filter.mpr ⟨List.mem_of_getElem? (i := 983) (by decide +kernel), by decide +kernel⟩, List.mem_filter.mpr ⟨List.mem_of_getElem? (i := 51) (by decide +kernel), by decide +kernel⟩, ⟨by decide +kernel, by decide +kernel⟩, by decide +kernel, by decide⟩
theorem mvX9_see : MV mX9_see 2 9 := ⟨moX9_see, List.mem_filter.mpr ⟨List.mem_of_getElem? (i := 981) (by decide +kernel), by decide +kernel⟩, List.mem_filter.mpr ⟨List.mem_of_getElem? (i := 982) (by decide +kernel), by decide +kernel⟩, TX9, 35, rfl⟩
abbrev mX9_unsee : MI := (yX9_unsee, cX9_unsee, 2, some (FieldType.int))
theorem moX9_unsee : MOk mX9_unsee 0 := ⟨List.mem_filter.mpr ⟨List.mem_of_getElem? (i := 988) (by decide +kernel), by decide +kernel⟩, List.mem_filter.mpr ⟨List.mem_of_getElem? (i := 51) (by decide +kernel), by decide +kernel⟩, ⟨by decide +kernel, by decide +kernel⟩, by decide +kernel, by decide⟩
theorem mvX9_unsee : MV mX9_unsee 0 9 := ⟨moX9_unsee, List.mem_filter.mpr ⟨List.mem_of_getElem? (i := 986) (by decide +kernel), by decide +kernel⟩, List.mem_filter.mpr ⟨List.mem_of_getElem? (i := 987) (by decide +kernel), by decide +kernel⟩, TX9, 35, rfl⟩
abbrev mX9_traces : MI := (yX9_traces, cX9_traces, 4, some (FieldType.int))
theorem moX9_traces : MOk mX9_traces 1 := ⟨List.mem_filter.mpr ⟨List.mem_of_getElem? (i := 992) (by decide +kernel), by decide +kernel⟩, List.mem_filter.mpr ⟨List.mem_of_getElem? (i := 51) (by decide +kernel), by decide +kernel⟩, ⟨by decide +kernel, by decide +kernel⟩, by decide +kernel, by decide⟩
theorem mvX9_traces : MV mX9_traces 1 9 := ⟨moX9_traces, List.mem_filter.mpr ⟨List.mem_of_getElem? (i := 990) (by decide +kernel), by decide +kernel⟩, List.mem_filter.mpr ⟨List.mem_of_getElem? (i := 991) (by decide +kernel), by decide +kernel⟩, TX9, 35, rfl⟩
abbrev mX9_isSeen : MI := (yX9_isSeen, cX9_isSeen, 5, some (FieldType.boolean))
theorem moX9_isSeen : MOk mX9_isSeen 0 := ⟨List.mem_filter.mpr ⟨List.mem_of_getElem? (i := 996) (by decide +kernel), by decide +kernel⟩, List.mem_filter.mpr ⟨List.mem_of_getElem? (i := 51) (by decide +kernel), by decide +kernel⟩, ⟨by decide +kernel, by decide +kernel⟩, by decide +kernel, by decide⟩
theorem mvX9_isSeen : MV mX9_isSeen 0 9 := ⟨moX9_isSeen, List.mem_filter.mpr ⟨List.mem_of_getElem? (i := 995) (by decide +kernel), by decide +kernel⟩, List.mem_filter.mpr ⟨List.mem_of_getElem? (i := 39) (by decide +kernel), by decide +kernel⟩, TX9, 35, rfl⟩
abbrev mX9_rests : MI := (yX9_rests, cX9_rests, 5, some (FieldType.int))
theorem moX9_rests : MOk mX9_rests 1 := ⟨List.mem_filter.mpr ⟨List.mem_of_getElem? (i := 1000) (by decide +kernel), by decide +kernel⟩, List.mem_filter.mpr ⟨List.mem_of_getElem? (i := 51) (by decide +kernel), by decide +kernel⟩, ⟨by decide +kernel, by decide +kernel⟩, by decide +kernel, by decide⟩
theorem mvX9_rests : MV mX9_rests 1 9 := ⟨moX9_rests, List.mem_filter.mpr ⟨List.mem_of_getElem? (i := 998) (by decide +kernel), by decide +kernel⟩, List.mem_filter.mpr ⟨List.mem_of_getElem? (i := 999) (by decide +kernel), by decide +kernel⟩, TX9, 35, rfl⟩
abbrev mX9_pulled : MI := (yX9_pulled, cX9_pulled, 7, some (FieldType.int))
theorem moX9_pulled : MOk mX9_pulled 3 := ⟨List.mem_filter.mpr ⟨List.mem_of_getElem? (i := 1004) (by decide +kernel), by decide +kernel⟩, List.mem_filter.mpr ⟨List.mem_of_getElem? (i := 51) (by decide +kernel), by decide +kernel⟩, ⟨by decide +kernel, by decide +kernel⟩, by decide +kernel, by decide⟩
theorem mvX9_pulled : MV mX9_pulled 3 9 := ⟨moX9_pulled, List.mem_filter.mpr ⟨List.mem_of_getElem? (i := 1003) (by decide +kernel), by decide +kernel⟩, List.mem_filter.mpr ⟨List.mem_of_getElem? (i := 40) (by decide +kernel), by decide +kernel⟩, TX9, 35, rfl⟩
abbrev mX9_slips : MI := (yX9_slips, cX9_slips, 8, some (FieldType.int))
theorem moX9_slips : MOk mX9_slips 4 := ⟨List.mem_filter.mpr ⟨List.mem_of_getElem? (i := 1008) (by decide +kernel), by decide +kernel⟩, List.mem_filter.mpr ⟨List.mem_of_getElem? (i := 51) (by decide +kernel), by decide +kernel⟩, ⟨by decide +kernel, by decide +kernel⟩, by decide +kernel, by decide⟩
theorem mvX9_slips : MV mX9_slips 4 9 := ⟨moX9_slips, List.mem_filter.mpr ⟨List.mem_of_getElem? (i := 1006) (by decide +kernel), by decide +kernel⟩, List.mem_filter.mpr ⟨List.mem_of_getElem? (i := 1007) (by decide +kernel), by decide +kernel⟩, TX9, 35, rfl⟩
abbrev mX9_seed : MI := (yX9_seed, cX9_seed, 5, some (FieldType.long))
theorem moX9_seed : MOk mX9_seed 1 := ⟨List.mem_filter.mpr ⟨List.mem_of_getElem? (i := 1013) (by decide +kernel), by decide +kernel⟩, List.mem_filter.mpr ⟨List.mem_of_getElem? (i := 51) (by decide +kernel), by decide +kernel⟩, ⟨by decide +kernel, by decide +kernel⟩, by decide +kernel, by decide⟩
theorem mvX9_seed : MV mX9_seed 1 9 := ⟨moX9_seed, List.mem_filter.mpr ⟨List.mem_of_getElem? (i := 1011) (by decide +kernel), by decide +kernel⟩, List.mem_filter.mpr ⟨List.mem_of_getElem? (i := 1012) (by decide +kernel), by decide +kernel⟩, TX9, 35, rfl⟩
abbrev mX9_years : MI := (yX9_years, cX9_years, 5, some (FieldType.int))
theorem moX9_years : MOk mX9_years 1 := ⟨List.mem_filter.mpr ⟨List.mem_of_getElem? (i := 1017) (by decide +kernel), by decide +kernel⟩, List.mem_filter.mpr ⟨List.mem_of_getElem? (i := 51) (by decide +kernel), by decide +kernel⟩, ⟨by decide +kernel, by decide +kernel⟩, by decide +kernel, by decide⟩
theorem mvX9_years : MV mX9_years 1 9 := ⟨moX9_years, List.mem_filter.mpr ⟨List.mem_of_getElem? (i := 1015) (by decide +kernel), by decide +kernel⟩, List.mem_filter.mpr ⟨List.mem_of_getElem? (i := 1016) (by decide +kernel), by decide +kernel⟩, TX9, 35, rfl⟩
abbrev mX9_keep : MI := (yX9_keep, cX9_keep, 3, some (FieldType.int))
theorem moX9_keep : MOk mX9_keep 1 := ⟨List.mem_filter.mpr ⟨List.mem_of_getElem? (i := 1025) (by decide +kernel), by decide +kernel⟩, List.mem_filter.mpr ⟨List.mem_of_getElem? (i := 51) (by decide +kernel), by decide +kernel⟩, ⟨by decide +kernel, by decide +kernel⟩, by decide +kernel, by decide⟩
theorem mvX9_keep : MV mX9_keep 1 9 := ⟨moX9_keep, List.mem_filter.mpr ⟨List.mem_of_getElem? (i := 1023) (by decide +kernel), by decide +kernel⟩, List.mem_filter.mpr ⟨List.mem_of_getElem? (i := 1024) (by decide +kernel), by decide +kernel⟩, TX9, 35, rfl⟩
abbrev mX9_again : MI := (yX9_again, cX9_again, 3, some (FieldType.int))
theorem moX9_again : MOk mX9_again 1 := ⟨List.mem_filter.mpr ⟨List.mem_of_getElem? (i := 1029) (by decide +kernel), by decide +kernel⟩, List.mem_filter.mpr ⟨List.mem_of_getElem? (i := 51) (by decide +kernel), by decide +kernel⟩, ⟨by decide +kernel, by decide +kernel⟩, by decide +kernel, by decide⟩
theorem mvX9_again : MV mX9_again 1 9 := ⟨moX9_again, List.mem_filter.mpr ⟨List.mem_of_getElem? (i := 1027) (by decide +kernel), by decide +kernel⟩, List.mem_filter.mpr ⟨List.mem_of_getElem? (i := 1028) (by decide +kernel), by decide +kernel⟩, TX9, 35, rfl⟩
theorem kL_9 : Cond.methodLink RL 9 mX8_init.1 ∈ tblG := List.mem_filter.mpr ⟨List.mem_of_getElem? (i := 58) (by decide +kernel), by decide +kernel⟩
theorem kX8_28 : Cond.methodLink RX8 28 mX4_init.1 ∈ tblG := List.mem_filter.mpr ⟨List.mem_of_getElem? (i := 127) (by decide +kernel), by decide +kernel⟩
theorem kX8_55 : Cond.methodLink RX8 55 mX5_init.1 ∈ tblG := List.mem_filter.mpr ⟨List.mem_of_getElem? (i := 172) (by decide +kernel), by decide +kernel⟩
theorem kL_13 : Cond.methodLink RL 13 mX8_write.1 ∈ tblG := List.mem_filter.mpr ⟨List.mem_of_getElem? (i := 280) (by decide +kernel), by decide +kernel⟩
theorem kX8_85 : Cond.methodLink RX8 85 mX6_append.1 ∈ tblG := List.mem_filter.mpr ⟨List.mem_of_getElem? (i := 284) (by decide +kernel), by decide +kernel⟩
theorem kL_18 : Cond.methodLink RL 18 mX8_wipe.1 ∈ tblG := List.mem_filter.mpr ⟨List.mem_of_getElem? (i := 288) (by decide +kernel), by decide +kernel⟩
theorem kL_23 : Cond.methodLink RL 23 mX8_fault.1 ∈ tblG := List.mem_filter.mpr ⟨List.mem_of_getElem? (i := 292) (by decide +kernel), by decide +kernel⟩
theorem kX8_93 : Cond.methodLink RX8 93 mX6_readInto.1 ∈ tblG := List.mem_filter.mpr ⟨List.mem_of_getElem? (i := 296) (by decide +kernel), by decide +kernel⟩
theorem kX6_19 : Cond.methodLink RX6 19 mX1_begin.1 ∈ tblG := List.mem_filter.mpr ⟨List.mem_of_getElem? (i := 300) (by decide +kernel), by decide +kernel⟩
theorem kX6_24 : Cond.methodLink RX6 24 mX1_take.1 ∈ tblG := List.mem_filter.mpr ⟨List.mem_of_getElem? (i := 304) (by decide +kernel), by decide +kernel⟩
theorem kX1_40 : Cond.methodLink RX1 40 mX1_takeStart.1 ∈ tblG := List.mem_filter.mpr ⟨List.mem_of_getElem? (i := 308) (by decide +kernel), by decide +kernel⟩
theorem kX1_44 : Cond.methodLink RX1 44 mX1_takeThing.1 ∈ tblG := List.mem_filter.mpr ⟨List.mem_of_getElem? (i := 312) (by decide +kernel), by decide +kernel⟩
theorem kX1_47 : Cond.methodLink RX1 47 mX1_takeKind.1 ∈ tblG := List.mem_filter.mpr ⟨List.mem_of_getElem? (i := 316) (by decide +kernel), by decide +kernel⟩
theorem kX1_50 : Cond.methodLink RX1 50 mX1_takeCell.1 ∈ tblG := List.mem_filter.mpr ⟨List.mem_of_getElem? (i := 320) (by decide +kernel), by decide +kernel⟩
theorem kX1_53 : Cond.methodLink RX1 53 mX1_takePart.1 ∈ tblG := List.mem_filter.mpr ⟨List.mem_of_getElem? (i := 324) (by decide +kernel), by decide +kernel⟩
theorem kX1_56 : Cond.methodLink RX1 56 mX1_takeNeed.1 ∈ tblG := List.mem_filter.mpr ⟨List.mem_of_getElem? (i := 328) (by decide +kernel), by decide +kernel⟩
theorem kX6_28 : Cond.methodLink RX6 28 mX1_isWhole.1 ∈ tblG := List.mem_filter.mpr ⟨List.mem_of_getElem? (i := 332) (by decide +kernel), by decide +kernel⟩
theorem kL_27 : Cond.methodLink RL 27 mX8_family.1 ∈ tblG := List.mem_filter.mpr ⟨List.mem_of_getElem? (i := 336) (by decide +kernel), by decide +kernel⟩
theorem kX8_97 : Cond.methodLink RX8 97 mX4_begin.1 ∈ tblG := List.mem_filter.mpr ⟨List.mem_of_getElem? (i := 340) (by decide +kernel), by decide +kernel⟩
theorem kX4_25 : Cond.methodLink RX4 25 arraycopyName ∈ tblG := List.mem_filter.mpr ⟨List.mem_of_getElem? (i := 344) (by decide +kernel), by decide +kernel⟩
theorem kX4_31 : Cond.methodLink RX4 31 mJ7_fill_53178.1 ∈ tblG ∨ ∃ host, Cond.methodLinkNest RX4 31 mJ7_fill_53178.1 host ∈ nestW := Or.inl (List.mem_filter.mpr ⟨List.mem_of_getElem? (i := 347) (by decide +kernel), by decide +kernel⟩)
theorem kX8_100 : Cond.methodLink RX8 100 mX0_forget.1 ∈ tblG := List.mem_filter.mpr ⟨List.mem_of_getElem? (i := 350) (by decide +kernel), by decide +kernel⟩
theorem kL_31 : Cond.methodLink RL 31 mX8_about.1 ∈ tblG := List.mem_filter.mpr ⟨List.mem_of_getElem? (i := 354) (by decide +kernel), by decide +kernel⟩
theorem kX8_115 : Cond.methodLink RX8 115 mX4_wireNumber.1 ∈ tblG := List.mem_filter.mpr ⟨List.mem_of_getElem? (i := 358) (by decide +kernel), by decide +kernel⟩
theorem kX8_119 : Cond.methodLink RX8 119 mX4_slipCount.1 ∈ tblG := List.mem_filter.mpr ⟨List.mem_of_getElem? (i := 365) (by decide +kernel), by decide +kernel⟩
theorem kX8_122 : Cond.methodLink RX8 122 mX8_talliedNow.1 ∈ tblG := List.mem_filter.mpr ⟨List.mem_of_getElem? (i := 369) (by decide +kernel), by decide +kernel⟩
theorem kX8_209 : Cond.methodLink RX8 209 mX5_take.1 ∈ tblG := List.mem_filter.mpr ⟨List.mem_of_getElem? (i := 373) (by decide +kernel), by decide +kernel⟩
theorem kX5_22 : Cond.methodLink RX5 22 mX5_countCells.1 ∈ tblG := List.mem_filter.mpr ⟨List.mem_of_getElem? (i := 377) (by decide +kernel), by decide +kernel⟩
theorem kX5_26 : Cond.methodLink RX5 26 mJ7_fill_53178.1 ∈ tblG ∨ ∃ host, Cond.methodLinkNest RX5 26 mJ7_fill_53178.1 host ∈ nestW := Or.inl (List.mem_filter.mpr ⟨List.mem_of_getElem? (i := 381) (by decide +kernel), by decide +kernel⟩)
theorem kX5_42 : Cond.methodLink RX5 42 mX5_halvesFor.1 ∈ tblG := List.mem_filter.mpr ⟨List.mem_of_getElem? (i := 388) (by decide +kernel), by decide +kernel⟩
theorem kX5_55 : Cond.methodLink RX5 55 mX5_isParted.1 ∈ tblG := List.mem_filter.mpr ⟨List.mem_of_getElem? (i := 395) (by decide +kernel), by decide +kernel⟩
theorem kX5_59 : Cond.methodLink RX5 59 mX5_cellsIn.1 ∈ tblG := List.mem_filter.mpr ⟨List.mem_of_getElem? (i := 399) (by decide +kernel), by decide +kernel⟩
theorem kX8_126 : Cond.methodLink RX8 126 mX5_partedBits.1 ∈ tblG := List.mem_filter.mpr ⟨List.mem_of_getElem? (i := 403) (by decide +kernel), by decide +kernel⟩
theorem kX8_129 : Cond.methodLink RX8 129 mX8_wireCount.1 ∈ tblG := List.mem_filter.mpr ⟨List.mem_of_getElem? (i := 407) (by decide +kernel), by decide +kernel⟩
theorem kX8_201 : Cond.methodLink RX8 201 mX7_begin.1 ∈ tblG := List.mem_filter.mpr ⟨List.mem_of_getElem? (i := 411) (by decide +kernel), by decide +kernel⟩
theorem kX7_15 : Cond.methodLink RX7 15 mJ9_min_7cf53.1 ∈ tblG ∨ ∃ host, Cond.methodLinkNest RX7 15 mJ9_min_7cf53.1 host ∈ nestW := Or.inl (List.mem_filter.mpr ⟨List.mem_of_getElem? (i := 415) (by decide +kernel), by decide +kernel⟩)
theorem kX7_25 : Cond.methodLink RX7 25 mJ7_fill_53178.1 ∈ tblG ∨ ∃ host, Cond.methodLinkNest RX7 25 mJ7_fill_53178.1 host ∈ nestW := Or.inl (List.mem_filter.mpr ⟨List.mem_of_getElem? (i := 418) (by decide +kernel), by decide +kernel⟩)
theorem kX8_226 : Cond.methodLink RX8 226 mX7_advance.1 ∈ tblG := List.mem_filter.mpr ⟨List.mem_of_getElem? (i := 419) (by decide +kernel), by decide +kernel⟩
theorem kX7_39 : Cond.methodLink RX7 39 mX7_putLeastBehind.1 ∈ tblG := List.mem_filter.mpr ⟨List.mem_of_getElem? (i := 423) (by decide +kernel), by decide +kernel⟩
theorem kX7_43 : Cond.methodLink RX7 43 mJ9_max_7cf53.1 ∈ tblG ∨ ∃ host, Cond.methodLinkNest RX7 43 mJ9_max_7cf53.1 host ∈ nestW := Or.inl (List.mem_filter.mpr ⟨List.mem_of_getElem? (i := 427) (by decide +kernel), by decide +kernel⟩)
theorem kL_35 : Cond.methodLink RL 35 mX8_cell.1 ∈ tblG := List.mem_filter.mpr ⟨List.mem_of_getElem? (i := 430) (by decide +kernel), by decide +kernel⟩
theorem kX8_136 : Cond.methodLink RX8 136 mX8_isRow.1 ∈ tblG := List.mem_filter.mpr ⟨List.mem_of_getElem? (i := 434) (by decide +kernel), by decide +kernel⟩
theorem kX8_146 : Cond.methodLink RX8 146 mX8_halfOf.1 ∈ tblG ∨ ∃ host, Cond.methodLinkNest RX8 146 mX8_halfOf.1 host ∈ nestW := Or.inl (List.mem_filter.mpr ⟨List.mem_of_getElem? (i := 438) (by decide +kernel), by decide +kernel⟩)
theorem kX8_150 : Cond.methodLink RX8 150 mX8_kinOf.1 ∈ tblG ∨ ∃ host, Cond.methodLinkNest RX8 150 mX8_kinOf.1 host ∈ nestW := Or.inl (List.mem_filter.mpr ⟨List.mem_of_getElem? (i := 439) (by decide +kernel), by decide +kernel⟩)
theorem kX8_154 : Cond.methodLink RX8 154 mX8_partOf.1 ∈ tblG ∨ ∃ host, Cond.methodLinkNest RX8 154 mX8_partOf.1 host ∈ nestW := Or.inl (List.mem_filter.mpr ⟨List.mem_of_getElem? (i := 440) (by decide +kernel), by decide +kernel⟩)
theorem kX8_157 : Cond.methodLink RX8 157 mX5_halvesFor.1 ∈ tblG := List.mem_filter.mpr ⟨List.mem_of_getElem? (i := 441) (by decide +kernel), by decide +kernel⟩
theorem kL_40 : Cond.methodLink RL 40 mX8_kin.1 ∈ tblG := List.mem_filter.mpr ⟨List.mem_of_getElem? (i := 442) (by decide +kernel), by decide +kernel⟩
theorem kX8_160 : Cond.methodLink RX8 160 mX8_isKin.1 ∈ tblG := List.mem_filter.mpr ⟨List.mem_of_getElem? (i := 446) (by decide +kernel), by decide +kernel⟩
theorem kX8_166 : Cond.methodLink RX8 166 mX5_cellsIn.1 ∈ tblG := List.mem_filter.mpr ⟨List.mem_of_getElem? (i := 450) (by decide +kernel), by decide +kernel⟩
theorem kX8_169 : Cond.methodLink RX8 169 mX5_countedOf.1 ∈ tblG := List.mem_filter.mpr ⟨List.mem_of_getElem? (i := 451) (by decide +kernel), by decide +kernel⟩
theorem kL_45 : Cond.methodLink RL 45 mX8_has.1 ∈ tblG := List.mem_filter.mpr ⟨List.mem_of_getElem? (i := 455) (by decide +kernel), by decide +kernel⟩
theorem kX8_172 : Cond.methodLink RX8 172 mX8_isHalf.1 ∈ tblG ∨ ∃ host, Cond.methodLinkNest RX8 172 mX8_isHalf.1 host ∈ nestW := Or.inl (List.mem_filter.mpr ⟨List.mem_of_getElem? (i := 459) (by decide +kernel), by decide +kernel⟩)
theorem kX8_175 : Cond.methodLink RX8 175 mX5_counted.1 ∈ tblG := List.mem_filter.mpr ⟨List.mem_of_getElem? (i := 462) (by decide +kernel), by decide +kernel⟩
theorem kL_49 : Cond.methodLink RL 49 mX8_can.1 ∈ tblG := List.mem_filter.mpr ⟨List.mem_of_getElem? (i := 466) (by decide +kernel), by decide +kernel⟩
theorem kX8_179 : Cond.methodLink RX8 179 mX5_deedBits.1 ∈ tblG := List.mem_filter.mpr ⟨List.mem_of_getElem? (i := 470) (by decide +kernel), by decide +kernel⟩
theorem kX5_87 : Cond.methodLink RX5 87 mX5_isDone.1 ∈ tblG := List.mem_filter.mpr ⟨List.mem_of_getElem? (i := 474) (by decide +kernel), by decide +kernel⟩
theorem kX5_77 : Cond.methodLink RX5 77 mX5_counted.1 ∈ tblG := List.mem_filter.mpr ⟨List.mem_of_getElem? (i := 478) (by decide +kernel), by decide +kernel⟩
theorem kL_53 : Cond.methodLink RL 53 mX8_draw.1 ∈ tblG := List.mem_filter.mpr ⟨List.mem_of_getElem? (i := 479) (by decide +kernel), by decide +kernel⟩
theorem kX8_182 : Cond.methodLink RX8 182 mX4_moveWire.1 ∈ tblG := List.mem_filter.mpr ⟨List.mem_of_getElem? (i := 483) (by decide +kernel), by decide +kernel⟩
theorem kX4_59 : Cond.methodLink RX4 59 mX4_isNear.1 ∈ tblG := List.mem_filter.mpr ⟨List.mem_of_getElem? (i := 487) (by decide +kernel), by decide +kernel⟩
theorem kX4_62 : Cond.methodLink RX4 62 mJ9_abs_0f7a4.1 ∈ tblG ∨ ∃ host, Cond.methodLinkNest RX4 62 mJ9_abs_0f7a4.1 host ∈ nestW := Or.inl (List.mem_filter.mpr ⟨List.mem_of_getElem? (i := 491) (by decide +kernel), by decide +kernel⟩)
theorem kX8_186 : Cond.methodLink RX8 186 mX0_note.1 ∈ tblG := List.mem_filter.mpr ⟨List.mem_of_getElem? (i := 494) (by decide +kernel), by decide +kernel⟩
theorem kX0_25 : Cond.methodLink RX0 25 mX0_forgetFirst.1 ∈ tblG := List.mem_filter.mpr ⟨List.mem_of_getElem? (i := 498) (by decide +kernel), by decide +kernel⟩
theorem kX0_28 : Cond.methodLink RX0 28 arraycopyName ∈ tblG := List.mem_filter.mpr ⟨List.mem_of_getElem? (i := 502) (by decide +kernel), by decide +kernel⟩
theorem kL_57 : Cond.methodLink RL 57 mX8_change.1 ∈ tblG := List.mem_filter.mpr ⟨List.mem_of_getElem? (i := 503) (by decide +kernel), by decide +kernel⟩
theorem kX8_190 : Cond.methodLink RX8 190 mX4_swapAtWire.1 ∈ tblG := List.mem_filter.mpr ⟨List.mem_of_getElem? (i := 507) (by decide +kernel), by decide +kernel⟩
theorem kL_61 : Cond.methodLink RL 61 mX8_join.1 ∈ tblG := List.mem_filter.mpr ⟨List.mem_of_getElem? (i := 511) (by decide +kernel), by decide +kernel⟩
theorem kX8_193 : Cond.methodLink RX8 193 mX4_joinFaces.1 ∈ tblG := List.mem_filter.mpr ⟨List.mem_of_getElem? (i := 515) (by decide +kernel), by decide +kernel⟩
theorem kX4_68 : Cond.methodLink RX4 68 mX4_slipCount.1 ∈ tblG := List.mem_filter.mpr ⟨List.mem_of_getElem? (i := 519) (by decide +kernel), by decide +kernel⟩
theorem kL_65 : Cond.methodLink RL 65 mX8_undo.1 ∈ tblG := List.mem_filter.mpr ⟨List.mem_of_getElem? (i := 520) (by decide +kernel), by decide +kernel⟩
theorem kX8_196 : Cond.methodLink RX8 196 mX0_takeBack.1 ∈ tblG := List.mem_filter.mpr ⟨List.mem_of_getElem? (i := 524) (by decide +kernel), by decide +kernel⟩
theorem kX0_34 : Cond.methodLink RX0 34 mX4_setWire.1 ∈ tblG := List.mem_filter.mpr ⟨List.mem_of_getElem? (i := 528) (by decide +kernel), by decide +kernel⟩
theorem kX0_43 : Cond.methodLink RX0 43 mX4_swapAtWire.1 ∈ tblG := List.mem_filter.mpr ⟨List.mem_of_getElem? (i := 532) (by decide +kernel), by decide +kernel⟩
theorem kL_69 : Cond.methodLink RL 69 mX8_best.1 ∈ tblG := List.mem_filter.mpr ⟨List.mem_of_getElem? (i := 533) (by decide +kernel), by decide +kernel⟩
theorem kX8_200 : Cond.methodLink RX8 200 mX2_begin.1 ∈ tblG := List.mem_filter.mpr ⟨List.mem_of_getElem? (i := 537) (by decide +kernel), by decide +kernel⟩
theorem kX8_213 : Cond.methodLink RX8 213 mX5_deedCount.1 ∈ tblG := List.mem_filter.mpr ⟨List.mem_of_getElem? (i := 541) (by decide +kernel), by decide +kernel⟩
theorem kX5_91 : Cond.methodLink RX5 91 mX5_deedBits.1 ∈ tblG := List.mem_filter.mpr ⟨List.mem_of_getElem? (i := 545) (by decide +kernel), by decide +kernel⟩
theorem kX5_69 : Cond.methodLink RX5 69 mJ6_bitCount_0f7a4.1 ∈ tblG ∨ ∃ host, Cond.methodLinkNest RX5 69 mJ6_bitCount_0f7a4.1 host ∈ nestW := Or.inl (List.mem_filter.mpr ⟨List.mem_of_getElem? (i := 546) (by decide +kernel), by decide +kernel⟩)
theorem kX8_216 : Cond.methodLink RX8 216 mX5_partedCount.1 ∈ tblG := List.mem_filter.mpr ⟨List.mem_of_getElem? (i := 552) (by decide +kernel), by decide +kernel⟩
theorem kX5_65 : Cond.methodLink RX5 65 mX5_partedBits.1 ∈ tblG := List.mem_filter.mpr ⟨List.mem_of_getElem? (i := 556) (by decide +kernel), by decide +kernel⟩
theorem kX8_219 : Cond.methodLink RX8 219 mX7_figures.1 ∈ tblG := List.mem_filter.mpr ⟨List.mem_of_getElem? (i := 557) (by decide +kernel), by decide +kernel⟩
theorem kX8_222 : Cond.methodLink RX8 222 mX2_offer.1 ∈ tblG := List.mem_filter.mpr ⟨List.mem_of_getElem? (i := 562) (by decide +kernel), by decide +kernel⟩
theorem kL_73 : Cond.methodLink RL 73 mX8_fewest.1 ∈ tblG := List.mem_filter.mpr ⟨List.mem_of_getElem? (i := 566) (by decide +kernel), by decide +kernel⟩
theorem kX8_235 : Cond.methodLink RX8 235 mX8_isDeed.1 ∈ tblG := List.mem_filter.mpr ⟨List.mem_of_getElem? (i := 570) (by decide +kernel), by decide +kernel⟩
theorem kX8_238 : Cond.methodLink RX8 238 mX5_isDone.1 ∈ tblG := List.mem_filter.mpr ⟨List.mem_of_getElem? (i := 574) (by decide +kernel), by decide +kernel⟩
theorem kL_77 : Cond.methodLink RL 77 mX8_fair.1 ∈ tblG := List.mem_filter.mpr ⟨List.mem_of_getElem? (i := 575) (by decide +kernel), by decide +kernel⟩
theorem kX8_242 : Cond.methodLink RX8 242 mX8_isWorth.1 ∈ tblG ∨ ∃ host, Cond.methodLinkNest RX8 242 mX8_isWorth.1 host ∈ nestW := Or.inl (List.mem_filter.mpr ⟨List.mem_of_getElem? (i := 579) (by decide +kernel), by decide +kernel⟩)
theorem kX8_245 : Cond.methodLink RX8 245 mX5_worth.1 ∈ tblG := List.mem_filter.mpr ⟨List.mem_of_getElem? (i := 582) (by decide +kernel), by decide +kernel⟩
theorem kL_81 : Cond.methodLink RL 81 mX8_judge.1 ∈ tblG := List.mem_filter.mpr ⟨List.mem_of_getElem? (i := 586) (by decide +kernel), by decide +kernel⟩
theorem kX8_249 : Cond.methodLink RX8 249 mX4_copyOf.1 ∈ tblG := List.mem_filter.mpr ⟨List.mem_of_getElem? (i := 590) (by decide +kernel), by decide +kernel⟩
theorem kX8_252 : Cond.methodLink RX8 252 mX4_act.1 ∈ tblG := List.mem_filter.mpr ⟨List.mem_of_getElem? (i := 594) (by decide +kernel), by decide +kernel⟩
theorem kX4_48 : Cond.methodLink RX4 48 mX4_moveWire.1 ∈ tblG := List.mem_filter.mpr ⟨List.mem_of_getElem? (i := 598) (by decide +kernel), by decide +kernel⟩
theorem kX4_52 : Cond.methodLink RX4 52 mX4_swapAtWire.1 ∈ tblG := List.mem_filter.mpr ⟨List.mem_of_getElem? (i := 599) (by decide +kernel), by decide +kernel⟩
theorem kX4_56 : Cond.methodLink RX4 56 mX4_joinFaces.1 ∈ tblG := List.mem_filter.mpr ⟨List.mem_of_getElem? (i := 600) (by decide +kernel), by decide +kernel⟩
theorem kL_85 : Cond.methodLink RL 85 mX8_share.1 ∈ tblG := List.mem_filter.mpr ⟨List.mem_of_getElem? (i := 601) (by decide +kernel), by decide +kernel⟩
theorem kX8_255 : Cond.methodLink RX8 255 mJ6_bitCount_0f7a4.1 ∈ tblG ∨ ∃ host, Cond.methodLinkNest RX8 255 mJ6_bitCount_0f7a4.1 host ∈ nestW := Or.inl (List.mem_filter.mpr ⟨List.mem_of_getElem? (i := 605) (by decide +kernel), by decide +kernel⟩)
theorem kX8_260 : Cond.methodLink RX8 260 mX8_ordersWith.1 ∈ tblG := List.mem_filter.mpr ⟨List.mem_of_getElem? (i := 606) (by decide +kernel), by decide +kernel⟩
theorem kX8_266 : Cond.methodLink RX8 266 mX8_fraction.1 ∈ tblG ∨ ∃ host, Cond.methodLinkNest RX8 266 mX8_fraction.1 host ∈ nestW := Or.inl (List.mem_filter.mpr ⟨List.mem_of_getElem? (i := 612) (by decide +kernel), by decide +kernel⟩)
theorem kX8_296 : Cond.methodLink RX8 296 mX8_commonDivisor.1 ∈ tblG ∨ ∃ host, Cond.methodLinkNest RX8 296 mX8_commonDivisor.1 host ∈ nestW := Or.inl (List.mem_filter.mpr ⟨List.mem_of_getElem? (i := 615) (by decide +kernel), by decide +kernel⟩)
theorem kL_90 : Cond.methodLink RL 90 mX8_see.1 ∈ tblG := List.mem_filter.mpr ⟨List.mem_of_getElem? (i := 618) (by decide +kernel), by decide +kernel⟩
theorem kX8_270 : Cond.methodLink RX8 270 mX3_append.1 ∈ tblG := List.mem_filter.mpr ⟨List.mem_of_getElem? (i := 622) (by decide +kernel), by decide +kernel⟩
theorem kL_94 : Cond.methodLink RL 94 mX8_unsee.1 ∈ tblG := List.mem_filter.mpr ⟨List.mem_of_getElem? (i := 626) (by decide +kernel), by decide +kernel⟩
theorem kL_98 : Cond.methodLink RL 98 mX8_traces.1 ∈ tblG := List.mem_filter.mpr ⟨List.mem_of_getElem? (i := 630) (by decide +kernel), by decide +kernel⟩
theorem kX8_272 : Cond.methodLink RX8 272 mX3_agreesWith.1 ∈ tblG := List.mem_filter.mpr ⟨List.mem_of_getElem? (i := 634) (by decide +kernel), by decide +kernel⟩
theorem kX3_22 : Cond.methodLink RX3 22 mX3_isSo.1 ∈ tblG ∨ ∃ host, Cond.methodLinkNest RX3 22 mX3_isSo.1 host ∈ nestW := Or.inl (List.mem_filter.mpr ⟨List.mem_of_getElem? (i := 638) (by decide +kernel), by decide +kernel⟩)
theorem kX3_26 : Cond.methodLink RX3 26 mX5_cellsIn.1 ∈ tblG := List.mem_filter.mpr ⟨List.mem_of_getElem? (i := 641) (by decide +kernel), by decide +kernel⟩
theorem kL_102 : Cond.methodLink RL 102 mX8_rests.1 ∈ tblG := List.mem_filter.mpr ⟨List.mem_of_getElem? (i := 642) (by decide +kernel), by decide +kernel⟩
theorem kX8_276 : Cond.methodLink RX8 276 mX8_isAtRest.1 ∈ tblG := List.mem_filter.mpr ⟨List.mem_of_getElem? (i := 646) (by decide +kernel), by decide +kernel⟩
theorem kX8_290 : Cond.methodLink RX8 290 mX8_holding.1 ∈ tblG := List.mem_filter.mpr ⟨List.mem_of_getElem? (i := 650) (by decide +kernel), by decide +kernel⟩
theorem kX8_279 : Cond.methodLink RX8 279 mJ9_min_7cf53.1 ∈ tblG ∨ ∃ host, Cond.methodLinkNest RX8 279 mJ9_min_7cf53.1 host ∈ nestW := Or.inl (List.mem_filter.mpr ⟨List.mem_of_getElem? (i := 654) (by decide +kernel), by decide +kernel⟩)
theorem kX8_293 : Cond.methodLink RX8 293 mJ9_max_7cf53.1 ∈ tblG ∨ ∃ host, Cond.methodLinkNest RX8 293 mJ9_max_7cf53.1 host ∈ nestW := Or.inl (List.mem_filter.mpr ⟨List.mem_of_getElem? (i := 655) (by decide +kernel), by decide +kernel⟩)
theorem kL_106 : Cond.methodLink RL 106 mX8_slips.1 ∈ tblG := List.mem_filter.mpr ⟨List.mem_of_getElem? (i := 656) (by decide +kernel), by decide +kernel⟩
theorem kL_113 : Cond.methodLink RL 113 mX8_seed.1 ∈ tblG := List.mem_filter.mpr ⟨List.mem_of_getElem? (i := 660) (by decide +kernel), by decide +kernel⟩
theorem kL_118 : Cond.methodLink RL 118 mX8_years.1 ∈ tblG := List.mem_filter.mpr ⟨List.mem_of_getElem? (i := 664) (by decide +kernel), by decide +kernel⟩
theorem kL_122 : Cond.methodLink RL 122 mX8_keep.1 ∈ tblG := List.mem_filter.mpr ⟨List.mem_of_getElem? (i := 671) (by decide +kernel), by decide +kernel⟩
theorem kL_126 : Cond.methodLink RL 126 mX8_again.1 ∈ tblG := List.mem_filter.mpr ⟨List.mem_of_getElem? (i := 675) (by decide +kernel), by decide +kernel⟩
theorem kL_12 : Cond.methodLink RL 12 mX9_init.1 ∈ tblG := List.mem_filter.mpr ⟨List.mem_of_getElem? (i := 681) (by decide +kernel), by decide +kernel⟩
theorem kL_17 : Cond.methodLink RL 17 mX9_write.1 ∈ tblG := List.mem_filter.mpr ⟨List.mem_of_getElem? (i := 791) (by decide +kernel), by decide +kernel⟩
theorem kX9_74 : Cond.methodLink RX9 74 mX9_in.1 ∈ tblG ∨ ∃ host, Cond.methodLinkNest RX9 74 mX9_in.1 host ∈ nestW := Or.inl (List.mem_filter.mpr ⟨List.mem_of_getElem? (i := 796) (by decide +kernel), by decide +kernel⟩)
theorem kL_22 : Cond.methodLink RL 22 mX9_wipe.1 ∈ tblG := List.mem_filter.mpr ⟨List.mem_of_getElem? (i := 799) (by decide +kernel), by decide +kernel⟩
theorem kL_26 : Cond.methodLink RL 26 mX9_fault.1 ∈ tblG := List.mem_filter.mpr ⟨List.mem_of_getElem? (i := 803) (by decide +kernel), by decide +kernel⟩
theorem kX9_110 : Cond.methodLink RX9 110 mX9_readFamily.1 ∈ tblG := List.mem_filter.mpr ⟨List.mem_of_getElem? (i := 807) (by decide +kernel), by decide +kernel⟩
theorem kX9_107 : Cond.methodLink RX9 107 mX9_readThing.1 ∈ tblG := List.mem_filter.mpr ⟨List.mem_of_getElem? (i := 811) (by decide +kernel), by decide +kernel⟩
theorem kX9_97 : Cond.methodLink RX9 97 mX9_readOneKin.1 ∈ tblG := List.mem_filter.mpr ⟨List.mem_of_getElem? (i := 815) (by decide +kernel), by decide +kernel⟩
theorem kX9_84 : Cond.methodLink RX9 84 mX9_from.1 ∈ tblG := List.mem_filter.mpr ⟨List.mem_of_getElem? (i := 819) (by decide +kernel), by decide +kernel⟩
theorem kX9_101 : Cond.methodLink RX9 101 mX9_readOneRow.1 ∈ tblG := List.mem_filter.mpr ⟨List.mem_of_getElem? (i := 823) (by decide +kernel), by decide +kernel⟩
theorem kX9_104 : Cond.methodLink RX9 104 mX9_readOneDeed.1 ∈ tblG := List.mem_filter.mpr ⟨List.mem_of_getElem? (i := 827) (by decide +kernel), by decide +kernel⟩
theorem kL_30 : Cond.methodLink RL 30 mX9_family.1 ∈ tblG := List.mem_filter.mpr ⟨List.mem_of_getElem? (i := 831) (by decide +kernel), by decide +kernel⟩
theorem kX9_123 : Cond.methodLink RX9 123 mX9_copyRow.1 ∈ tblG ∨ ∃ host, Cond.methodLinkNest RX9 123 mX9_copyRow.1 host ∈ nestW := Or.inl (List.mem_filter.mpr ⟨List.mem_of_getElem? (i := 835) (by decide +kernel), by decide +kernel⟩)
theorem kL_34 : Cond.methodLink RL 34 mX9_about.1 ∈ tblG := List.mem_filter.mpr ⟨List.mem_of_getElem? (i := 838) (by decide +kernel), by decide +kernel⟩
theorem kX9_152 : Cond.methodLink RX9 152 mX9_layHalves.1 ∈ tblG := List.mem_filter.mpr ⟨List.mem_of_getElem? (i := 842) (by decide +kernel), by decide +kernel⟩
theorem kX9_156 : Cond.methodLink RX9 156 mX9_figuresOf.1 ∈ tblG := List.mem_filter.mpr ⟨List.mem_of_getElem? (i := 846) (by decide +kernel), by decide +kernel⟩
theorem kX9_160 : Cond.methodLink RX9 160 mX9_slipsOf.1 ∈ tblG := List.mem_filter.mpr ⟨List.mem_of_getElem? (i := 850) (by decide +kernel), by decide +kernel⟩
theorem kX9_163 : Cond.methodLink RX9 163 mX9_partedLaid.1 ∈ tblG := List.mem_filter.mpr ⟨List.mem_of_getElem? (i := 854) (by decide +kernel), by decide +kernel⟩
theorem kX9_166 : Cond.methodLink RX9 166 mX9_wires.1 ∈ tblG := List.mem_filter.mpr ⟨List.mem_of_getElem? (i := 858) (by decide +kernel), by decide +kernel⟩
theorem kX9_142 : Cond.methodLink RX9 142 mX9_power.1 ∈ tblG ∨ ∃ host, Cond.methodLinkNest RX9 142 mX9_power.1 host ∈ nestW := Or.inl (List.mem_filter.mpr ⟨List.mem_of_getElem? (i := 862) (by decide +kernel), by decide +kernel⟩)
theorem kX9_148 : Cond.methodLink RX9 148 mX9_layWire.1 ∈ tblG := List.mem_filter.mpr ⟨List.mem_of_getElem? (i := 865) (by decide +kernel), by decide +kernel⟩
theorem kL_39 : Cond.methodLink RL 39 mX9_cell.1 ∈ tblG := List.mem_filter.mpr ⟨List.mem_of_getElem? (i := 870) (by decide +kernel), by decide +kernel⟩
theorem kX9_134 : Cond.methodLink RX9 134 mX9_countsFor.1 ∈ tblG := List.mem_filter.mpr ⟨List.mem_of_getElem? (i := 875) (by decide +kernel), by decide +kernel⟩
theorem kL_44 : Cond.methodLink RL 44 mX9_kin.1 ∈ tblG := List.mem_filter.mpr ⟨List.mem_of_getElem? (i := 879) (by decide +kernel), by decide +kernel⟩
theorem kX9_174 : Cond.methodLink RX9 174 mX9_countsOf.1 ∈ tblG := List.mem_filter.mpr ⟨List.mem_of_getElem? (i := 883) (by decide +kernel), by decide +kernel⟩
theorem kX9_138 : Cond.methodLink RX9 138 mX9_countOf.1 ∈ tblG := List.mem_filter.mpr ⟨List.mem_of_getElem? (i := 887) (by decide +kernel), by decide +kernel⟩
theorem kX9_130 : Cond.methodLink RX9 130 mX9_isIn.1 ∈ tblG ∨ ∃ host, Cond.methodLinkNest RX9 130 mX9_isIn.1 host ∈ nestW := Or.inl (List.mem_filter.mpr ⟨List.mem_of_getElem? (i := 891) (by decide +kernel), by decide +kernel⟩)
theorem kL_48 : Cond.methodLink RL 48 mX9_has.1 ∈ tblG := List.mem_filter.mpr ⟨List.mem_of_getElem? (i := 894) (by decide +kernel), by decide +kernel⟩
theorem kL_52 : Cond.methodLink RL 52 mX9_can.1 ∈ tblG := List.mem_filter.mpr ⟨List.mem_of_getElem? (i := 899) (by decide +kernel), by decide +kernel⟩
theorem kX9_179 : Cond.methodLink RX9 179 mX9_canOf.1 ∈ tblG := List.mem_filter.mpr ⟨List.mem_of_getElem? (i := 903) (by decide +kernel), by decide +kernel⟩
theorem kL_56 : Cond.methodLink RL 56 mX9_draw.1 ∈ tblG := List.mem_filter.mpr ⟨List.mem_of_getElem? (i := 907) (by decide +kernel), by decide +kernel⟩
theorem kX9_184 : Cond.methodLink RX9 184 mX9_canDraw.1 ∈ tblG := List.mem_filter.mpr ⟨List.mem_of_getElem? (i := 911) (by decide +kernel), by decide +kernel⟩
theorem kX9_188 : Cond.methodLink RX9 188 mX9_note.1 ∈ tblG := List.mem_filter.mpr ⟨List.mem_of_getElem? (i := 916) (by decide +kernel), by decide +kernel⟩
theorem kL_60 : Cond.methodLink RL 60 mX9_change.1 ∈ tblG := List.mem_filter.mpr ⟨List.mem_of_getElem? (i := 920) (by decide +kernel), by decide +kernel⟩
theorem kX9_191 : Cond.methodLink RX9 191 mX9_swap.1 ∈ tblG ∨ ∃ host, Cond.methodLinkNest RX9 191 mX9_swap.1 host ∈ nestW := Or.inl (List.mem_filter.mpr ⟨List.mem_of_getElem? (i := 924) (by decide +kernel), by decide +kernel⟩)
theorem kL_64 : Cond.methodLink RL 64 mX9_join.1 ∈ tblG := List.mem_filter.mpr ⟨List.mem_of_getElem? (i := 927) (by decide +kernel), by decide +kernel⟩
theorem kX9_195 : Cond.methodLink RX9 195 mX9_rejoin.1 ∈ tblG := List.mem_filter.mpr ⟨List.mem_of_getElem? (i := 931) (by decide +kernel), by decide +kernel⟩
theorem kL_68 : Cond.methodLink RL 68 mX9_undo.1 ∈ tblG := List.mem_filter.mpr ⟨List.mem_of_getElem? (i := 935) (by decide +kernel), by decide +kernel⟩
theorem kL_72 : Cond.methodLink RL 72 mX9_best.1 ∈ tblG := List.mem_filter.mpr ⟨List.mem_of_getElem? (i := 939) (by decide +kernel), by decide +kernel⟩
theorem kX9_198 : Cond.methodLink RX9 198 mX9_many.1 ∈ tblG ∨ ∃ host, Cond.methodLinkNest RX9 198 mX9_many.1 host ∈ nestW := Or.inl (List.mem_filter.mpr ⟨List.mem_of_getElem? (i := 943) (by decide +kernel), by decide +kernel⟩)
theorem kL_76 : Cond.methodLink RL 76 mX9_fewest.1 ∈ tblG := List.mem_filter.mpr ⟨List.mem_of_getElem? (i := 946) (by decide +kernel), by decide +kernel⟩
theorem kL_80 : Cond.methodLink RL 80 mX9_fair.1 ∈ tblG := List.mem_filter.mpr ⟨List.mem_of_getElem? (i := 950) (by decide +kernel), by decide +kernel⟩
theorem kX9_204 : Cond.methodLink RX9 204 mX9_worthOf.1 ∈ tblG := List.mem_filter.mpr ⟨List.mem_of_getElem? (i := 955) (by decide +kernel), by decide +kernel⟩
theorem kL_84 : Cond.methodLink RL 84 mX9_judge.1 ∈ tblG := List.mem_filter.mpr ⟨List.mem_of_getElem? (i := 959) (by decide +kernel), by decide +kernel⟩
theorem kX9_207 : Cond.methodLink RX9 207 mX9_does.1 ∈ tblG := List.mem_filter.mpr ⟨List.mem_of_getElem? (i := 963) (by decide +kernel), by decide +kernel⟩
theorem kL_89 : Cond.methodLink RL 89 mX9_share.1 ∈ tblG := List.mem_filter.mpr ⟨List.mem_of_getElem? (i := 967) (by decide +kernel), by decide +kernel⟩
theorem kX9_213 : Cond.methodLink RX9 213 mX9_ways.1 ∈ tblG ∨ ∃ host, Cond.methodLinkNest RX9 213 mX9_ways.1 host ∈ nestW := Or.inl (List.mem_filter.mpr ⟨List.mem_of_getElem? (i := 971) (by decide +kernel), by decide +kernel⟩)
theorem kX9_216 : Cond.methodLink RX9 216 mX9_fraction.1 ∈ tblG ∨ ∃ host, Cond.methodLinkNest RX9 216 mX9_fraction.1 host ∈ nestW := Or.inl (List.mem_filter.mpr ⟨List.mem_of_getElem? (i := 974) (by decide +kernel), by decide +kernel⟩)
theorem kX9_210 : Cond.methodLink RX9 210 mX9_divisor.1 ∈ tblG ∨ ∃ host, Cond.methodLinkNest RX9 210 mX9_divisor.1 host ∈ nestW := Or.inl (List.mem_filter.mpr ⟨List.mem_of_getElem? (i := 977) (by decide +kernel), by decide +kernel⟩)
theorem kL_93 : Cond.methodLink RL 93 mX9_see.1 ∈ tblG := List.mem_filter.mpr ⟨List.mem_of_getElem? (i := 980) (by decide +kernel), by decide +kernel⟩
theorem kL_97 : Cond.methodLink RL 97 mX9_unsee.1 ∈ tblG := List.mem_filter.mpr ⟨List.mem_of_getElem? (i := 985) (by decide +kernel), by decide +kernel⟩
theorem kL_101 : Cond.methodLink RL 101 mX9_traces.1 ∈ tblG := List.mem_filter.mpr ⟨List.mem_of_getElem? (i := 989) (by decide +kernel), by decide +kernel⟩
theorem kX9_228 : Cond.methodLink RX9 228 mX9_isSeen.1 ∈ tblG := List.mem_filter.mpr ⟨List.mem_of_getElem? (i := 993) (by decide +kernel), by decide +kernel⟩
theorem kL_105 : Cond.methodLink RL 105 mX9_rests.1 ∈ tblG := List.mem_filter.mpr ⟨List.mem_of_getElem? (i := 997) (by decide +kernel), by decide +kernel⟩
theorem kX9_237 : Cond.methodLink RX9 237 mX9_pulled.1 ∈ tblG := List.mem_filter.mpr ⟨List.mem_of_getElem? (i := 1001) (by decide +kernel), by decide +kernel⟩
theorem kL_110 : Cond.methodLink RL 110 mX9_slips.1 ∈ tblG := List.mem_filter.mpr ⟨List.mem_of_getElem? (i := 1005) (by decide +kernel), by decide +kernel⟩
theorem kL_117 : Cond.methodLink RL 117 mX9_seed.1 ∈ tblG := List.mem_filter.mpr ⟨List.mem_of_getElem? (i := 1010) (by decide +kernel), by decide +kernel⟩
theorem kL_121 : Cond.methodLink RL 121 mX9_years.1 ∈ tblG := List.mem_filter.mpr ⟨List.mem_of_getElem? (i := 1014) (by decide +kernel), by decide +kernel⟩
theorem kL_125 : Cond.methodLink RL 125 mX9_keep.1 ∈ tblG := List.mem_filter.mpr ⟨List.mem_of_getElem? (i := 1022) (by decide +kernel), by decide +kernel⟩
theorem kL_129 : Cond.methodLink RL 129 mX9_again.1 ∈ tblG := List.mem_filter.mpr ⟨List.mem_of_getElem? (i := 1026) (by decide +kernel), by decide +kernel⟩
theorem kX8_11 : Cond.methodLinkNest RX8 11 mX6_init.1 "WireFamily" ∈ nestW := List.mem_filter.mpr ⟨List.mem_of_getElem? (i := 25) (by decide +kernel), rfl⟩
theorem kX8_18 : Cond.methodLinkNest RX8 18 mX1_init.1 "WireFamily" ∈ nestW := List.mem_filter.mpr ⟨List.mem_of_getElem? (i := 40) (by decide +kernel), rfl⟩
theorem kX8_48 : Cond.methodLinkNest RX8 48 mX0_init.1 "WireFamily" ∈ nestW := List.mem_filter.mpr ⟨List.mem_of_getElem? (i := 110) (by decide +kernel), rfl⟩
theorem kX8_62 : Cond.methodLinkNest RX8 62 mX3_init.1 "WireFamily" ∈ nestW := List.mem_filter.mpr ⟨List.mem_of_getElem? (i := 147) (by decide +kernel), rfl⟩
theorem kX8_69 : Cond.methodLinkNest RX8 69 mX7_init.1 "WireFamily" ∈ nestW := List.mem_filter.mpr ⟨List.mem_of_getElem? (i := 164) (by decide +kernel), rfl⟩
theorem kX8_76 : Cond.methodLinkNest RX8 76 mX2_init.1 "WireFamily" ∈ nestW := List.mem_filter.mpr ⟨List.mem_of_getElem? (i := 182) (by decide +kernel), rfl⟩
theorem kX4_44 : Cond.methodLink RX4 44 mX8_figuresOf.1 ∈ tblG ∨ ∃ host, Cond.methodLinkNest RX4 44 mX8_figuresOf.1 host ∈ nestW := Or.inr ⟨"WireFamily", List.mem_filter.mpr ⟨List.mem_of_getElem? (i := 321) (by decide +kernel), rfl⟩⟩
theorem kX5_38 : Cond.methodLink RX5 38 mX8_halfOf.1 ∈ tblG ∨ ∃ host, Cond.methodLinkNest RX5 38 mX8_halfOf.1 host ∈ nestW := Or.inr ⟨"WireFamily", List.mem_filter.mpr ⟨List.mem_of_getElem? (i := 341) (by decide +kernel), rfl⟩⟩
theorem kX5_45 : Cond.methodLink RX5 45 mX8_kinOf.1 ∈ tblG ∨ ∃ host, Cond.methodLinkNest RX5 45 mX8_kinOf.1 host ∈ nestW := Or.inr ⟨"WireFamily", List.mem_filter.mpr ⟨List.mem_of_getElem? (i := 344) (by decide +kernel), rfl⟩⟩
theorem kX5_52 : Cond.methodLink RX5 52 mX8_partOf.1 ∈ tblG ∨ ∃ host, Cond.methodLinkNest RX5 52 mX8_partOf.1 host ∈ nestW := Or.inr ⟨"WireFamily", List.mem_filter.mpr ⟨List.mem_of_getElem? (i := 351) (by decide +kernel), rfl⟩⟩
theorem kX7_35 : Cond.methodLink RX7 35 mX8_figuresOf.1 ∈ tblG ∨ ∃ host, Cond.methodLinkNest RX7 35 mX8_figuresOf.1 host ∈ nestW := Or.inr ⟨"WireFamily", List.mem_filter.mpr ⟨List.mem_of_getElem? (i := 520) (by decide +kernel), rfl⟩⟩
theorem fX6_9 : FL RX6 9 6 0 := ⟨RX6, TX6, 2, rfl, by decide, in_X6, Or.inl (List.mem_filter.mpr ⟨List.mem_of_getElem? (i := 70) (by decide +kernel), by decide +kernel⟩)⟩
theorem fX6_15 : FL RX6 15 6 1 := ⟨RX6, TX6, 2, rfl, by decide, in_X6, Or.inl (List.mem_filter.mpr ⟨List.mem_of_getElem? (i := 71) (by decide +kernel), by decide +kernel⟩)⟩
theorem pX6_15 : FP RX6 15 6 1 .int := ⟨RX6, TX6, 2, rfl, by decide, in_X6, Or.inl (List.mem_filter.mpr ⟨List.mem_of_getElem? (i := 71) (by decide +kernel), by decide +kernel⟩), ⟨tyX6, tyX6_ok⟩, nmX6, rfl, by decide +kernel⟩
theorem fX1_9 : FL RX1 9 1 0 := ⟨RX1, TX1, 9, rfl, by decide, in_X1, Or.inl (List.mem_filter.mpr ⟨List.mem_of_getElem? (i := 85) (by decide +kernel), by decide +kernel⟩)⟩
theorem fX1_15 : FL RX1 15 1 1 := ⟨RX1, TX1, 9, rfl, by decide, in_X1, Or.inl (List.mem_filter.mpr ⟨List.mem_of_getElem? (i := 88) (by decide +kernel), by decide +kernel⟩)⟩
theorem fX1_18 : FL RX1 18 1 2 := ⟨RX1, TX1, 9, rfl, by decide, in_X1, Or.inl (List.mem_filter.mpr ⟨List.mem_of_getElem? (i := 90) (by decide +kernel), by decide +kernel⟩)⟩
theorem fX1_21 : FL RX1 21 1 3 := ⟨RX1, TX1, 9, rfl, by decide, in_X1, Or.inl (List.mem_filter.mpr ⟨List.mem_of_getElem? (i := 92) (by decide +kernel), by decide +kernel⟩)⟩
theorem fX1_24 : FL RX1 24 1 4 := ⟨RX1, TX1, 9, rfl, by decide, in_X1, Or.inl (List.mem_filter.mpr ⟨List.mem_of_getElem? (i := 94) (by decide +kernel), by decide +kernel⟩)⟩
theorem pX1_24 : FP RX1 24 1 4 .int := ⟨RX1, TX1, 9, rfl, by decide, in_X1, Or.inl (List.mem_filter.mpr ⟨List.mem_of_getElem? (i := 94) (by decide +kernel), by decide +kernel⟩), ⟨tyX1, tyX1_ok⟩, nmX1, rfl, by decide +kernel⟩
theorem fX1_28 : FL RX1 28 1 5 := ⟨RX1, TX1, 9, rfl, by decide, in_X1, Or.inl (List.mem_filter.mpr ⟨List.mem_of_getElem? (i := 97) (by decide +kernel), by decide +kernel⟩)⟩
theorem pX1_28 : FP RX1 28 1 5 .int := ⟨RX1, TX1, 9, rfl, by decide, in_X1, Or.inl (List.mem_filter.mpr ⟨List.mem_of_getElem? (i := 97) (by decide +kernel), by decide +kernel⟩), ⟨tyX1, tyX1_ok⟩, nmX1, rfl, by decide +kernel⟩
theorem fX1_31 : FL RX1 31 1 6 := ⟨RX1, TX1, 9, rfl, by decide, in_X1, Or.inl (List.mem_filter.mpr ⟨List.mem_of_getElem? (i := 101) (by decide +kernel), by decide +kernel⟩)⟩
theorem pX1_31 : FP RX1 31 1 6 .int := ⟨RX1, TX1, 9, rfl, by decide, in_X1, Or.inl (List.mem_filter.mpr ⟨List.mem_of_getElem? (i := 101) (by decide +kernel), by decide +kernel⟩), ⟨tyX1, tyX1_ok⟩, nmX1, rfl, by decide +kernel⟩
theorem fX1_37 : FL RX1 37 1 7 := ⟨RX1, TX1, 9, rfl, by decide, in_X1, Or.inl (List.mem_filter.mpr ⟨List.mem_of_getElem? (i := 104) (by decide +kernel), by decide +kernel⟩)⟩
theorem pX1_37 : FP RX1 37 1 7 .int := ⟨RX1, TX1, 9, rfl, by decide, in_X1, Or.inl (List.mem_filter.mpr ⟨List.mem_of_getElem? (i := 104) (by decide +kernel), by decide +kernel⟩), ⟨tyX1, tyX1_ok⟩, nmX1, rfl, by decide +kernel⟩
theorem fX1_34 : FL RX1 34 1 8 := ⟨RX1, TX1, 9, rfl, by decide, in_X1, Or.inl (List.mem_filter.mpr ⟨List.mem_of_getElem? (i := 105) (by decide +kernel), by decide +kernel⟩)⟩
theorem pX1_34 : FP RX1 34 1 8 .int := ⟨RX1, TX1, 9, rfl, by decide, in_X1, Or.inl (List.mem_filter.mpr ⟨List.mem_of_getElem? (i := 105) (by decide +kernel), by decide +kernel⟩), ⟨tyX1, tyX1_ok⟩, nmX1, rfl, by decide +kernel⟩
theorem fX4_18 : FL RX4 18 4 0 := ⟨RX4, TX4, 4, rfl, by decide, in_X4, Or.inl (List.mem_filter.mpr ⟨List.mem_of_getElem? (i := 131) (by decide +kernel), by decide +kernel⟩)⟩
theorem fX4_9 : FL RX4 9 4 1 := ⟨RX4, TX4, 4, rfl, by decide, in_X4, Or.inl (List.mem_filter.mpr ⟨List.mem_of_getElem? (i := 132) (by decide +kernel), by decide +kernel⟩)⟩
theorem fX4_15 : FL RX4 15 4 2 := ⟨RX4, TX4, 4, rfl, by decide, in_X4, Or.inl (List.mem_filter.mpr ⟨List.mem_of_getElem? (i := 134) (by decide +kernel), by decide +kernel⟩)⟩
theorem fX4_37 : FL RX4 37 4 3 := ⟨RX4, TX4, 4, rfl, by decide, in_X4, Or.inl (List.mem_filter.mpr ⟨List.mem_of_getElem? (i := 136) (by decide +kernel), by decide +kernel⟩)⟩
theorem pX4_37 : FP RX4 37 4 3 .int := ⟨RX4, TX4, 4, rfl, by decide, in_X4, Or.inl (List.mem_filter.mpr ⟨List.mem_of_getElem? (i := 136) (by decide +kernel), by decide +kernel⟩), ⟨tyX4, tyX4_ok⟩, nmX4, rfl, by decide +kernel⟩
theorem fX0_9 : FL RX0 9 0 0 := ⟨RX0, TX0, 4, rfl, by decide, in_X0, Or.inl (List.mem_filter.mpr ⟨List.mem_of_getElem? (i := 155) (by decide +kernel), by decide +kernel⟩)⟩
theorem fX0_15 : FL RX0 15 0 1 := ⟨RX0, TX0, 4, rfl, by decide, in_X0, Or.inl (List.mem_filter.mpr ⟨List.mem_of_getElem? (i := 156) (by decide +kernel), by decide +kernel⟩)⟩
theorem fX0_18 : FL RX0 18 0 2 := ⟨RX0, TX0, 4, rfl, by decide, in_X0, Or.inl (List.mem_filter.mpr ⟨List.mem_of_getElem? (i := 157) (by decide +kernel), by decide +kernel⟩)⟩
theorem fX0_21 : FL RX0 21 0 3 := ⟨RX0, TX0, 4, rfl, by decide, in_X0, Or.inl (List.mem_filter.mpr ⟨List.mem_of_getElem? (i := 158) (by decide +kernel), by decide +kernel⟩)⟩
theorem pX0_21 : FP RX0 21 0 3 .int := ⟨RX0, TX0, 4, rfl, by decide, in_X0, Or.inl (List.mem_filter.mpr ⟨List.mem_of_getElem? (i := 158) (by decide +kernel), by decide +kernel⟩), ⟨tyX0, tyX0_ok⟩, nmX0, rfl, by decide +kernel⟩
theorem fX5_18 : FL RX5 18 5 0 := ⟨RX5, TX5, 3, rfl, by decide, in_X5, Or.inl (List.mem_filter.mpr ⟨List.mem_of_getElem? (i := 176) (by decide +kernel), by decide +kernel⟩)⟩
theorem fX5_9 : FL RX5 9 5 1 := ⟨RX5, TX5, 3, rfl, by decide, in_X5, Or.inl (List.mem_filter.mpr ⟨List.mem_of_getElem? (i := 177) (by decide +kernel), by decide +kernel⟩)⟩
theorem fX5_15 : FL RX5 15 5 2 := ⟨RX5, TX5, 3, rfl, by decide, in_X5, Or.inl (List.mem_filter.mpr ⟨List.mem_of_getElem? (i := 178) (by decide +kernel), by decide +kernel⟩)⟩
theorem fX3_9 : FL RX3 9 3 0 := ⟨RX3, TX3, 3, rfl, by decide, in_X3, Or.inl (List.mem_filter.mpr ⟨List.mem_of_getElem? (i := 192) (by decide +kernel), by decide +kernel⟩)⟩
theorem fX3_15 : FL RX3 15 3 1 := ⟨RX3, TX3, 3, rfl, by decide, in_X3, Or.inl (List.mem_filter.mpr ⟨List.mem_of_getElem? (i := 193) (by decide +kernel), by decide +kernel⟩)⟩
theorem fX3_18 : FL RX3 18 3 2 := ⟨RX3, TX3, 3, rfl, by decide, in_X3, Or.inl (List.mem_filter.mpr ⟨List.mem_of_getElem? (i := 194) (by decide +kernel), by decide +kernel⟩)⟩
theorem pX3_18 : FP RX3 18 3 2 .int := ⟨RX3, TX3, 3, rfl, by decide, in_X3, Or.inl (List.mem_filter.mpr ⟨List.mem_of_getElem? (i := 194) (by decide +kernel), by decide +kernel⟩), ⟨tyX3, tyX3_ok⟩, nmX3, rfl, by decide +kernel⟩
theorem fX7_9 : FL RX7 9 7 0 := ⟨RX7, TX7, 3, rfl, by decide, in_X7, Or.inl (List.mem_filter.mpr ⟨List.mem_of_getElem? (i := 209) (by decide +kernel), by decide +kernel⟩)⟩
theorem fX7_21 : FL RX7 21 7 1 := ⟨RX7, TX7, 3, rfl, by decide, in_X7, Or.inl (List.mem_filter.mpr ⟨List.mem_of_getElem? (i := 211) (by decide +kernel), by decide +kernel⟩)⟩
theorem pX7_21 : FP RX7 21 7 1 .int := ⟨RX7, TX7, 3, rfl, by decide, in_X7, Or.inl (List.mem_filter.mpr ⟨List.mem_of_getElem? (i := 211) (by decide +kernel), by decide +kernel⟩), ⟨tyX7, tyX7_ok⟩, nmX7, rfl, by decide +kernel⟩
theorem fX7_31 : FL RX7 31 7 2 := ⟨RX7, TX7, 3, rfl, by decide, in_X7, Or.inl (List.mem_filter.mpr ⟨List.mem_of_getElem? (i := 212) (by decide +kernel), by decide +kernel⟩)⟩
theorem pX7_31 : FP RX7 31 7 2 .boolean := ⟨RX7, TX7, 3, rfl, by decide, in_X7, Or.inl (List.mem_filter.mpr ⟨List.mem_of_getElem? (i := 212) (by decide +kernel), by decide +kernel⟩), ⟨tyX7, tyX7_ok⟩, nmX7, rfl, by decide +kernel⟩
theorem fX2_9 : FL RX2 9 2 0 := ⟨RX2, TX2, 3, rfl, by decide, in_X2, Or.inl (List.mem_filter.mpr ⟨List.mem_of_getElem? (i := 227) (by decide +kernel), by decide +kernel⟩)⟩
theorem pX2_9 : FP RX2 9 2 0 .int := ⟨RX2, TX2, 3, rfl, by decide, in_X2, Or.inl (List.mem_filter.mpr ⟨List.mem_of_getElem? (i := 227) (by decide +kernel), by decide +kernel⟩), ⟨tyX2, tyX2_ok⟩, nmX2, rfl, by decide +kernel⟩
theorem fX2_15 : FL RX2 15 2 1 := ⟨RX2, TX2, 3, rfl, by decide, in_X2, Or.inl (List.mem_filter.mpr ⟨List.mem_of_getElem? (i := 229) (by decide +kernel), by decide +kernel⟩)⟩
theorem pX2_15 : FP RX2 15 2 1 .int := ⟨RX2, TX2, 3, rfl, by decide, in_X2, Or.inl (List.mem_filter.mpr ⟨List.mem_of_getElem? (i := 229) (by decide +kernel), by decide +kernel⟩), ⟨tyX2, tyX2_ok⟩, nmX2, rfl, by decide +kernel⟩
theorem fX2_18 : FL RX2 18 2 2 := ⟨RX2, TX2, 3, rfl, by decide, in_X2, Or.inl (List.mem_filter.mpr ⟨List.mem_of_getElem? (i := 231) (by decide +kernel), by decide +kernel⟩)⟩
theorem pX2_18 : FP RX2 18 2 2 .int := ⟨RX2, TX2, 3, rfl, by decide, in_X2, Or.inl (List.mem_filter.mpr ⟨List.mem_of_getElem? (i := 231) (by decide +kernel), by decide +kernel⟩), ⟨tyX2, tyX2_ok⟩, nmX2, rfl, by decide +kernel⟩
theorem fX8_12 : FL RX8 12 8 0 := ⟨RX8, TX8, 13, rfl, by decide, in_X8, Or.inl (List.mem_filter.mpr ⟨List.mem_of_getElem? (i := 240) (by decide +kernel), by decide +kernel⟩)⟩
theorem fX8_19 : FL RX8 19 8 1 := ⟨RX8, TX8, 13, rfl, by decide, in_X8, Or.inl (List.mem_filter.mpr ⟨List.mem_of_getElem? (i := 241) (by decide +kernel), by decide +kernel⟩)⟩
theorem fX8_23 : FL RX8 23 8 2 := ⟨RX8, TX8, 13, rfl, by decide, in_X8, Or.inl (List.mem_filter.mpr ⟨List.mem_of_getElem? (i := 242) (by decide +kernel), by decide +kernel⟩)⟩
theorem fX8_31 : FL RX8 31 8 3 := ⟨RX8, TX8, 13, rfl, by decide, in_X8, Or.inl (List.mem_filter.mpr ⟨List.mem_of_getElem? (i := 243) (by decide +kernel), by decide +kernel⟩)⟩
theorem fX8_35 : FL RX8 35 8 4 := ⟨RX8, TX8, 13, rfl, by decide, in_X8, Or.inl (List.mem_filter.mpr ⟨List.mem_of_getElem? (i := 244) (by decide +kernel), by decide +kernel⟩)⟩
theorem fX8_38 : FL RX8 38 8 5 := ⟨RX8, TX8, 13, rfl, by decide, in_X8, Or.inl (List.mem_filter.mpr ⟨List.mem_of_getElem? (i := 245) (by decide +kernel), by decide +kernel⟩)⟩
theorem fX8_42 : FL RX8 42 8 6 := ⟨RX8, TX8, 13, rfl, by decide, in_X8, Or.inl (List.mem_filter.mpr ⟨List.mem_of_getElem? (i := 246) (by decide +kernel), by decide +kernel⟩)⟩
theorem fX8_49 : FL RX8 49 8 7 := ⟨RX8, TX8, 13, rfl, by decide, in_X8, Or.inl (List.mem_filter.mpr ⟨List.mem_of_getElem? (i := 247) (by decide +kernel), by decide +kernel⟩)⟩
theorem fX8_56 : FL RX8 56 8 8 := ⟨RX8, TX8, 13, rfl, by decide, in_X8, Or.inl (List.mem_filter.mpr ⟨List.mem_of_getElem? (i := 248) (by decide +kernel), by decide +kernel⟩)⟩
theorem fX8_63 : FL RX8 63 8 9 := ⟨RX8, TX8, 13, rfl, by decide, in_X8, Or.inl (List.mem_filter.mpr ⟨List.mem_of_getElem? (i := 249) (by decide +kernel), by decide +kernel⟩)⟩
theorem fX8_70 : FL RX8 70 8 10 := ⟨RX8, TX8, 13, rfl, by decide, in_X8, Or.inl (List.mem_filter.mpr ⟨List.mem_of_getElem? (i := 250) (by decide +kernel), by decide +kernel⟩)⟩
theorem fX8_77 : FL RX8 77 8 11 := ⟨RX8, TX8, 13, rfl, by decide, in_X8, Or.inl (List.mem_filter.mpr ⟨List.mem_of_getElem? (i := 251) (by decide +kernel), by decide +kernel⟩)⟩
theorem fX8_81 : FL RX8 81 8 12 := ⟨RX8, TX8, 13, rfl, by decide, in_X8, Or.inl (List.mem_filter.mpr ⟨List.mem_of_getElem? (i := 252) (by decide +kernel), by decide +kernel⟩)⟩
theorem pX8_81 : FP RX8 81 8 12 .long := ⟨RX8, TX8, 13, rfl, by decide, in_X8, Or.inl (List.mem_filter.mpr ⟨List.mem_of_getElem? (i := 252) (by decide +kernel), by decide +kernel⟩), ⟨tyX8, tyX8_ok⟩, nmX8, rfl, by decide +kernel⟩
theorem fX8_263 : Cond.fieldLink RX8 263 "WireFamily" "FACTORIAL" "[I" ∈ tblG := List.mem_filter.mpr ⟨List.mem_of_getElem? (i := 610) (by decide +kernel), by decide +kernel⟩
theorem fX9_68 : FL RX9 68 9 0 := ⟨RX9, TX9, 35, rfl, by decide, in_X9, Or.inl (List.mem_filter.mpr ⟨List.mem_of_getElem? (i := 685) (by decide +kernel), by decide +kernel⟩)⟩
theorem pX9_68 : FP RX9 68 9 0 .int := ⟨RX9, TX9, 35, rfl, by decide, in_X9, Or.inl (List.mem_filter.mpr ⟨List.mem_of_getElem? (i := 685) (by decide +kernel), by decide +kernel⟩), ⟨tyX9, tyX9_ok⟩, nmX9, rfl, by decide +kernel⟩
theorem fX9_7 : FL RX9 7 9 1 := ⟨RX9, TX9, 35, rfl, by decide, in_X9, Or.inl (List.mem_filter.mpr ⟨List.mem_of_getElem? (i := 686) (by decide +kernel), by decide +kernel⟩)⟩
theorem fX9_78 : FL RX9 78 9 2 := ⟨RX9, TX9, 35, rfl, by decide, in_X9, Or.inl (List.mem_filter.mpr ⟨List.mem_of_getElem? (i := 687) (by decide +kernel), by decide +kernel⟩)⟩
theorem pX9_78 : FP RX9 78 9 2 .int := ⟨RX9, TX9, 35, rfl, by decide, in_X9, Or.inl (List.mem_filter.mpr ⟨List.mem_of_getElem? (i := 687) (by decide +kernel), by decide +kernel⟩), ⟨tyX9, tyX9_ok⟩, nmX9, rfl, by decide +kernel⟩
theorem fX9_81 : FL RX9 81 9 3 := ⟨RX9, TX9, 35, rfl, by decide, in_X9, Or.inl (List.mem_filter.mpr ⟨List.mem_of_getElem? (i := 688) (by decide +kernel), by decide +kernel⟩)⟩
theorem pX9_81 : FP RX9 81 9 3 .int := ⟨RX9, TX9, 35, rfl, by decide, in_X9, Or.inl (List.mem_filter.mpr ⟨List.mem_of_getElem? (i := 688) (by decide +kernel), by decide +kernel⟩), ⟨tyX9, tyX9_ok⟩, nmX9, rfl, by decide +kernel⟩
theorem fX9_114 : FL RX9 114 9 4 := ⟨RX9, TX9, 35, rfl, by decide, in_X9, Or.inl (List.mem_filter.mpr ⟨List.mem_of_getElem? (i := 689) (by decide +kernel), by decide +kernel⟩)⟩
theorem pX9_114 : FP RX9 114 9 4 .int := ⟨RX9, TX9, 35, rfl, by decide, in_X9, Or.inl (List.mem_filter.mpr ⟨List.mem_of_getElem? (i := 689) (by decide +kernel), by decide +kernel⟩), ⟨tyX9, tyX9_ok⟩, nmX9, rfl, by decide +kernel⟩
theorem fX9_117 : FL RX9 117 9 5 := ⟨RX9, TX9, 35, rfl, by decide, in_X9, Or.inl (List.mem_filter.mpr ⟨List.mem_of_getElem? (i := 690) (by decide +kernel), by decide +kernel⟩)⟩
theorem pX9_117 : FP RX9 117 9 5 .int := ⟨RX9, TX9, 35, rfl, by decide, in_X9, Or.inl (List.mem_filter.mpr ⟨List.mem_of_getElem? (i := 690) (by decide +kernel), by decide +kernel⟩), ⟨tyX9, tyX9_ok⟩, nmX9, rfl, by decide +kernel⟩
theorem fX9_13 : FL RX9 13 9 6 := ⟨RX9, TX9, 35, rfl, by decide, in_X9, Or.inl (List.mem_filter.mpr ⟨List.mem_of_getElem? (i := 691) (by decide +kernel), by decide +kernel⟩)⟩
theorem fX9_120 : FL RX9 120 9 7 := ⟨RX9, TX9, 35, rfl, by decide, in_X9, Or.inl (List.mem_filter.mpr ⟨List.mem_of_getElem? (i := 692) (by decide +kernel), by decide +kernel⟩)⟩
theorem pX9_120 : FP RX9 120 9 7 .int := ⟨RX9, TX9, 35, rfl, by decide, in_X9, Or.inl (List.mem_filter.mpr ⟨List.mem_of_getElem? (i := 692) (by decide +kernel), by decide +kernel⟩), ⟨tyX9, tyX9_ok⟩, nmX9, rfl, by decide +kernel⟩
theorem fX9_16 : FL RX9 16 9 8 := ⟨RX9, TX9, 35, rfl, by decide, in_X9, Or.inl (List.mem_filter.mpr ⟨List.mem_of_getElem? (i := 693) (by decide +kernel), by decide +kernel⟩)⟩
theorem fX9_19 : FL RX9 19 9 9 := ⟨RX9, TX9, 35, rfl, by decide, in_X9, Or.inl (List.mem_filter.mpr ⟨List.mem_of_getElem? (i := 694) (by decide +kernel), by decide +kernel⟩)⟩
theorem fX9_91 : FL RX9 91 9 10 := ⟨RX9, TX9, 35, rfl, by decide, in_X9, Or.inl (List.mem_filter.mpr ⟨List.mem_of_getElem? (i := 695) (by decide +kernel), by decide +kernel⟩)⟩
theorem pX9_91 : FP RX9 91 9 10 .int := ⟨RX9, TX9, 35, rfl, by decide, in_X9, Or.inl (List.mem_filter.mpr ⟨List.mem_of_getElem? (i := 695) (by decide +kernel), by decide +kernel⟩), ⟨tyX9, tyX9_ok⟩, nmX9, rfl, by decide +kernel⟩
theorem fX9_22 : FL RX9 22 9 11 := ⟨RX9, TX9, 35, rfl, by decide, in_X9, Or.inl (List.mem_filter.mpr ⟨List.mem_of_getElem? (i := 696) (by decide +kernel), by decide +kernel⟩)⟩
theorem fX9_88 : FL RX9 88 9 12 := ⟨RX9, TX9, 35, rfl, by decide, in_X9, Or.inl (List.mem_filter.mpr ⟨List.mem_of_getElem? (i := 697) (by decide +kernel), by decide +kernel⟩)⟩
theorem pX9_88 : FP RX9 88 9 12 .int := ⟨RX9, TX9, 35, rfl, by decide, in_X9, Or.inl (List.mem_filter.mpr ⟨List.mem_of_getElem? (i := 697) (by decide +kernel), by decide +kernel⟩), ⟨tyX9, tyX9_ok⟩, nmX9, rfl, by decide +kernel⟩
theorem fX9_25 : FL RX9 25 9 13 := ⟨RX9, TX9, 35, rfl, by decide, in_X9, Or.inl (List.mem_filter.mpr ⟨List.mem_of_getElem? (i := 698) (by decide +kernel), by decide +kernel⟩)⟩
theorem fX9_94 : FL RX9 94 9 14 := ⟨RX9, TX9, 35, rfl, by decide, in_X9, Or.inl (List.mem_filter.mpr ⟨List.mem_of_getElem? (i := 699) (by decide +kernel), by decide +kernel⟩)⟩
theorem pX9_94 : FP RX9 94 9 14 .int := ⟨RX9, TX9, 35, rfl, by decide, in_X9, Or.inl (List.mem_filter.mpr ⟨List.mem_of_getElem? (i := 699) (by decide +kernel), by decide +kernel⟩), ⟨tyX9, tyX9_ok⟩, nmX9, rfl, by decide +kernel⟩
theorem fX9_28 : FL RX9 28 9 15 := ⟨RX9, TX9, 35, rfl, by decide, in_X9, Or.inl (List.mem_filter.mpr ⟨List.mem_of_getElem? (i := 700) (by decide +kernel), by decide +kernel⟩)⟩
theorem fX9_31 : FL RX9 31 9 16 := ⟨RX9, TX9, 35, rfl, by decide, in_X9, Or.inl (List.mem_filter.mpr ⟨List.mem_of_getElem? (i := 701) (by decide +kernel), by decide +kernel⟩)⟩
theorem fX9_34 : FL RX9 34 9 17 := ⟨RX9, TX9, 35, rfl, by decide, in_X9, Or.inl (List.mem_filter.mpr ⟨List.mem_of_getElem? (i := 702) (by decide +kernel), by decide +kernel⟩)⟩
theorem fX9_37 : FL RX9 37 9 18 := ⟨RX9, TX9, 35, rfl, by decide, in_X9, Or.inl (List.mem_filter.mpr ⟨List.mem_of_getElem? (i := 703) (by decide +kernel), by decide +kernel⟩)⟩
theorem fX9_40 : FL RX9 40 9 19 := ⟨RX9, TX9, 35, rfl, by decide, in_X9, Or.inl (List.mem_filter.mpr ⟨List.mem_of_getElem? (i := 704) (by decide +kernel), by decide +kernel⟩)⟩
theorem fX9_127 : FL RX9 127 9 20 := ⟨RX9, TX9, 35, rfl, by decide, in_X9, Or.inl (List.mem_filter.mpr ⟨List.mem_of_getElem? (i := 705) (by decide +kernel), by decide +kernel⟩)⟩
theorem pX9_127 : FP RX9 127 9 20 .int := ⟨RX9, TX9, 35, rfl, by decide, in_X9, Or.inl (List.mem_filter.mpr ⟨List.mem_of_getElem? (i := 705) (by decide +kernel), by decide +kernel⟩), ⟨tyX9, tyX9_ok⟩, nmX9, rfl, by decide +kernel⟩
theorem fX9_43 : FL RX9 43 9 21 := ⟨RX9, TX9, 35, rfl, by decide, in_X9, Or.inl (List.mem_filter.mpr ⟨List.mem_of_getElem? (i := 706) (by decide +kernel), by decide +kernel⟩)⟩
theorem fX9_46 : FL RX9 46 9 22 := ⟨RX9, TX9, 35, rfl, by decide, in_X9, Or.inl (List.mem_filter.mpr ⟨List.mem_of_getElem? (i := 707) (by decide +kernel), by decide +kernel⟩)⟩
theorem fX9_169 : FL RX9 169 9 23 := ⟨RX9, TX9, 35, rfl, by decide, in_X9, Or.inl (List.mem_filter.mpr ⟨List.mem_of_getElem? (i := 708) (by decide +kernel), by decide +kernel⟩)⟩
theorem pX9_169 : FP RX9 169 9 23 .int := ⟨RX9, TX9, 35, rfl, by decide, in_X9, Or.inl (List.mem_filter.mpr ⟨List.mem_of_getElem? (i := 708) (by decide +kernel), by decide +kernel⟩), ⟨tyX9, tyX9_ok⟩, nmX9, rfl, by decide +kernel⟩
theorem fX9_50 : FL RX9 50 9 24 := ⟨RX9, TX9, 35, rfl, by decide, in_X9, Or.inl (List.mem_filter.mpr ⟨List.mem_of_getElem? (i := 709) (by decide +kernel), by decide +kernel⟩)⟩
theorem fX9_53 : FL RX9 53 9 25 := ⟨RX9, TX9, 35, rfl, by decide, in_X9, Or.inl (List.mem_filter.mpr ⟨List.mem_of_getElem? (i := 710) (by decide +kernel), by decide +kernel⟩)⟩
theorem fX9_242 : FL RX9 242 9 26 := ⟨RX9, TX9, 35, rfl, by decide, in_X9, Or.inl (List.mem_filter.mpr ⟨List.mem_of_getElem? (i := 711) (by decide +kernel), by decide +kernel⟩)⟩
theorem pX9_242 : FP RX9 242 9 26 .long := ⟨RX9, TX9, 35, rfl, by decide, in_X9, Or.inl (List.mem_filter.mpr ⟨List.mem_of_getElem? (i := 711) (by decide +kernel), by decide +kernel⟩), ⟨tyX9, tyX9_ok⟩, nmX9, rfl, by decide +kernel⟩
theorem fX9_56 : FL RX9 56 9 27 := ⟨RX9, TX9, 35, rfl, by decide, in_X9, Or.inl (List.mem_filter.mpr ⟨List.mem_of_getElem? (i := 712) (by decide +kernel), by decide +kernel⟩)⟩
theorem fX9_59 : FL RX9 59 9 28 := ⟨RX9, TX9, 35, rfl, by decide, in_X9, Or.inl (List.mem_filter.mpr ⟨List.mem_of_getElem? (i := 713) (by decide +kernel), by decide +kernel⟩)⟩
theorem fX9_62 : FL RX9 62 9 29 := ⟨RX9, TX9, 35, rfl, by decide, in_X9, Or.inl (List.mem_filter.mpr ⟨List.mem_of_getElem? (i := 714) (by decide +kernel), by decide +kernel⟩)⟩
theorem fX9_222 : FL RX9 222 9 30 := ⟨RX9, TX9, 35, rfl, by decide, in_X9, Or.inl (List.mem_filter.mpr ⟨List.mem_of_getElem? (i := 715) (by decide +kernel), by decide +kernel⟩)⟩
theorem pX9_222 : FP RX9 222 9 30 .int := ⟨RX9, TX9, 35, rfl, by decide, in_X9, Or.inl (List.mem_filter.mpr ⟨List.mem_of_getElem? (i := 715) (by decide +kernel), by decide +kernel⟩), ⟨tyX9, tyX9_ok⟩, nmX9, rfl, by decide +kernel⟩
theorem fX9_225 : FL RX9 225 9 31 := ⟨RX9, TX9, 35, rfl, by decide, in_X9, Or.inl (List.mem_filter.mpr ⟨List.mem_of_getElem? (i := 716) (by decide +kernel), by decide +kernel⟩)⟩
theorem pX9_225 : FP RX9 225 9 31 .int := ⟨RX9, TX9, 35, rfl, by decide, in_X9, Or.inl (List.mem_filter.mpr ⟨List.mem_of_getElem? (i := 716) (by decide +kernel), by decide +kernel⟩), ⟨tyX9, tyX9_ok⟩, nmX9, rfl, by decide +kernel⟩
theorem fX9_231 : FL RX9 231 9 32 := ⟨RX9, TX9, 35, rfl, by decide, in_X9, Or.inl (List.mem_filter.mpr ⟨List.mem_of_getElem? (i := 717) (by decide +kernel), by decide +kernel⟩)⟩
theorem pX9_231 : FP RX9 231 9 32 .int := ⟨RX9, TX9, 35, rfl, by decide, in_X9, Or.inl (List.mem_filter.mpr ⟨List.mem_of_getElem? (i := 717) (by decide +kernel), by decide +kernel⟩), ⟨tyX9, tyX9_ok⟩, nmX9, rfl, by decide +kernel⟩
theorem fX9_234 : FL RX9 234 9 33 := ⟨RX9, TX9, 35, rfl, by decide, in_X9, Or.inl (List.mem_filter.mpr ⟨List.mem_of_getElem? (i := 718) (by decide +kernel), by decide +kernel⟩)⟩
theorem pX9_234 : FP RX9 234 9 33 .int := ⟨RX9, TX9, 35, rfl, by decide, in_X9, Or.inl (List.mem_filter.mpr ⟨List.mem_of_getElem? (i := 718) (by decide +kernel), by decide +kernel⟩), ⟨tyX9, tyX9_ok⟩, nmX9, rfl, by decide +kernel⟩
theorem fX9_65 : FL RX9 65 9 34 := ⟨RX9, TX9, 35, rfl, by decide, in_X9, Or.inl (List.mem_filter.mpr ⟨List.mem_of_getElem? (i := 719) (by decide +kernel), by decide +kernel⟩)⟩
theorem fX8_89 : FL RX8 89 6 1 := ⟨RX6, TX6, 2, rfl, by decide, in_X6, Or.inr ⟨"WireFamily", List.mem_filter.mpr ⟨List.mem_of_getElem? (i := 31) (by decide +kernel), rfl⟩⟩⟩
theorem pX8_89 : FP RX8 89 6 1 .int := ⟨RX6, TX6, 2, rfl, by decide, in_X6, Or.inr ⟨"WireFamily", List.mem_filter.mpr ⟨List.mem_of_getElem? (i := 31) (by decide +kernel), rfl⟩⟩, ⟨tyX6, tyX6_ok⟩, nmX6, rfl, by decide +kernel⟩
theorem fX5_49 : FL RX5 49 1 0 := ⟨RX1, TX1, 9, rfl, by decide, in_X1, Or.inr ⟨"WireFamily", List.mem_filter.mpr ⟨List.mem_of_getElem? (i := 45) (by decide +kernel), rfl⟩⟩⟩
theorem fX8_163 : FL RX8 163 1 0 := ⟨RX1, TX1, 9, rfl, by decide, in_X1, Or.inr ⟨"WireFamily", List.mem_filter.mpr ⟨List.mem_of_getElem? (i := 46) (by decide +kernel), rfl⟩⟩⟩
theorem fX4_22 : FL RX4 22 1 1 := ⟨RX1, TX1, 9, rfl, by decide, in_X1, Or.inr ⟨"WireFamily", List.mem_filter.mpr ⟨List.mem_of_getElem? (i := 48) (by decide +kernel), rfl⟩⟩⟩
theorem fX5_74 : FL RX5 74 1 2 := ⟨RX1, TX1, 9, rfl, by decide, in_X1, Or.inr ⟨"WireFamily", List.mem_filter.mpr ⟨List.mem_of_getElem? (i := 50) (by decide +kernel), rfl⟩⟩⟩
theorem fX5_81 : FL RX5 81 1 3 := ⟨RX1, TX1, 9, rfl, by decide, in_X1, Or.inr ⟨"WireFamily", List.mem_filter.mpr ⟨List.mem_of_getElem? (i := 52) (by decide +kernel), rfl⟩⟩⟩
theorem fX8_106 : FL RX8 106 1 4 := ⟨RX1, TX1, 9, rfl, by decide, in_X1, Or.inr ⟨"WireFamily", List.mem_filter.mpr ⟨List.mem_of_getElem? (i := 54) (by decide +kernel), rfl⟩⟩⟩
theorem pX8_106 : FP RX8 106 1 4 .int := ⟨RX1, TX1, 9, rfl, by decide, in_X1, Or.inr ⟨"WireFamily", List.mem_filter.mpr ⟨List.mem_of_getElem? (i := 54) (by decide +kernel), rfl⟩⟩, ⟨tyX1, tyX1_ok⟩, nmX1, rfl, by decide +kernel⟩
theorem fX5_62 : FL RX5 62 1 4 := ⟨RX1, TX1, 9, rfl, by decide, in_X1, Or.inr ⟨"WireFamily", List.mem_filter.mpr ⟨List.mem_of_getElem? (i := 55) (by decide +kernel), rfl⟩⟩⟩
theorem pX5_62 : FP RX5 62 1 4 .int := ⟨RX1, TX1, 9, rfl, by decide, in_X1, Or.inr ⟨"WireFamily", List.mem_filter.mpr ⟨List.mem_of_getElem? (i := 55) (by decide +kernel), rfl⟩⟩, ⟨tyX1, tyX1_ok⟩, nmX1, rfl, by decide +kernel⟩
theorem fX5_32 : FL RX5 32 1 5 := ⟨RX1, TX1, 9, rfl, by decide, in_X1, Or.inr ⟨"WireFamily", List.mem_filter.mpr ⟨List.mem_of_getElem? (i := 57) (by decide +kernel), rfl⟩⟩⟩
theorem pX5_32 : FP RX5 32 1 5 .int := ⟨RX1, TX1, 9, rfl, by decide, in_X1, Or.inr ⟨"WireFamily", List.mem_filter.mpr ⟨List.mem_of_getElem? (i := 57) (by decide +kernel), rfl⟩⟩, ⟨tyX1, tyX1_ok⟩, nmX1, rfl, by decide +kernel⟩
theorem fX4_41 : FL RX4 41 1 5 := ⟨RX1, TX1, 9, rfl, by decide, in_X1, Or.inr ⟨"WireFamily", List.mem_filter.mpr ⟨List.mem_of_getElem? (i := 58) (by decide +kernel), rfl⟩⟩⟩
theorem pX4_41 : FP RX4 41 1 5 .int := ⟨RX1, TX1, 9, rfl, by decide, in_X1, Or.inr ⟨"WireFamily", List.mem_filter.mpr ⟨List.mem_of_getElem? (i := 58) (by decide +kernel), rfl⟩⟩, ⟨tyX1, tyX1_ok⟩, nmX1, rfl, by decide +kernel⟩
theorem fX8_103 : FL RX8 103 1 5 := ⟨RX1, TX1, 9, rfl, by decide, in_X1, Or.inr ⟨"WireFamily", List.mem_filter.mpr ⟨List.mem_of_getElem? (i := 59) (by decide +kernel), rfl⟩⟩⟩
theorem pX8_103 : FP RX8 103 1 5 .int := ⟨RX1, TX1, 9, rfl, by decide, in_X1, Or.inr ⟨"WireFamily", List.mem_filter.mpr ⟨List.mem_of_getElem? (i := 59) (by decide +kernel), rfl⟩⟩, ⟨tyX1, tyX1_ok⟩, nmX1, rfl, by decide +kernel⟩
theorem fX8_109 : FL RX8 109 1 6 := ⟨RX1, TX1, 9, rfl, by decide, in_X1, Or.inr ⟨"WireFamily", List.mem_filter.mpr ⟨List.mem_of_getElem? (i := 61) (by decide +kernel), rfl⟩⟩⟩
theorem pX8_109 : FP RX8 109 1 6 .int := ⟨RX1, TX1, 9, rfl, by decide, in_X1, Or.inr ⟨"WireFamily", List.mem_filter.mpr ⟨List.mem_of_getElem? (i := 61) (by decide +kernel), rfl⟩⟩, ⟨tyX1, tyX1_ok⟩, nmX1, rfl, by decide +kernel⟩
theorem fX5_84 : FL RX5 84 1 6 := ⟨RX1, TX1, 9, rfl, by decide, in_X1, Or.inr ⟨"WireFamily", List.mem_filter.mpr ⟨List.mem_of_getElem? (i := 62) (by decide +kernel), rfl⟩⟩⟩
theorem pX5_84 : FP RX5 84 1 6 .int := ⟨RX1, TX1, 9, rfl, by decide, in_X1, Or.inr ⟨"WireFamily", List.mem_filter.mpr ⟨List.mem_of_getElem? (i := 62) (by decide +kernel), rfl⟩⟩, ⟨tyX1, tyX1_ok⟩, nmX1, rfl, by decide +kernel⟩
theorem fX8_139 : FL RX8 139 4 1 := ⟨RX4, TX4, 4, rfl, by decide, in_X4, Or.inr ⟨"WireFamily", List.mem_filter.mpr ⟨List.mem_of_getElem? (i := 92) (by decide +kernel), rfl⟩⟩⟩
theorem fX8_143 : FL RX8 143 4 2 := ⟨RX4, TX4, 4, rfl, by decide, in_X4, Or.inr ⟨"WireFamily", List.mem_filter.mpr ⟨List.mem_of_getElem? (i := 94) (by decide +kernel), rfl⟩⟩⟩
theorem fX0_40 : FL RX0 40 4 3 := ⟨RX4, TX4, 4, rfl, by decide, in_X4, Or.inr ⟨"WireFamily", List.mem_filter.mpr ⟨List.mem_of_getElem? (i := 96) (by decide +kernel), rfl⟩⟩⟩
theorem pX0_40 : FP RX0 40 4 3 .int := ⟨RX4, TX4, 4, rfl, by decide, in_X4, Or.inr ⟨"WireFamily", List.mem_filter.mpr ⟨List.mem_of_getElem? (i := 96) (by decide +kernel), rfl⟩⟩, ⟨tyX4, tyX4_ok⟩, nmX4, rfl, by decide +kernel⟩
theorem fX8_112 : FL RX8 112 4 3 := ⟨RX4, TX4, 4, rfl, by decide, in_X4, Or.inr ⟨"WireFamily", List.mem_filter.mpr ⟨List.mem_of_getElem? (i := 97) (by decide +kernel), rfl⟩⟩⟩
theorem pX8_112 : FP RX8 112 4 3 .int := ⟨RX4, TX4, 4, rfl, by decide, in_X4, Or.inr ⟨"WireFamily", List.mem_filter.mpr ⟨List.mem_of_getElem? (i := 97) (by decide +kernel), rfl⟩⟩, ⟨tyX4, tyX4_ok⟩, nmX4, rfl, by decide +kernel⟩
theorem fX8_132 : FL RX8 132 0 3 := ⟨RX0, TX0, 4, rfl, by decide, in_X0, Or.inr ⟨"WireFamily", List.mem_filter.mpr ⟨List.mem_of_getElem? (i := 118) (by decide +kernel), rfl⟩⟩⟩
theorem pX8_132 : FP RX8 132 0 3 .int := ⟨RX0, TX0, 4, rfl, by decide, in_X0, Or.inr ⟨"WireFamily", List.mem_filter.mpr ⟨List.mem_of_getElem? (i := 118) (by decide +kernel), rfl⟩⟩, ⟨tyX0, tyX0_ok⟩, nmX0, rfl, by decide +kernel⟩
theorem fX8_135 : FL RX8 135 3 2 := ⟨RX3, TX3, 3, rfl, by decide, in_X3, Or.inr ⟨"WireFamily", List.mem_filter.mpr ⟨List.mem_of_getElem? (i := 154) (by decide +kernel), rfl⟩⟩⟩
theorem pX8_135 : FP RX8 135 3 2 .int := ⟨RX3, TX3, 3, rfl, by decide, in_X3, Or.inr ⟨"WireFamily", List.mem_filter.mpr ⟨List.mem_of_getElem? (i := 154) (by decide +kernel), rfl⟩⟩, ⟨tyX3, tyX3_ok⟩, nmX3, rfl, by decide +kernel⟩
theorem fX8_208 : FL RX8 208 7 0 := ⟨RX7, TX7, 3, rfl, by decide, in_X7, Or.inr ⟨"WireFamily", List.mem_filter.mpr ⟨List.mem_of_getElem? (i := 169) (by decide +kernel), rfl⟩⟩⟩
theorem fX8_204 : FL RX8 204 7 2 := ⟨RX7, TX7, 3, rfl, by decide, in_X7, Or.inr ⟨"WireFamily", List.mem_filter.mpr ⟨List.mem_of_getElem? (i := 172) (by decide +kernel), rfl⟩⟩⟩
theorem pX8_204 : FP RX8 204 7 2 .boolean := ⟨RX7, TX7, 3, rfl, by decide, in_X7, Or.inr ⟨"WireFamily", List.mem_filter.mpr ⟨List.mem_of_getElem? (i := 172) (by decide +kernel), rfl⟩⟩, ⟨tyX7, tyX7_ok⟩, nmX7, rfl, by decide +kernel⟩
theorem fX8_248 : FL RX8 248 2 0 := ⟨RX2, TX2, 3, rfl, by decide, in_X2, Or.inr ⟨"WireFamily", List.mem_filter.mpr ⟨List.mem_of_getElem? (i := 187) (by decide +kernel), rfl⟩⟩⟩
theorem pX8_248 : FP RX8 248 2 0 .int := ⟨RX2, TX2, 3, rfl, by decide, in_X2, Or.inr ⟨"WireFamily", List.mem_filter.mpr ⟨List.mem_of_getElem? (i := 187) (by decide +kernel), rfl⟩⟩, ⟨tyX2, tyX2_ok⟩, nmX2, rfl, by decide +kernel⟩
theorem fX8_232 : FL RX8 232 2 1 := ⟨RX2, TX2, 3, rfl, by decide, in_X2, Or.inr ⟨"WireFamily", List.mem_filter.mpr ⟨List.mem_of_getElem? (i := 189) (by decide +kernel), rfl⟩⟩⟩
theorem pX8_232 : FP RX8 232 2 1 .int := ⟨RX2, TX2, 3, rfl, by decide, in_X2, Or.inr ⟨"WireFamily", List.mem_filter.mpr ⟨List.mem_of_getElem? (i := 189) (by decide +kernel), rfl⟩⟩, ⟨tyX2, tyX2_ok⟩, nmX2, rfl, by decide +kernel⟩
theorem fX8_229 : FL RX8 229 2 2 := ⟨RX2, TX2, 3, rfl, by decide, in_X2, Or.inr ⟨"WireFamily", List.mem_filter.mpr ⟨List.mem_of_getElem? (i := 191) (by decide +kernel), rfl⟩⟩⟩
theorem pX8_229 : FP RX8 229 2 2 .int := ⟨RX2, TX2, 3, rfl, by decide, in_X2, Or.inr ⟨"WireFamily", List.mem_filter.mpr ⟨List.mem_of_getElem? (i := 191) (by decide +kernel), rfl⟩⟩, ⟨tyX2, tyX2_ok⟩, nmX2, rfl, by decide +kernel⟩
theorem qX8_284 : Cond.constantLong RX8 284 (6364136223846793005) ∈ tblG := List.mem_filter.mpr ⟨List.mem_of_getElem? (i := 668) (by decide +kernel), by decide +kernel⟩
theorem qX8_286 : Cond.constantLong RX8 286 (1442695040888963407) ∈ tblG := List.mem_filter.mpr ⟨List.mem_of_getElem? (i := 669) (by decide +kernel), by decide +kernel⟩
theorem qX8_288 : Cond.constantLong RX8 288 (16) ∈ tblG := List.mem_filter.mpr ⟨List.mem_of_getElem? (i := 670) (by decide +kernel), by decide +kernel⟩
theorem qX9_72 : Cond.constantLong RX9 72 (255) ∈ tblG := List.mem_filter.mpr ⟨List.mem_of_getElem? (i := 795) (by decide +kernel), by decide +kernel⟩
theorem qX9_146 : Cond.constantLong RX9 146 (-1) ∈ tblG := List.mem_filter.mpr ⟨List.mem_of_getElem? (i := 869) (by decide +kernel), by decide +kernel⟩
theorem qX9_172 : Cond.constantLong RX9 172 (4) ∈ tblG := List.mem_filter.mpr ⟨List.mem_of_getElem? (i := 874) (by decide +kernel), by decide +kernel⟩
theorem qX9_177 : Cond.constantLong RX9 177 (3) ∈ tblG := List.mem_filter.mpr ⟨List.mem_of_getElem? (i := 898) (by decide +kernel), by decide +kernel⟩
theorem qX9_182 : Cond.constantLong RX9 182 (5) ∈ tblG := List.mem_filter.mpr ⟨List.mem_of_getElem? (i := 915) (by decide +kernel), by decide +kernel⟩
theorem qX9_202 : Cond.constantLong RX9 202 (9999) ∈ tblG := List.mem_filter.mpr ⟨List.mem_of_getElem? (i := 954) (by decide +kernel), by decide +kernel⟩
theorem qX9_220 : Cond.constantLong RX9 220 (2) ∈ tblG := List.mem_filter.mpr ⟨List.mem_of_getElem? (i := 984) (by decide +kernel), by decide +kernel⟩
theorem qX9_240 : Cond.constantLong RX9 240 (10) ∈ tblG := List.mem_filter.mpr ⟨List.mem_of_getElem? (i := 1009) (by decide +kernel), by decide +kernel⟩
theorem qX9_246 : Cond.constantLong RX9 246 (30) ∈ tblG := List.mem_filter.mpr ⟨List.mem_of_getElem? (i := 1018) (by decide +kernel), by decide +kernel⟩
theorem qX9_248 : Cond.constantLong RX9 248 (6364136223846793005) ∈ tblG := List.mem_filter.mpr ⟨List.mem_of_getElem? (i := 1019) (by decide +kernel), by decide +kernel⟩
theorem qX9_250 : Cond.constantLong RX9 250 (1442695040888963407) ∈ tblG := List.mem_filter.mpr ⟨List.mem_of_getElem? (i := 1020) (by decide +kernel), by decide +kernel⟩
theorem qX9_252 : Cond.constantLong RX9 252 (16) ∈ tblG := List.mem_filter.mpr ⟨List.mem_of_getElem? (i := 1021) (by decide +kernel), by decide +kernel⟩
theorem qL_111 : Cond.constantLong RL 111 (4294967295) ∈ tblG := List.mem_filter.mpr ⟨List.mem_of_getElem? (i := 1030) (by decide +kernel), by decide +kernel⟩
theorem qJ6_265 : Cond.constant RJ6 265 (1431655765) ∈ tblG := List.mem_filter.mpr ⟨List.mem_of_getElem? (i := 549) (by decide +kernel), by decide +kernel⟩
theorem qJ6_266 : Cond.constant RJ6 266 (858993459) ∈ tblG := List.mem_filter.mpr ⟨List.mem_of_getElem? (i := 550) (by decide +kernel), by decide +kernel⟩
theorem qJ6_267 : Cond.constant RJ6 267 (252645135) ∈ tblG := List.mem_filter.mpr ⟨List.mem_of_getElem? (i := 551) (by decide +kernel), by decide +kernel⟩
end
section
/-! plain facts on numbers and arrays, to paste: each family by itself; over the kit's rows on nI and upd -/
/-! ===== order of ints, in all its forms, and through longs ===== -/
theorem fa_lt (a b : Int32) : a < b ↔ a.toInt < b.toInt := Int32.lt_iff_toInt_lt
theorem fa_le (a b : Int32) : a ≤ b ↔ a.toInt ≤ b.toInt := Int32.le_iff_toInt_le
theorem fa_eq (a b : Int32) : a = b ↔ a.toInt = b.toInt := Int32.toInt_inj.symm
theorem fa_lt64 (a b : Int64) : a < b ↔ a.toInt < b.toInt := Int64.lt_iff_toInt_lt
theorem fa_le64 (a b : Int64) : a ≤ b ↔ a.toInt ≤ b.toInt := Int64.le_iff_toInt_le
theorem fa_eq64 (a b : Int64) : a = b ↔ a.toInt = b.toInt := Int64.toInt_inj.symm
/-- a comparison of two ints taken as longs -/
theorem fa_wide_lt (a b : Int32) : a.toInt64 < b.toInt64 ↔ a < b := by rw [fa_lt64, fa_lt, Int32.toInt_toInt64, Int32.toInt_toInt64]
theorem fa_wide_le (a b : Int32) : a.toInt64 ≤ b.toInt64 ↔ a ≤ b := by rw [fa_le64, fa_le, Int32.toInt_toInt64, Int32.toInt_toInt64]
theorem fa_wide_eq (a b : Int32) : a.toInt64 = b.toInt64 ↔ a = b := by rw [fa_eq64, fa_eq, Int32.toInt_toInt64, Int32.toInt_toInt64]
/-- one strict comparison gives all the others -/
theorem fa_of_lt {a b : Int32} (h : a < b) : a ≤ b ∧ ¬ b ≤ a ∧ ¬ b < a ∧ a ≠ b ∧ b ≠ a := by
  rw [fa_lt] at h
  refine ⟨?_, ?_, ?_, ?_, ?_⟩
  · rw [fa_le]; omega
  · rw [fa_le]; omega
  · rw [fa_lt]; omega
  · intro e; rw [fa_eq] at e; omega
  · intro e; rw [fa_eq] at e; omega
theorem fa_of_nlt {a b : Int32} (h : ¬ a < b) : b ≤ a := by
  rw [fa_lt] at h
  rw [fa_le]
  omega
theorem fa_of_nle {a b : Int32} (h : ¬ a ≤ b) : b < a := by
  rw [fa_le] at h
  rw [fa_lt]
  omega
theorem fa_le_ne {a b : Int32} (h : a ≤ b) (h2 : a ≠ b) : a < b := by
  rw [fa_le] at h
  rw [fa_lt]
  have h3 : a.toInt ≠ b.toInt := fun e => h2 ((fa_eq a b).mpr e)
  omega
theorem fa_three (a b : Int32) : a < b ∨ a = b ∨ b < a := by
  rw [fa_lt, fa_lt, fa_eq]
  omega
theorem fa_trans {a b c : Int32} (h : a < b) (h2 : b ≤ c) : a < c := by
  rw [fa_lt] at *
  rw [fa_le] at h2
  omega
/-! ===== small literals as numbers ===== -/
theorem fa_lit (n : Nat) : (OfNat.ofNat n : Int32) = nI n := rfl
theorem fa_litL (n : Nat) : (OfNat.ofNat n : Int64) = lN n := rfl
/-! ===== bits of a number: 'or', masks, one bit ===== -/
theorem fa_and (a b : Nat) : nI a &&& nI b = nI (a &&& b) := by
  apply Int32.toBitVec_inj.1
  show BitVec.ofNat 32 a &&& BitVec.ofNat 32 b = BitVec.ofNat 32 (a &&& b)
  apply BitVec.eq_of_getLsbD_eq
  intro i hi
  simp [hi]
theorem fa_or (a b : Nat) : nI a ||| nI b = nI (a ||| b) := by
  apply Int32.toBitVec_inj.1
  show BitVec.ofNat 32 a ||| BitVec.ofNat 32 b = BitVec.ofNat 32 (a ||| b)
  apply BitVec.eq_of_getLsbD_eq
  intro i hi
  simp [hi]
/-- a remainder by a power of two, as a mask -/
theorem fa_mask (n k : Nat) : nI n &&& nI (2 ^ k - 1) = nI (n % 2 ^ k) := by rw [fa_and, Nat.and_two_pow_sub_one_eq_mod]
/-- 'or' of a high part and a low one that don't meet is their sum -/
theorem fa_or_sum {a k : Nat} (b : Nat) (h : a < 2 ^ k) : nI (2 ^ k * b) ||| nI a = nI (2 ^ k * b + a) := by rw [fa_or, Nat.two_pow_add_eq_or_of_lt h]
/-- one bit, by 'and' with a power of two -/
theorem fa_bit {n j : Nat} (hj : j < 31) : nI n &&& nI (2 ^ j) = 0 ↔ n.testBit j = false := by
  have h2 : (2 : Nat) ^ j < 2 ^ 31 := Nat.pow_lt_pow_right (by decide) hj
  have hle : n &&& 2 ^ j ≤ 2 ^ j := Nat.and_le_right
  have e : n &&& 2 ^ j = 0 ↔ n.testBit j = false := by
    constructor
    · intro h
      have h1 : (n &&& 2 ^ j).testBit j = false := by rw [h]; simp
      rw [Nat.testBit_and] at h1
      first | simpa using h1 | simpa [Nat.testBit_two_pow_self] using h1 | simpa [Nat.testBit_two_pow] using h1
    · intro h
      apply Nat.eq_of_testBit_eq
      intro i
      rw [Nat.testBit_and]
      by_cases hi : j = i
      · subst hi; simp [h]
      · first | (simp [Nat.testBit_two_pow, hi]; done) | (simp [Nat.testBit_two_pow_of_ne hi]; done)
  rw [fa_and]
  constructor
  · intro h
    apply e.mp
    rcases Nat.eq_zero_or_pos (n &&& 2 ^ j) with z | z
    · exact z
    · exact absurd h (nI_ne0 z (Nat.lt_of_le_of_lt hle h2))
  · intro h
    rw [e.mpr h]; exact nI_0
/-- a remainder by a power of two of a number that isn't negative, as Java divides -/
theorem fa_rem {a k : Nat} (ha : a < 2 ^ 31) (hk : k < 31) : nI a - nI a / nI (2 ^ k) * nI (2 ^ k) = nI (a % 2 ^ k) := pk_rem ha (Nat.two_pow_pos k) (Nat.pow_lt_pow_right (by decide) hk)
/-! ===== cuts to a byte, a short ===== -/
theorem fa_byte_xor (x y : Int32) : (x ^^^ y).toInt8 = x.toInt8 ^^^ y.toInt8 := by
  apply Int8.toBitVec_inj.1
  apply BitVec.eq_of_getLsbD_eq
  intro i hi
  first | (simp [hi]; done) | (simp [hi, BitVec.getLsbD_setWidth, BitVec.getLsbD_signExtend]; done)
theorem fa_short_xor (x y : Int32) : (x ^^^ y).toInt16 = x.toInt16 ^^^ y.toInt16 := by
  apply Int16.toBitVec_inj.1
  apply BitVec.eq_of_getLsbD_eq
  intro i hi
  first | (simp [hi]; done) | (simp [hi, BitVec.getLsbD_setWidth, BitVec.getLsbD_signExtend]; done)
/-- the cut to a byte sees the low byte alone -/
theorem fa_byte_low (x : Int32) : (x &&& 255).toInt8 = x.toInt8 := by
  apply Int8.toBitVec_inj.1
  apply BitVec.eq_of_getLsbD_eq
  intro i hi
  have h2 : (255 : Int32).toBitVec.getLsbD i = true := by
    have : ∀ j : Fin 8, (255 : Int32).toBitVec.getLsbD j.val = true := by decide +kernel
    exact this ⟨i, hi⟩
  have h4 : (x &&& 255).toBitVec.getLsbD i = x.toBitVec.getLsbD i := by
    show (x.toBitVec &&& (255 : Int32).toBitVec).getLsbD i = _
    rw [BitVec.getLsbD_and, h2, Bool.and_true]
  have h3 : i < 32 := by omega
  first
    | (show (((x &&& 255).toBitVec).signExtend 8).getLsbD i = (x.toBitVec.signExtend 8).getLsbD i; rw [BitVec.getLsbD_signExtend, BitVec.getLsbD_signExtend, if_pos h3, if_pos h3, h4])
    | (show (((x &&& 255).toBitVec).setWidth 8).getLsbD i = (x.toBitVec.setWidth 8).getLsbD i; rw [BitVec.getLsbD_setWidth, BitVec.getLsbD_setWidth, h4])
    | (simp [hi, h3, h4]; done)
theorem fa_short_low (x : Int32) : (x &&& 65535).toInt16 = x.toInt16 := by
  apply Int16.toBitVec_inj.1
  apply BitVec.eq_of_getLsbD_eq
  intro i hi
  have h2 : (65535 : Int32).toBitVec.getLsbD i = true := by
    have : ∀ j : Fin 16, (65535 : Int32).toBitVec.getLsbD j.val = true := by decide +kernel
    exact this ⟨i, hi⟩
  have h4 : (x &&& 65535).toBitVec.getLsbD i = x.toBitVec.getLsbD i := by
    show (x.toBitVec &&& (65535 : Int32).toBitVec).getLsbD i = _
    rw [BitVec.getLsbD_and, h2, Bool.and_true]
  have h3 : i < 32 := by omega
  first
    | (show (((x &&& 65535).toBitVec).signExtend 16).getLsbD i = (x.toBitVec.signExtend 16).getLsbD i; rw [BitVec.getLsbD_signExtend, BitVec.getLsbD_signExtend, if_pos h3, if_pos h3, h4])
    | (show (((x &&& 65535).toBitVec).setWidth 16).getLsbD i = (x.toBitVec.setWidth 16).getLsbD i; rw [BitVec.getLsbD_setWidth, BitVec.getLsbD_setWidth, h4])
    | (simp [hi, h3, h4]; done)
/-- a small number is its own byte, its own short -/
theorem fa_byte_small {n : Nat} (h : n < 128) : (nI n).toInt8.toInt32 = nI n := by
  have : ∀ j : Fin 128, (nI j.val).toInt8.toInt32 = nI j.val := by decide +kernel
  exact this ⟨n, h⟩
/-! ===== absolute difference ===== -/
theorem fa_absdiff {a b : Nat} (ha : a < 2 ^ 31) (hb : b < 2 ^ 31) : (if nI a < nI b then nI b - nI a else nI a - nI b) = nI (if a < b then b - a else a - b) := by
  by_cases h : a < b
  · rw [if_pos (nI_lt h hb), if_pos h]
    exact pk_sub (Nat.le_of_lt h)
  · rw [if_neg (nI_nlt (Nat.le_of_not_lt h) ha), if_neg h]
    exact pk_sub (Nat.le_of_not_lt h)
/-! ===== an array behind i stores, a conditional store, a row copied ===== -/
/-- f where k < i, what stood there else -/
def fa_fill {α : Type} (f g : Nat → α) (i : Nat) : Nat → α := fun k => if k < i then f k else g k
theorem fa_fill_0 {α : Type} (f g : Nat → α) : fa_fill f g 0 = g := funext fun k => if_neg (Nat.not_lt_zero k)
theorem fa_fill_in {α : Type} {f g : Nat → α} {i k : Nat} (h : k < i) : fa_fill f g i k = f k := if_pos h
theorem fa_fill_out {α : Type} {f g : Nat → α} {i k : Nat} (h : i ≤ k) : fa_fill f g i k = g k := if_neg (Nat.not_lt.mpr h)
theorem fa_fill_succ (f g : Nat → Int32) (i : Nat) : upd (fa_fill f g i) i (f i) = fa_fill f g (i + 1) := by
  funext k
  by_cases e : k = i
  · subst e
    rw [pk_us]
    exact (if_pos (Nat.lt_succ_self k)).symm
  · rw [pk_un e]
    by_cases h : k < i
    · rw [fa_fill_in h, fa_fill_in (Nat.lt_succ_of_lt h)]
    · rw [fa_fill_out (Nat.le_of_not_lt h), fa_fill_out (by omega)]
/-- a store that changes nothing -/
theorem fa_upd_same {f : Nat → Int32} {i : Nat} {x : Int32} (h : f i = x) : upd f i x = f := by
  funext k
  by_cases e : k = i
  · subst e
    rw [pk_us, h]
  · rw [pk_un e]
/-- a store under a condition, told as one -/
theorem fa_upd_if (c : Prop) [Decidable c] (f : Nat → Int32) (i : Nat) (x : Int32) : (if c then upd f i x else f) = upd f i (if c then x else f i) := by
  by_cases h : c
  · rw [if_pos h, if_pos h]
  · rw [if_neg h, if_neg h, fa_upd_same rfl]
/-- two stores at one place, at two -/
theorem fa_upd_twice (f : Nat → Int32) (i : Nat) (x y : Int32) : upd (upd f i x) i y = upd f i y := by
  funext k
  by_cases e : k = i
  · subst e
    rw [pk_us, pk_us]
  · rw [pk_un e, pk_un e, pk_un e]
theorem fa_upd_swap (f : Nat → Int32) {i j : Nat} (h : i ≠ j) (x y : Int32) : upd (upd f i x) j y = upd (upd f j y) i x := by
  funext k
  by_cases e : k = i
  · subst e
    rw [pk_un h, pk_us, pk_us]
  · by_cases e2 : k = j
    · subst e2
      rw [pk_us, pk_un e, pk_us]
    · rw [pk_un e2, pk_un e, pk_un e, pk_un e2]
/-! ===== the first index with a property; a count ===== -/
/-- the first k < n with p k, n if there is none -/
def fa_first (p : Nat → Bool) : Nat → Nat
  | 0 => 0
  | n + 1 => if fa_first p n < n then fa_first p n else if p n then n else n + 1
theorem fa_first_le (p : Nat → Bool) : ∀ n, fa_first p n ≤ n
  | 0 => Nat.le_refl 0
  | n + 1 => by
    have ih := fa_first_le p n
    unfold fa_first
    split
    · omega
    · split
      · omega
      · omega
theorem fa_first_no (p : Nat → Bool) : ∀ n k, k < fa_first p n → p k = false
  | 0, k, h => absurd h (Nat.not_lt_zero k)
  | n + 1, k, h => by
    have ih := fa_first_no p n
    have hl := fa_first_le p n
    unfold fa_first at h
    split at h
    · exact ih k h
    · rename_i h1
      split at h
      · exact ih k (by omega)
      · rename_i h2
        by_cases e : k = n
        · subst e
          exact Bool.eq_false_iff.mpr h2
        · exact ih k (by omega)
theorem fa_first_yes (p : Nat → Bool) : ∀ n, fa_first p n < n → p (fa_first p n) = true
  | 0, h => absurd h (Nat.not_lt_zero _)
  | n + 1, h => by
    have ih := fa_first_yes p n
    have hl := fa_first_le p n
    unfold fa_first at h ⊢
    split at h
    · rename_i h1
      rw [if_pos h1]
      exact ih h1
    · rename_i h1
      rw [if_neg h1]
      split at h
      · rename_i h2
        rw [if_pos h2]
        exact h2
      · omega
/-- how many k < n have p k -/
def fa_cnt (p : Nat → Bool) : Nat → Nat
  | 0 => 0
  | n + 1 => fa_cnt p n + if p n then 1 else 0
theorem fa_cnt_le (p : Nat → Bool) : ∀ n, fa_cnt p n ≤ n
  | 0 => Nat.le_refl 0
  | n + 1 => by
    have ih := fa_cnt_le p n
    unfold fa_cnt
    split
    · omega
    · omega
theorem fa_cnt_yes {p : Nat → Bool} {n : Nat} (h : p n = true) : fa_cnt p (n + 1) = fa_cnt p n + 1 := by rw [fa_cnt, if_pos h]
theorem fa_cnt_no {p : Nat → Bool} {n : Nat} (h : p n = false) : fa_cnt p (n + 1) = fa_cnt p n := by rw [fa_cnt, if_neg (by rw [h]; decide)]; rfl
theorem fa_cnt_cong {p q : Nat → Bool} : ∀ {n : Nat}, (∀ k, k < n → p k = q k) → fa_cnt p n = fa_cnt q n
  | 0, _ => rfl
  | n + 1, h => by rw [fa_cnt, fa_cnt, fa_cnt_cong (fun k hk => h k (Nat.lt_succ_of_lt hk)), h n (Nat.lt_succ_self n)]
/-! ===== an answer carried into a post; a branch on a boolean answer ===== -/
theorem fa_post {α : Type} {P : α → Prop} {x y : α} (h : x = y) (hp : P y) : P x := h ▸ hp
theorem fa_post2 {α β : Type} {P : α → β → Prop} {x y : α} {u v : β} (h : x = y) (h2 : u = v) (hp : P y v) : P x u := h ▸ h2 ▸ hp
theorem fa_bool {r : Int32} {b : Bool} (h : r = if b then 1 else 0) : (r = 0 ↔ b = false) ∧ (¬ r = 0 ↔ b = true) := by
  subst h
  cases b
  · exact ⟨⟨fun _ => rfl, fun _ => rfl⟩, ⟨fun h => absurd rfl h, fun h => absurd h (by decide)⟩⟩
  · exact ⟨⟨fun h => absurd h (by decide), fun h => absurd h (by decide)⟩, ⟨fun _ => rfl, fun _ => by decide⟩⟩
/-- a boolean's narrowing changes nothing -/
theorem fa_bool_and {r : Int32} (h : r = 0 ∨ r = 1) : r &&& 1 = r := by
  rcases h with rfl | rfl
  · decide
  · decide
theorem fa_bool_prop {c : Prop} [Decidable c] {r : Int32} (h : r = if c then 1 else 0) : (r = 0 ↔ ¬ c) ∧ (¬ r = 0 ↔ c) := by
  subst h
  by_cases hc : c
  · rw [if_pos hc]
    exact ⟨⟨fun h => absurd h (by decide), fun h => absurd hc h⟩, ⟨fun _ => hc, fun _ => by decide⟩⟩
  · rw [if_neg hc]
    exact ⟨⟨fun _ => hc, fun _ => rfl⟩, ⟨fun h => absurd rfl h, fun h => absurd h hc⟩⟩
/-! plain facts to paste, each family by itself; over the kit's nI, lN and upd -/
/-! ===== drawers: more things than places ===== -/
theorem fb_holes : ∀ (m n : Nat) (f : Nat → Nat), (∀ i, i < n → f i < m) → (∀ i j, i < j → j < n → f i ≠ f j) → n ≤ m := by
  intro m
  induction m with
  | zero =>
    intro n f h1 _
    rcases Nat.eq_zero_or_pos n with h | h
    · omega
    · exact absurd (h1 0 h) (Nat.not_lt_zero _)
  | succ m ih =>
    intro n f h1 h2
    by_cases hx : ∃ i, i < n ∧ f i = m
    · obtain ⟨a, ha, hfa⟩ := hx
      have hg := ih (n - 1) (fun i => if i < a then f i else f (i + 1)) (by
        intro i hi
        by_cases q : i < a
        · simp only [if_pos q]
          have b1 := h1 i (by omega)
          have b2 := h2 i a q ha
          omega
        · simp only [if_neg q]
          have b1 := h1 (i + 1) (by omega)
          have b2 := h2 a (i + 1) (by omega) (by omega)
          omega) (by
        intro i j hij hj
        by_cases q : i < a
        · by_cases r : j < a
          · simp only [if_pos q, if_pos r]
            exact h2 i j hij (by omega)
          · simp only [if_pos q, if_neg r]
            exact h2 i (j + 1) (by omega) (by omega)
        · have r : ¬ j < a := by omega
          simp only [if_neg q, if_neg r]
          exact h2 (i + 1) (j + 1) (by omega) (by omega))
      omega
    · have hg := ih n f (fun i hi => by
        have b1 := h1 i hi
        have b2 : f i ≠ m := fun e => hx ⟨i, hi, e⟩
        omega) h2
      omega
/-- two of them in one place -/
theorem fb_twice {m n : Nat} {f : Nat → Nat} (h : ∀ i, i < n → f i < m) (hm : m < n) : ∃ i j, i < j ∧ j < n ∧ f i = f j := by
  refine Classical.byContradiction fun hx => ?_
  have := fb_holes m n f h (fun i j hij hj e => hx ⟨i, j, hij, hj, e⟩)
  omega
/-- as many as places, none twice: each place is taken -/
theorem fb_onto {n : Nat} {f : Nat → Nat} (h : ∀ i, i < n → f i < n) (h2 : ∀ i j, i < j → j < n → f i ≠ f j) {y : Nat} (hy : y < n) : ∃ i, i < n ∧ f i = y := by
  refine Classical.byContradiction fun hx => ?_
  have hne : ∀ i, i < n → f i ≠ y := fun i hi e => hx ⟨i, hi, e⟩
  have := fb_holes (n - 1) n (fun i => if f i < y then f i else f i - 1) (by
    intro i hi
    have b1 := h i hi
    have b2 := hne i hi
    by_cases q : f i < y
    · simp only [if_pos q]; omega
    · simp only [if_neg q]; omega) (by
    intro i j hij hj
    have b1 := hne i (by omega)
    have b2 := hne j hj
    have b3 := h2 i j hij hj
    by_cases q : f i < y
    · by_cases r : f j < y
      · simp only [if_pos q, if_pos r]; exact b3
      · simp only [if_pos q, if_neg r]; omega
    · by_cases r : f j < y
      · simp only [if_neg q, if_pos r]; omega
      · simp only [if_neg q, if_neg r]; omega)
  omega
/-! ===== how many places have a property ===== -/
def fb_ct (p : Nat → Bool) : Nat → Nat
  | 0 => 0
  | n + 1 => fb_ct p n + (if p n then 1 else 0)
theorem fb_ct_succ (p : Nat → Bool) (n : Nat) : fb_ct p (n + 1) = fb_ct p n + (if p n then 1 else 0) := rfl
theorem fb_ct_le (p : Nat → Bool) : ∀ n, fb_ct p n ≤ n
  | 0 => Nat.le_refl _
  | n + 1 => by
    have h := fb_ct_le p n
    rw [fb_ct_succ]
    split <;> omega
theorem fb_ct_step (p : Nat → Bool) (m : Nat) : ∀ n, fb_ct p m ≤ fb_ct p (m + n)
  | 0 => Nat.le_refl _
  | n + 1 => by
    have h := fb_ct_step p m n
    show fb_ct p m ≤ fb_ct p (m + n + 1)
    rw [fb_ct_succ]
    omega
theorem fb_ct_mono (p : Nat → Bool) {m n : Nat} (h : m ≤ n) : fb_ct p m ≤ fb_ct p n := by
  have := fb_ct_step p m (n - m)
  rwa [Nat.add_sub_cancel' h] at this
theorem fb_ct_cong {p q : Nat → Bool} : ∀ {n : Nat}, (∀ k, k < n → p k = q k) → fb_ct p n = fb_ct q n
  | 0, _ => rfl
  | n + 1, h => by
    rw [fb_ct_succ, fb_ct_succ, fb_ct_cong (fun k hk => h k (by omega)), h n (by omega)]
/-- one place changed -/
theorem fb_ct_out (p : Nat → Bool) (b : Bool) {i n : Nat} (h : n ≤ i) : fb_ct (fun k => if k = i then b else p k) n = fb_ct p n :=
  fb_ct_cong fun k hk => if_neg (by omega)
theorem fb_ct_upd (p : Nat → Bool) (b : Bool) {i : Nat} : ∀ {n : Nat}, i < n → fb_ct (fun k => if k = i then b else p k) n + (if p i then 1 else 0) = fb_ct p n + (if b then 1 else 0)
  | 0, h => absurd h (Nat.not_lt_zero i)
  | n + 1, h => by
    rw [fb_ct_succ, fb_ct_succ]
    rcases Nat.lt_or_ge i n with q | q
    · have := fb_ct_upd p b q
      have e : (if n = i then b else p n) = p n := if_neg (by omega)
      rw [e]
      omega
    · have e : i = n := by omega
      subst e
      rw [fb_ct_out p b (Nat.le_refl _)]
      simp only [if_true]
      omega
theorem fb_ct_sub {p q : Nat → Bool} : ∀ {n : Nat}, (∀ k, k < n → p k = true → q k = true) → fb_ct p n ≤ fb_ct q n
  | 0, _ => Nat.le_refl _
  | n + 1, h => by
    have h1 := fb_ct_sub (n := n) (p := p) (q := q) (fun k hk => h k (by omega))
    have h2 := h n (by omega)
    rw [fb_ct_succ, fb_ct_succ]
    cases hp : p n <;> cases hq : q n <;> simp_all <;> omega
theorem fb_ct_or {p q : Nat → Bool} : ∀ {n : Nat}, (∀ k, k < n → ¬ (p k = true ∧ q k = true)) → fb_ct (fun k => p k || q k) n = fb_ct p n + fb_ct q n
  | 0, _ => rfl
  | n + 1, h => by
    have h1 := fb_ct_or (n := n) (p := p) (q := q) (fun k hk => h k (by omega))
    have h2 := h n (by omega)
    rw [fb_ct_succ, fb_ct_succ, fb_ct_succ, h1]
    cases hp : p n <;> cases hq : q n <;> simp_all <;> omega
theorem fb_ct_not (p : Nat → Bool) : ∀ n, fb_ct p n + fb_ct (fun k => !p k) n = n
  | 0 => rfl
  | n + 1 => by
    have h := fb_ct_not p n
    rw [fb_ct_succ, fb_ct_succ]
    cases p n <;> simp <;> omega
theorem fb_ct_split (p : Nat → Bool) (m : Nat) : ∀ n, fb_ct p (m + n) = fb_ct p m + fb_ct (fun k => p (m + k)) n
  | 0 => rfl
  | n + 1 => by
    have h := fb_ct_split p m n
    show fb_ct p (m + n + 1) = _
    rw [fb_ct_succ, fb_ct_succ, h, Nat.add_assoc]
theorem fb_ct_zero {p : Nat → Bool} : ∀ {n : Nat}, fb_ct p n = 0 ↔ ∀ k, k < n → p k = false
  | 0 => ⟨fun _ k hk => absurd hk (Nat.not_lt_zero k), fun _ => rfl⟩
  | n + 1 => by
    have h := fb_ct_zero (p := p) (n := n)
    rw [fb_ct_succ]
    constructor
    · intro e k hk
      have e1 : fb_ct p n = 0 := by omega
      rcases Nat.lt_or_ge k n with q | q
      · exact h.mp e1 k q
      · have ek : k = n := by omega
        subst ek
        cases hp : p k
        · rfl
        · simp [hp] at e
    · intro a
      rw [h.mpr (fun k hk => a k (by omega)), a n (by omega)]
      rfl
theorem fb_ct_pos {p : Nat → Bool} {n : Nat} : 0 < fb_ct p n ↔ ∃ k, k < n ∧ p k = true := by
  constructor
  · intro h
    refine Classical.byContradiction fun hx => ?_
    have := fb_ct_zero.mpr (fun k hk => by
      cases hp : p k
      · rfl
      · exact absurd ⟨k, hk, hp⟩ hx : ∀ k, k < n → p k = false)
    omega
  · rintro ⟨k, hk, hp⟩
    rcases Nat.eq_zero_or_pos (fb_ct p n) with e | e
    · have := fb_ct_zero.mp e k hk
      rw [this] at hp
      cases hp
    · exact e
theorem fb_ct_all {p : Nat → Bool} {n : Nat} : fb_ct p n = n ↔ ∀ k, k < n → p k = true := by
  have h := fb_ct_not p n
  constructor
  · intro e k hk
    have z : fb_ct (fun k => !p k) n = 0 := by omega
    have := fb_ct_zero.mp z k hk
    cases hp : p k
    · simp [hp] at this
    · rfl
  · intro a
    have z : fb_ct (fun k => !p k) n = 0 := fb_ct_zero.mpr (fun k hk => by simp [a k hk])
    omega
/-- the k-th place with the property -/
theorem fb_ct_kth {p : Nat → Bool} {k : Nat} : ∀ {n : Nat}, k < fb_ct p n → ∃ i, i < n ∧ p i = true ∧ fb_ct p i = k
  | 0, h => absurd h (Nat.not_lt_zero k)
  | n + 1, h => by
    rcases Nat.lt_or_ge k (fb_ct p n) with q | q
    · obtain ⟨i, h1, h2⟩ := fb_ct_kth q
      exact ⟨i, by omega, h2⟩
    · rw [fb_ct_succ] at h
      cases hp : p n
      · simp [hp] at h; omega
      · simp [hp] at h
        exact ⟨n, by omega, hp, by omega⟩
theorem fb_ct_kth_one {p : Nat → Bool} {i j : Nat} (hi : p i = true) (hj : p j = true) (e : fb_ct p i = fb_ct p j) : i = j := by
  have key : ∀ a b : Nat, a < b → p a = true → fb_ct p a < fb_ct p b := by
    intro a b hab ha
    have h := fb_ct_mono p (show a + 1 ≤ b from hab)
    rw [fb_ct_succ, ha] at h
    simp at h
    omega
  rcases Nat.lt_trichotomy i j with q | q | q
  · have := key i j q hi; omega
  · exact q
  · have := key j i q hj; omega
/-! ===== sums over a range: one place changed, parts, bounds ===== -/
def fb_sm (f : Nat → Nat) : Nat → Nat
  | 0 => 0
  | n + 1 => fb_sm f n + f n
theorem fb_sm_succ (f : Nat → Nat) (n : Nat) : fb_sm f (n + 1) = fb_sm f n + f n := rfl
theorem fb_sm_cong {f g : Nat → Nat} : ∀ {n : Nat}, (∀ k, k < n → f k = g k) → fb_sm f n = fb_sm g n
  | 0, _ => rfl
  | n + 1, h => by rw [fb_sm_succ, fb_sm_succ, fb_sm_cong (fun k hk => h k (by omega)), h n (by omega)]
theorem fb_sm_out (f : Nat → Nat) (v : Nat) {i n : Nat} (h : n ≤ i) : fb_sm (fun k => if k = i then v else f k) n = fb_sm f n :=
  fb_sm_cong fun k hk => if_neg (by omega)
theorem fb_sm_upd (f : Nat → Nat) (v : Nat) {i : Nat} : ∀ {n : Nat}, i < n → fb_sm (fun k => if k = i then v else f k) n + f i = fb_sm f n + v
  | 0, h => absurd h (Nat.not_lt_zero i)
  | n + 1, h => by
    rw [fb_sm_succ, fb_sm_succ]
    rcases Nat.lt_or_ge i n with q | q
    · have := fb_sm_upd f v q
      have e : (if n = i then v else f n) = f n := if_neg (by omega)
      rw [e]
      omega
    · have e : i = n := by omega
      subst e
      rw [fb_sm_out f v (Nat.le_refl _)]
      simp only [if_true]
      omega
theorem fb_sm_add (f g : Nat → Nat) : ∀ n, fb_sm (fun k => f k + g k) n = fb_sm f n + fb_sm g n
  | 0 => rfl
  | n + 1 => by
    have h := fb_sm_add f g n
    rw [fb_sm_succ, fb_sm_succ, fb_sm_succ, h]
    omega
theorem fb_sm_le {f g : Nat → Nat} : ∀ {n : Nat}, (∀ k, k < n → f k ≤ g k) → fb_sm f n ≤ fb_sm g n
  | 0, _ => Nat.le_refl _
  | n + 1, h => by
    have h1 := fb_sm_le (n := n) (f := f) (g := g) (fun k hk => h k (by omega))
    have h2 := h n (by omega)
    rw [fb_sm_succ, fb_sm_succ]
    omega
theorem fb_sm_const (c : Nat) : ∀ n, fb_sm (fun _ => c) n = n * c
  | 0 => by rw [Nat.zero_mul]; rfl
  | n + 1 => by rw [fb_sm_succ, fb_sm_const c n, Nat.succ_mul]
theorem fb_sm_bound {f : Nat → Nat} {c n : Nat} (h : ∀ k, k < n → f k ≤ c) : fb_sm f n ≤ n * c := by
  rw [← fb_sm_const c n]
  exact fb_sm_le h
theorem fb_sm_mono (f : Nat → Nat) (m : Nat) : ∀ n, fb_sm f m ≤ fb_sm f (m + n)
  | 0 => Nat.le_refl _
  | n + 1 => by
    have h := fb_sm_mono f m n
    show fb_sm f m ≤ fb_sm f (m + n + 1)
    rw [fb_sm_succ]
    omega
theorem fb_sm_part (f : Nat → Nat) {i n : Nat} (h : i < n) : fb_sm f i + f i ≤ fb_sm f n := by
  have := fb_sm_mono f (i + 1) (n - (i + 1))
  rw [fb_sm_succ, show i + 1 + (n - (i + 1)) = n by omega] at this
  exact this
theorem fb_sm_split (f : Nat → Nat) (m : Nat) : ∀ n, fb_sm f (m + n) = fb_sm f m + fb_sm (fun k => f (m + k)) n
  | 0 => rfl
  | n + 1 => by
    have h := fb_sm_split f m n
    show fb_sm f (m + n + 1) = _
    rw [fb_sm_succ, fb_sm_succ, h, Nat.add_assoc]
theorem fb_sm_zero {f : Nat → Nat} {n : Nat} (h : fb_sm f n = 0) : ∀ k, k < n → f k = 0 := fun k hk => by
  have := fb_sm_part f hk
  omega
/-- the same over whole numbers -/
def fb_si (f : Nat → Int) : Nat → Int
  | 0 => 0
  | n + 1 => fb_si f n + f n
theorem fb_si_succ (f : Nat → Int) (n : Nat) : fb_si f (n + 1) = fb_si f n + f n := rfl
theorem fb_si_cong {f g : Nat → Int} : ∀ {n : Nat}, (∀ k, k < n → f k = g k) → fb_si f n = fb_si g n
  | 0, _ => rfl
  | n + 1, h => by rw [fb_si_succ, fb_si_succ, fb_si_cong (fun k hk => h k (by omega)), h n (by omega)]
theorem fb_si_out (f : Nat → Int) (v : Int) {i n : Nat} (h : n ≤ i) : fb_si (fun k => if k = i then v else f k) n = fb_si f n :=
  fb_si_cong fun k hk => if_neg (by omega)
theorem fb_si_upd (f : Nat → Int) (v : Int) {i : Nat} : ∀ {n : Nat}, i < n → fb_si (fun k => if k = i then v else f k) n = fb_si f n - f i + v
  | 0, h => absurd h (Nat.not_lt_zero i)
  | n + 1, h => by
    rw [fb_si_succ, fb_si_succ]
    rcases Nat.lt_or_ge i n with q | q
    · have := fb_si_upd f v q
      have e : (if n = i then v else f n) = f n := if_neg (by omega)
      rw [e]
      omega
    · have e : i = n := by omega
      subst e
      rw [fb_si_out f v (Nat.le_refl _)]
      simp only [if_true]
      omega
theorem fb_si_add (f g : Nat → Int) : ∀ n, fb_si (fun k => f k + g k) n = fb_si f n + fb_si g n
  | 0 => rfl
  | n + 1 => by
    have h := fb_si_add f g n
    rw [fb_si_succ, fb_si_succ, fb_si_succ, h]
    omega
theorem fb_si_sub (f g : Nat → Int) : ∀ n, fb_si (fun k => f k - g k) n = fb_si f n - fb_si g n
  | 0 => rfl
  | n + 1 => by
    have h := fb_si_sub f g n
    rw [fb_si_succ, fb_si_succ, fb_si_succ, h]
    omega
theorem fb_si_mul (c : Int) (f : Nat → Int) : ∀ n, fb_si (fun k => c * f k) n = c * fb_si f n
  | 0 => (Int.mul_zero c).symm
  | n + 1 => by
    have h := fb_si_mul c f n
    rw [fb_si_succ, fb_si_succ, h, Int.mul_add]
theorem fb_si_split (f : Nat → Int) (m : Nat) : ∀ n, fb_si f (m + n) = fb_si f m + fb_si (fun k => f (m + k)) n
  | 0 => (Int.add_zero _).symm
  | n + 1 => by
    have h := fb_si_split f m n
    show fb_si f (m + n + 1) = _
    rw [fb_si_succ, fb_si_succ, h, Int.add_assoc]
theorem fb_si_nat (f : Nat → Nat) : ∀ n, fb_si (fun k => (f k : Int)) n = (fb_sm f n : Int)
  | 0 => rfl
  | n + 1 => by
    have h := fb_si_nat f n
    rw [fb_si_succ, fb_sm_succ, h]
    omega
theorem fb_si_bound {f : Nat → Int} {c : Int} (hc : 0 ≤ c) : ∀ {n : Nat}, (∀ k, k < n → -c ≤ f k ∧ f k ≤ c) → -(n * c) ≤ fb_si f n ∧ fb_si f n ≤ n * c
  | 0, _ => by simp [fb_si]
  | n + 1, h => by
    have h1 := fb_si_bound (n := n) (f := f) hc (fun k hk => h k (by omega))
    have h2 := h n (by omega)
    have e : ((n + 1 : Nat) : Int) * c = n * c + c := by rw [Int.natCast_add, Int.add_mul]; simp
    rw [fb_si_succ, e]
    omega
/-! ===== bits of a long that isn't negative ===== -/
theorem fb_andL (a b : Nat) : lN a &&& lN b = lN (a &&& b) := by
  apply Int64.toBitVec_inj.1
  show BitVec.ofNat 64 a &&& BitVec.ofNat 64 b = BitVec.ofNat 64 (a &&& b)
  apply BitVec.eq_of_getLsbD_eq
  intro i hi
  simp [hi]
theorem fb_orL (a b : Nat) : lN a ||| lN b = lN (a ||| b) := by
  apply Int64.toBitVec_inj.1
  show BitVec.ofNat 64 a ||| BitVec.ofNat 64 b = BitVec.ofNat 64 (a ||| b)
  apply BitVec.eq_of_getLsbD_eq
  intro i hi
  simp [hi]
theorem fb_xorL (a b : Nat) : lN a ^^^ lN b = lN (a ^^^ b) := by
  apply Int64.toBitVec_inj.1
  show BitVec.ofNat 64 a ^^^ BitVec.ofNat 64 b = BitVec.ofNat 64 (a ^^^ b)
  apply BitVec.eq_of_getLsbD_eq
  intro i hi
  simp [hi]
theorem fb_xorI (a b : Nat) : nI a ^^^ nI b = nI (a ^^^ b) := by
  apply Int32.toBitVec_inj.1
  show BitVec.ofNat 32 a ^^^ BitVec.ofNat 32 b = BitVec.ofNat 32 (a ^^^ b)
  apply BitVec.eq_of_getLsbD_eq
  intro i hi
  simp [hi]
theorem fb_maskL (n k : Nat) : lN n &&& lN (2 ^ k - 1) = lN (n % 2 ^ k) := by rw [fb_andL, Nat.and_two_pow_sub_one_eq_mod]
theorem fb_or_sumL {a k : Nat} (b : Nat) (h : a < 2 ^ k) : lN (2 ^ k * b) ||| lN a = lN (2 ^ k * b + a) := by rw [fb_orL, Nat.two_pow_add_eq_or_of_lt h]
theorem fb_lN_inj {a b : Nat} (ha : a < 2 ^ 63) (hb : b < 2 ^ 63) : lN a = lN b ↔ a = b := by
  constructor
  · intro h
    have h1 : (BitVec.ofNat 64 a).toNat = (BitVec.ofNat 64 b).toNat := congrArg (fun x : Int64 => x.toBitVec.toNat) h
    rw [BitVec.toNat_ofNat, BitVec.toNat_ofNat, Nat.mod_eq_of_lt (by omega), Nat.mod_eq_of_lt (by omega)] at h1
    exact h1
  · rintro rfl; rfl
theorem fb_bit_nat (n j : Nat) : n &&& 2 ^ j = 0 ↔ n.testBit j = false := by
  constructor
  · intro h
    have h1 : (n &&& 2 ^ j).testBit j = false := by rw [h]; simp
    rw [Nat.testBit_and] at h1
    simpa using h1
  · intro h
    apply Nat.eq_of_testBit_eq
    intro i
    rw [Nat.testBit_and]
    by_cases hi : j = i
    · subst hi; simp [h]
    · first | (simp [Nat.testBit_two_pow, hi]; done) | (simp [Nat.testBit_two_pow_of_ne hi]; done)
/-- one bit of a long -/
theorem fb_bitL {n j : Nat} (hj : j < 63) : lN n &&& lN (2 ^ j) = 0 ↔ n.testBit j = false := by
  have h2 : (2 : Nat) ^ j < 2 ^ 63 := Nat.pow_lt_pow_right (by decide) hj
  have hle : n &&& 2 ^ j ≤ 2 ^ j := Nat.and_le_right
  rw [fb_andL, ← fb_bit_nat, show (0 : Int64) = lN 0 from rfl]
  exact fb_lN_inj (by omega) (by decide)
/-- a bit set, a bit taken off -/
theorem fb_bit_set (n j i : Nat) : (n ||| 2 ^ j).testBit i = (n.testBit i || decide (i = j)) := by
  rw [Nat.testBit_or]
  by_cases h : j = i
  · subst h; simp
  · have h2 : ¬ i = j := fun e => h e.symm
    first | (simp [Nat.testBit_two_pow, h, h2]; done) | (simp [Nat.testBit_two_pow_of_ne h, h2]; done)
theorem fb_bit_flip (n j i : Nat) : (n ^^^ 2 ^ j).testBit i = (n.testBit i ^^ decide (i = j)) := by
  rw [Nat.testBit_xor]
  by_cases h : j = i
  · subst h; simp
  · have h2 : ¬ i = j := fun e => h e.symm
    first | (simp [Nat.testBit_two_pow, h, h2]; done) | (simp [Nat.testBit_two_pow_of_ne h, h2]; done)
/-! ===== a stretch of an array written over by a function ===== -/
def fb_put {α : Type} (f g : Nat → α) (a n : Nat) : Nat → α := fun k => if a ≤ k ∧ k < a + n then g (k - a) else f k
theorem fb_put_0 {α : Type} (f g : Nat → α) (a : Nat) : fb_put f g a 0 = f := funext fun k => if_neg (by omega)
theorem fb_put_in {α : Type} {f g : Nat → α} {a n k : Nat} (h1 : a ≤ k) (h2 : k < a + n) : fb_put f g a n k = g (k - a) := if_pos ⟨h1, h2⟩
theorem fb_put_out {α : Type} {f g : Nat → α} {a n k : Nat} (h : k < a ∨ a + n ≤ k) : fb_put f g a n k = f k := if_neg (by omega)
theorem fb_put_succ (f g : Nat → Int32) (a n : Nat) : upd (fb_put f g a n) (a + n) (g n) = fb_put f g a (n + 1) := by
  funext k
  by_cases h : k = a + n
  · subst h
    simp [upd, fb_put]
  · by_cases h1 : a ≤ k ∧ k < a + n
    · have h2 : a ≤ k ∧ k < a + (n + 1) := by omega
      simp only [upd, fb_put, if_neg h, if_pos h1, if_pos h2]
    · have h2 : ¬ (a ≤ k ∧ k < a + (n + 1)) := by omega
      simp only [upd, fb_put, if_neg h, if_neg h1, if_neg h2]
/-- .. from the far end down -/
theorem fb_put_down (f g : Nat → Int32) {a n m : Nat} (h : m < n) : upd (fb_put f (fun k => g (k + (m + 1))) (a + (m + 1)) (n - (m + 1))) (a + m) (g m) = fb_put f (fun k => g (k + m)) (a + m) (n - m) := by
  funext k
  by_cases h0 : k = a + m
  · subst h0
    simp only [upd, if_true]
    rw [fb_put_in (by omega) (by omega)]
    exact congrArg g (by omega)
  · simp only [upd, if_neg h0]
    by_cases h1 : a + (m + 1) ≤ k ∧ k < a + (m + 1) + (n - (m + 1))
    · rw [fb_put_in h1.1 h1.2, fb_put_in (by omega) (by omega)]
      exact congrArg g (by omega)
    · rw [fb_put_out (by omega), fb_put_out (by omega)]
theorem fb_put_cong {α : Type} {f f2 g g2 : Nat → α} {a n : Nat} (hf : ∀ k, (k < a ∨ a + n ≤ k) → f k = f2 k) (hg : ∀ k, k < n → g k = g2 k) : fb_put f g a n = fb_put f2 g2 a n := by
  funext k
  by_cases h : a ≤ k ∧ k < a + n
  · rw [fb_put_in h.1 h.2, fb_put_in h.1 h.2, hg _ (by omega)]
  · rw [fb_put_out (by omega), fb_put_out (by omega), hf _ (by omega)]
/-! ===== the least, the first, the best so far; that there is one alone ===== -/
theorem fb_first {p : Nat → Prop} [DecidablePred p] : ∀ {n : Nat}, (∃ i, i < n ∧ p i) → ∃ i, i < n ∧ p i ∧ ∀ j, j < i → ¬ p j
  | 0, h => by obtain ⟨i, hi, -⟩ := h; exact absurd hi (Nat.not_lt_zero i)
  | n + 1, h => by
    by_cases q : ∃ i, i < n ∧ p i
    · obtain ⟨i, h1, h2⟩ := fb_first q
      exact ⟨i, by omega, h2⟩
    · obtain ⟨i, h1, h2⟩ := h
      have e : i = n := by
        rcases Nat.lt_or_ge i n with r | r
        · exact absurd ⟨i, r, h2⟩ q
        · omega
      subst e
      exact ⟨i, by omega, h2, fun j hj hp => q ⟨j, hj, hp⟩⟩
theorem fb_first_one {p : Nat → Prop} {i j : Nat} (hi : p i) (hi2 : ∀ k, k < i → ¬ p k) (hj : p j) (hj2 : ∀ k, k < j → ¬ p k) : i = j := by
  rcases Nat.lt_trichotomy i j with q | q | q
  · exact absurd hi (hj2 i q)
  · exact q
  · exact absurd hj (hi2 j q)
theorem fb_last {p : Nat → Prop} [DecidablePred p] : ∀ {n : Nat}, (∃ i, i < n ∧ p i) → ∃ i, i < n ∧ p i ∧ ∀ j, i < j → j < n → ¬ p j
  | 0, h => by obtain ⟨i, hi, -⟩ := h; exact absurd hi (Nat.not_lt_zero i)
  | n + 1, h => by
    by_cases q : p n
    · exact ⟨n, by omega, q, fun j h1 h2 => by omega⟩
    · obtain ⟨i, h1, h2⟩ := h
      have hi : i < n := by
        rcases Nat.lt_or_ge i n with r | r
        · exact r
        · have e : i = n := by omega
          subst e
          exact absurd h2 q
      obtain ⟨i2, a1, a2, a3⟩ := fb_last (n := n) ⟨i, hi, h2⟩
      refine ⟨i2, by omega, a2, fun j b1 b2 => ?_⟩
      rcases Nat.lt_or_ge j n with r | r
      · exact a3 j b1 r
      · have e : j = n := by omega
        subst e
        exact q
/-- the first greatest -/
theorem fb_best (f : Nat → Int) : ∀ {n : Nat}, 0 < n → ∃ i, i < n ∧ (∀ j, j < n → f j ≤ f i) ∧ ∀ j, j < i → f j < f i
  | 0, h => absurd h (Nat.lt_irrefl 0)
  | 1, _ => ⟨0, by omega, fun j hj => by have e : j = 0 := by omega
                                         subst e; exact Int.le_refl _, fun j hj => absurd hj (Nat.not_lt_zero j)⟩
  | n + 2, _ => by
    obtain ⟨i, h1, h2, h3⟩ := fb_best f (n := n + 1) (by omega)
    by_cases q : f i < f (n + 1)
    · refine ⟨n + 1, by omega, fun j hj => ?_, fun j hj => ?_⟩
      · rcases Nat.lt_or_ge j (n + 1) with r | r
        · have := h2 j r; omega
        · have e : j = n + 1 := by omega
          subst e; exact Int.le_refl _
      · have := h2 j hj; omega
    · refine ⟨i, by omega, fun j hj => ?_, h3⟩
      rcases Nat.lt_or_ge j (n + 1) with r | r
      · exact h2 j r
      · have e : j = n + 1 := by omega
        subst e; omega
theorem fb_best_one {f : Nat → Int} {n i j : Nat} (hi : i < n) (hi2 : ∀ k, k < n → f k ≤ f i) (hi3 : ∀ k, k < i → f k < f i) (hj : j < n) (hj2 : ∀ k, k < n → f k ≤ f j) (hj3 : ∀ k, k < j → f k < f j) : i = j := by
  rcases Nat.lt_trichotomy i j with q | q | q
  · have a := hj3 i q
    have b := hi2 j hj
    omega
  · exact q
  · have a := hi3 j q
    have b := hj2 i hi
    omega
/-- the first least -/
theorem fb_low (f : Nat → Int) {n : Nat} (h : 0 < n) : ∃ i, i < n ∧ (∀ j, j < n → f i ≤ f j) ∧ ∀ j, j < i → f i < f j := by
  obtain ⟨i, h1, h2, h3⟩ := fb_best (fun k => -f k) h
  exact ⟨i, h1, fun j hj => by have := h2 j hj; omega, fun j hj => by have := h3 j hj; omega⟩
/-! ===== signed ints as whole numbers, within bounds ===== -/
theorem fb_rng (x : Int32) : -2147483648 ≤ x.toInt ∧ x.toInt < 2147483648 := by
  have h1 := Int32.le_toInt x
  have h2 := Int32.toInt_lt x
  omega
theorem fb_bmod {z : Int} (h1 : -2147483648 ≤ z) (h2 : z < 2147483648) : z.bmod (2 ^ 32) = z := by
  rw [Int.bmod_eq_of_le (by omega) (by omega)]
theorem fb_addI {x y : Int32} (h1 : -2147483648 ≤ x.toInt + y.toInt) (h2 : x.toInt + y.toInt < 2147483648) : (x + y).toInt = x.toInt + y.toInt := by
  rw [Int32.toInt_add, fb_bmod h1 h2]
theorem fb_subI {x y : Int32} (h1 : -2147483648 ≤ x.toInt - y.toInt) (h2 : x.toInt - y.toInt < 2147483648) : (x - y).toInt = x.toInt - y.toInt := by
  rw [Int32.toInt_sub, fb_bmod h1 h2]
theorem fb_mulI {x y : Int32} (h1 : -2147483648 ≤ x.toInt * y.toInt) (h2 : x.toInt * y.toInt < 2147483648) : (x * y).toInt = x.toInt * y.toInt := by
  rw [Int32.toInt_mul, fb_bmod h1 h2]
theorem fb_negI {x : Int32} (h : x.toInt ≠ -2147483648) : (-x).toInt = -x.toInt := by
  have := fb_rng x
  rw [Int32.toInt_neg, fb_bmod (by omega) (by omega)]
theorem fb_ofI {z : Int} (h1 : -2147483648 ≤ z) (h2 : z < 2147483648) : (Int32.ofInt z).toInt = z := by
  rw [Int32.toInt_ofInt, fb_bmod h1 h2]
theorem fb_asI (x : Int32) : Int32.ofInt x.toInt = x := Int32.ofInt_toInt x
theorem fb_rngL (x : Int64) : -9223372036854775808 ≤ x.toInt ∧ x.toInt < 9223372036854775808 := by
  have h1 := Int64.le_toInt x
  have h2 := Int64.toInt_lt x
  omega
theorem fb_bmodL {z : Int} (h1 : -9223372036854775808 ≤ z) (h2 : z < 9223372036854775808) : z.bmod (2 ^ 64) = z := by
  rw [Int.bmod_eq_of_le (by omega) (by omega)]
theorem fb_addL {x y : Int64} (h1 : -9223372036854775808 ≤ x.toInt + y.toInt) (h2 : x.toInt + y.toInt < 9223372036854775808) : (x + y).toInt = x.toInt + y.toInt := by
  rw [Int64.toInt_add, fb_bmodL h1 h2]
theorem fb_subL {x y : Int64} (h1 : -9223372036854775808 ≤ x.toInt - y.toInt) (h2 : x.toInt - y.toInt < 9223372036854775808) : (x - y).toInt = x.toInt - y.toInt := by
  rw [Int64.toInt_sub, fb_bmodL h1 h2]
theorem fb_mulL {x y : Int64} (h1 : -9223372036854775808 ≤ x.toInt * y.toInt) (h2 : x.toInt * y.toInt < 9223372036854775808) : (x * y).toInt = x.toInt * y.toInt := by
  rw [Int64.toInt_mul, fb_bmodL h1 h2]
/-! ===== cuts of what is narrow already ===== -/
theorem fb_byte {x : Int32} (h1 : -128 ≤ x.toInt) (h2 : x.toInt < 128) : x.toInt8.toInt32 = x := by
  apply Int32.toInt_inj.1
  rw [Int8.toInt_toInt32, Int32.toInt_toInt8, Int.bmod_eq_of_le (by omega) (by omega)]
theorem fb_short {x : Int32} (h1 : -32768 ≤ x.toInt) (h2 : x.toInt < 32768) : x.toInt16.toInt32 = x := by
  apply Int32.toInt_inj.1
  rw [Int16.toInt_toInt32, Int32.toInt_toInt16, Int.bmod_eq_of_le (by omega) (by omega)]
theorem fb_byte_rng (x : Int32) : -128 ≤ x.toInt8.toInt32.toInt ∧ x.toInt8.toInt32.toInt < 128 := by
  rw [Int8.toInt_toInt32]
  have h1 := Int8.le_toInt x.toInt8
  have h2 := Int8.toInt_lt x.toInt8
  omega
theorem fb_short_rng (x : Int32) : -32768 ≤ x.toInt16.toInt32.toInt ∧ x.toInt16.toInt32.toInt < 32768 := by
  rw [Int16.toInt_toInt32]
  have h1 := Int16.le_toInt x.toInt16
  have h2 := Int16.toInt_lt x.toInt16
  omega
theorem fb_byte_twice (x : Int32) : x.toInt8.toInt32.toInt8.toInt32 = x.toInt8.toInt32 := fb_byte (fb_byte_rng x).1 (fb_byte_rng x).2
theorem fb_short_twice (x : Int32) : x.toInt16.toInt32.toInt16.toInt32 = x.toInt16.toInt32 := fb_short (fb_short_rng x).1 (fb_short_rng x).2
theorem fb_char {n : Nat} (h : n < 65536) : (nI n).toUInt32.toUInt16.toUInt32.toInt32 = nI n := by
  apply Int32.toBitVec_inj.1
  apply BitVec.eq_of_toNat_eq
  have e1 : (nI n).toBitVec.toNat = n := by
    show (BitVec.ofNat 32 n).toNat = n
    rw [BitVec.toNat_ofNat, Nat.mod_eq_of_lt (by omega)]
  have e2 : ((nI n).toUInt32.toUInt16.toUInt32).toNat = n := by
    rw [UInt16.toNat_toUInt32, UInt32.toNat_toUInt16]
    show (nI n).toBitVec.toNat % 2 ^ 16 = n
    rw [e1, Nat.mod_eq_of_lt (by omega)]
  rw [e1]
  exact e2
end
section
def bI (p : Bool) : Int32 := if p then 1 else 0
theorem bI_t : bI true = 1 := rfl
theorem bI_f : bI false = 0 := rfl
theorem bI_n (p : Bool) : narrow .boolean (.int (bI p)) = .int (bI p) := by cases p <;> decide
theorem bI_nI (p : Bool) : bI p = nI (if p then 1 else 0) := by cases p <;> decide
theorem bI_fit (p : Bool) : fits .boolean (.int (bI p)) = true := by cases p <;> decide
theorem bI_v (p : Bool) : vp_nar .boolean (bI p) = bI p := by cases p <;> decide
theorem up_loop {P : Nat → Prop} (n : Nat) (hend : P n) (hstep : ∀ i, i < n → P (i + 1) → P i) : ∀ i, i ≤ n → P i := by
  intro i hi
  obtain ⟨k, rfl⟩ : ∃ k, n = i + k := ⟨n - i, by omega⟩
  induction k generalizing i with
  | zero => exact hend
  | succ k ih => exact hstep i (by omega) (ih (i + 1) (by rw [show i + 1 + k = i + (k + 1) by omega]; exact hend) (fun j hj => hstep j (by omega)) (by omega))
theorem m1_toInt : (-1 : Int32).toInt = -1 := by decide
theorem pw31 : (2 : Nat) ^ 31 = 2147483648 := by decide
section XN
variable {E : Ev} {d : Nat} {own : String} {b : ByteArray} {nL : Nat} {C : Cx} {pc : Nat} {L : List (Option Value)} {st : List Value} {M : PM}
theorem x_iaddN {x y : Nat} (hd : decode b pc = .ok (.iadd, 1)) (kk : X E d own b nL C (pc + 1) L (.int (nI (x + y)) :: st) M) : X E d own b nL C pc L (.int (nI y) :: .int (nI x) :: st) M := by
  rw [← nI_add] at kk; exact x_iadd hd kk
theorem x_imulN {x y : Nat} (hd : decode b pc = .ok (.imul, 1)) (kk : X E d own b nL C (pc + 1) L (.int (nI (x * y)) :: st) M) : X E d own b nL C pc L (.int (nI y) :: .int (nI x) :: st) M := by
  rw [← pk_mul] at kk; exact x_imul hd kk
theorem x_isubN {x y : Nat} (hd : decode b pc = .ok (.isub, 1)) (h : y ≤ x) (kk : X E d own b nL C (pc + 1) L (.int (nI (x - y)) :: st) M) : X E d own b nL C pc L (.int (nI y) :: .int (nI x) :: st) M := by
  rw [← pk_sub h] at kk; exact x_isub hd kk
theorem x_idivN {x y : Nat} (hd : decode b pc = .ok (.idiv, 1)) (h0 : 0 < y) (hx : x < 2147483648) (hy : y < 2147483648) (kk : X E d own b nL C (pc + 1) L (.int (nI (x / y)) :: st) M) : X E d own b nL C pc L (.int (nI y) :: .int (nI x) :: st) M := by
  rw [← pk_div hx h0 hy] at kk; exact x_idiv hd (nI_ne0 h0 hy) kk
theorem x_iremN {x y : Nat} (hd : decode b pc = .ok (.irem, 1)) (h0 : 0 < y) (hx : x < 2147483648) (hy : y < 2147483648) (kk : X E d own b nL C (pc + 1) L (.int (nI (x % y)) :: st) M) : X E d own b nL C pc L (.int (nI y) :: .int (nI x) :: st) M := by
  rw [← pk_rem hx h0 hy, irem_eq_mod] at kk; exact x_irem hd (nI_ne0 h0 hy) kk
theorem s_lN : ∀ n, n < 32 → ((nI n &&& 31).toBitVec.smod 32).toNat = n := by decide +kernel
theorem x_ishlN {x y : Nat} (hd : decode b pc = .ok (.ishl, 1)) (hy : y < 31) (hx : x * 2 ^ y < 2147483648) (kk : X E d own b nL C (pc + 1) L (.int (nI (x * 2 ^ y)) :: st) M) : X E d own b nL C pc L (.int (nI y) :: .int (nI x) :: st) M := by
  rw [← pk_shlN (nI y &&& 31) y (s_lN y (by omega)) (by omega)] at kk; exact x_ishl hd kk
theorem x_ishrN {x y : Nat} (hd : decode b pc = .ok (.ishr, 1)) (hy : y < 31) (hx : x < 2147483648) (kk : X E d own b nL C (pc + 1) L (.int (nI (x / 2 ^ y)) :: st) M) : X E d own b nL C pc L (.int (nI y) :: .int (nI x) :: st) M := by
  rw [← pk_shrN hx (nI y &&& 31) y (s_lN y (by omega))] at kk; exact x_ishr hd kk
theorem x_iandN {x y : Nat} (hd : decode b pc = .ok (.iand, 1)) (kk : X E d own b nL C (pc + 1) L (.int (nI (x &&& y)) :: st) M) : X E d own b nL C pc L (.int (nI y) :: .int (nI x) :: st) M := by
  rw [← fa_and] at kk; exact x_iand hd kk
theorem x_and1N {x : Nat} (hd : decode b pc = .ok (.iand, 1)) (kk : X E d own b nL C (pc + 1) L (.int (nI (x % 2)) :: st) M) : X E d own b nL C pc L (.int (nI 1) :: .int (nI x) :: st) M := by
  refine x_iandN hd ?_
  rw [show x &&& 1 = x % 2 from Nat.and_one_is_mod x]
  exact kk
theorem x_iorN {x y : Nat} (hd : decode b pc = .ok (.ior, 1)) (kk : X E d own b nL C (pc + 1) L (.int (nI (x ||| y)) :: st) M) : X E d own b nL C pc L (.int (nI y) :: .int (nI x) :: st) M := by
  rw [← fa_or] at kk; exact x_ior hd kk
theorem x_ialdN {c n k : Nat} {v : Int32} (hd : decode b pc = .ok (.iaload, 1)) (hl0 : lay c = .inl (0, n)) (hc : c < cK) (hk : k < n) (hn : n < 2147483648) (hv : M.1 c k = v) (kk : X E d own b nL C (pc + 1) L (.int v :: st) M) : X E d own b nL C pc L (.int (nI k) :: .ref (ad E c) :: st) M := by
  subst hv
  exact x_iald hd hl0 hc (vp_in_nI hk hn) (by rw [nI_clamp (by omega)]; exact kk)
theorem x_iastN {c n k : Nat} {x : Int32} (hd : decode b pc = .ok (.iastore, 1)) (hl0 : lay c = .inl (0, n)) (hc : c < cK) (hk : k < n) (hn : n < 2147483648) (kk : X E d own b nL C (pc + 1) L st (sa M c (upd (M.1 c) k x))) : X E d own b nL C pc L (.int x :: .int (nI k) :: .ref (ad E c) :: st) M :=
  x_iast hd hl0 hc (vp_in_nI hk hn) (by rw [nI_clamp (by omega)]; exact kk)
theorem x_zaldN {c n k : Nat} {v : Int32} (hd : decode b pc = .ok (.baload, 1)) (hl0 : lay c = .inl (1, n)) (hc : c < cK) (hk : k < n) (hn : n < 2147483648) (hv : M.1 c k = v) (kk : X E d own b nL C (pc + 1) L (.int v :: st) M) : X E d own b nL C pc L (.int (nI k) :: .ref (ad E c) :: st) M := by
  subst hv
  exact x_zald hd hl0 hc (vp_in_nI hk hn) (by rw [nI_clamp (by omega)]; exact kk)
theorem x_zastN {c n k : Nat} {x : Int32} (hd : decode b pc = .ok (.bastore, 1)) (hl0 : lay c = .inl (1, n)) (hc : c < cK) (hk : k < n) (hn : n < 2147483648) (hx : vp_nar .boolean x = x) (kk : X E d own b nL C (pc + 1) L st (sa M c (upd (M.1 c) k x))) : X E d own b nL C pc L (.int x :: .int (nI k) :: .ref (ad E c) :: st) M :=
  x_zast hd hl0 hc (vp_in_nI hk hn) hx (by rw [nI_clamp (by omega)]; exact kk)
theorem x_geti {idx ci k c : Nat} {fl : List (Nat ⊕ Bool)} (hd : decode b pc = .ok (.getfield idx, 3)) (hf : FL own idx ci k) (hl0 : lay c = .inr (ci, fl)) (hk : fl[k]? = some (.inr false)) (hc : c < cK) (kk : X E d own b nL C (pc + 3) L (.int (M.1 c k) :: st) M) : X E d own b nL C pc L (.ref (ad E c) :: st) M := x_get hd hf hl0 hk hc kk
theorem x_getv {idx ci k c : Nat} {v : Int32} {fl : List (Nat ⊕ Bool)} (hv : M.1 c k = v) (hd : decode b pc = .ok (.getfield idx, 3)) (hf : FL own idx ci k) (hl0 : lay c = .inr (ci, fl)) (hk : fl[k]? = some (.inr false)) (hc : c < cK) (kk : X E d own b nL C (pc + 3) L (.int v :: st) M) : X E d own b nL C pc L (.ref (ad E c) :: st) M := by
  subst hv; exact x_get hd hf hl0 hk hc kk
theorem x_getr {idx ci k c r : Nat} {fl : List (Nat ⊕ Bool)} (hd : decode b pc = .ok (.getfield idx, 3)) (hf : FL own idx ci k) (hl0 : lay c = .inr (ci, fl)) (hk : fl[k]? = some (.inl r)) (hc : c < cK) (kk : X E d own b nL C (pc + 3) L (.ref (ad E r) :: st) M) : X E d own b nL C pc L (.ref (ad E c) :: st) M := x_get hd hf hl0 hk hc kk
theorem x_getl {idx ci k c : Nat} {fl : List (Nat ⊕ Bool)} (hd : decode b pc = .ok (.getfield idx, 3)) (hf : FL own idx ci k) (hl0 : lay c = .inr (ci, fl)) (hk : fl[k]? = some (.inr true)) (hc : c < cK) (kk : X E d own b nL C (pc + 3) L (.long (M.2 c) :: st) M) : X E d own b nL C pc L (.ref (ad E c) :: st) M := x_get hd hf hl0 hk hc kk
theorem x_val {x y : Int32} (h : x = y) (kk : X E d own b nL C pc L (.int y :: st) M) : X E d own b nL C pc L (.int x :: st) M := h ▸ kk
theorem x_val2 {x y : Int32} {w : Value} (h : x = y) (kk : X E d own b nL C pc L (w :: .int y :: st) M) : X E d own b nL C pc L (w :: .int x :: st) M := h ▸ kk
theorem x_mem {N : PM} (h : M = N) (kk : X E d own b nL C pc L st N) : X E d own b nL C pc L st M := h ▸ kk
theorem x_icmp_eqN {x y : Nat} {off : Int} {tgt : Nat} (hd : decode b pc = .ok (.if_icmp .eq off, 3)) (ht : (pc : Int) + off = (tgt : Int)) (hx : x < 2147483648) (hy : y < 2147483648) (kt : x = y → X E d own b nL C tgt L st M) (kf : x ≠ y → X E d own b nL C (pc + 3) L st M) : X E d own b nL C pc L (.int (nI y) :: .int (nI x) :: st) M :=
  x_icmp_eq hd ht (fun h => kt ((nI_eq hx hy).mp h)) (fun h => kf (fun e => h ((nI_eq hx hy).mpr e)))
theorem x_icmp_neN {x y : Nat} {off : Int} {tgt : Nat} (hd : decode b pc = .ok (.if_icmp .ne off, 3)) (ht : (pc : Int) + off = (tgt : Int)) (hx : x < 2147483648) (hy : y < 2147483648) (kt : x ≠ y → X E d own b nL C tgt L st M) (kf : x = y → X E d own b nL C (pc + 3) L st M) : X E d own b nL C pc L (.int (nI y) :: .int (nI x) :: st) M :=
  x_icmp_ne hd ht (fun h => kt (fun e => h ((nI_eq hx hy).mpr e))) (fun h => kf ((nI_eq hx hy).mp h))
theorem x_icmp_ltN {x y : Nat} {off : Int} {tgt : Nat} (hd : decode b pc = .ok (.if_icmp .lt off, 3)) (ht : (pc : Int) + off = (tgt : Int)) (hx : x < 2147483648) (hy : y < 2147483648) (kt : x < y → X E d own b nL C tgt L st M) (kf : y ≤ x → X E d own b nL C (pc + 3) L st M) : X E d own b nL C pc L (.int (nI y) :: .int (nI x) :: st) M :=
  x_icmp_lt hd ht (fun h => kt ((nI_ltI hx hy).mp h)) (fun h => kf (by have h2 : ¬ (x < y) := fun e => h ((nI_ltI hx hy).mpr e); omega))
theorem x_icmp_geN {x y : Nat} {off : Int} {tgt : Nat} (hd : decode b pc = .ok (.if_icmp .ge off, 3)) (ht : (pc : Int) + off = (tgt : Int)) (hx : x < 2147483648) (hy : y < 2147483648) (kt : y ≤ x → X E d own b nL C tgt L st M) (kf : x < y → X E d own b nL C (pc + 3) L st M) : X E d own b nL C pc L (.int (nI y) :: .int (nI x) :: st) M :=
  x_icmp_ge hd ht (fun h => kt ((nI_leI hy hx).mp h)) (fun h => kf (by have h2 : ¬ (y ≤ x) := fun e => h ((nI_leI hy hx).mpr e); omega))
theorem x_icmp_gtN {x y : Nat} {off : Int} {tgt : Nat} (hd : decode b pc = .ok (.if_icmp .gt off, 3)) (ht : (pc : Int) + off = (tgt : Int)) (hx : x < 2147483648) (hy : y < 2147483648) (kt : y < x → X E d own b nL C tgt L st M) (kf : x ≤ y → X E d own b nL C (pc + 3) L st M) : X E d own b nL C pc L (.int (nI y) :: .int (nI x) :: st) M :=
  x_icmp_gt hd ht (fun h => kt ((nI_ltI hy hx).mp h)) (fun h => kf (by have h2 : ¬ (y < x) := fun e => h ((nI_ltI hy hx).mpr e); omega))
theorem x_icmp_leN {x y : Nat} {off : Int} {tgt : Nat} (hd : decode b pc = .ok (.if_icmp .le off, 3)) (ht : (pc : Int) + off = (tgt : Int)) (hx : x < 2147483648) (hy : y < 2147483648) (kt : x ≤ y → X E d own b nL C tgt L st M) (kf : y < x → X E d own b nL C (pc + 3) L st M) : X E d own b nL C pc L (.int (nI y) :: .int (nI x) :: st) M :=
  x_icmp_le hd ht (fun h => kt ((nI_leI hx hy).mp h)) (fun h => kf (by have h2 : ¬ (x ≤ y) := fun e => h ((nI_leI hx hy).mpr e); omega))
theorem x_if_eqN {x : Nat} {off : Int} {tgt : Nat} (hd : decode b pc = .ok (.ifCond .eq off, 3)) (ht : (pc : Int) + off = (tgt : Int)) (hx : x < 2147483648) (kt : x = 0 → X E d own b nL C tgt L st M) (kf : x ≠ 0 → X E d own b nL C (pc + 3) L st M) : X E d own b nL C pc L (.int (nI x) :: st) M :=
  x_if_eq hd ht (fun h => kt ((nI_eq hx (by decide : 0 < 2 ^ 31)).mp (h.trans nI_0.symm))) (fun h => kf (fun e => h (by rw [e]; exact nI_0)))
theorem x_if_neN {x : Nat} {off : Int} {tgt : Nat} (hd : decode b pc = .ok (.ifCond .ne off, 3)) (ht : (pc : Int) + off = (tgt : Int)) (hx : x < 2147483648) (kt : x ≠ 0 → X E d own b nL C tgt L st M) (kf : x = 0 → X E d own b nL C (pc + 3) L st M) : X E d own b nL C pc L (.int (nI x) :: st) M :=
  x_if_ne hd ht (fun h => kt (fun e => h (by rw [e]; exact nI_0))) (fun h => kf ((nI_eq hx (by decide : 0 < 2 ^ 31)).mp (h.trans nI_0.symm)))
theorem x_if_ltN {x : Nat} {off : Int} {tgt : Nat} (hd : decode b pc = .ok (.ifCond .lt off, 3)) (ht : (pc : Int) + off = (tgt : Int)) (hx : x < 2147483648) (kf : X E d own b nL C (pc + 3) L st M) : X E d own b nL C pc L (.int (nI x) :: st) M :=
  x_if_lt hd ht (fun h => absurd h (nI_pos hx)) (fun _ => kf)
theorem x_if_geN {x : Nat} {off : Int} {tgt : Nat} (hd : decode b pc = .ok (.ifCond .ge off, 3)) (ht : (pc : Int) + off = (tgt : Int)) (hx : x < 2147483648) (kt : X E d own b nL C tgt L st M) : X E d own b nL C pc L (.int (nI x) :: st) M :=
  x_if_ge hd ht (fun _ => kt) (fun h => absurd (nI_pos' hx) h)
theorem x_if_gtN {x : Nat} {off : Int} {tgt : Nat} (hd : decode b pc = .ok (.ifCond .gt off, 3)) (ht : (pc : Int) + off = (tgt : Int)) (hx : x < 2147483648) (kt : 0 < x → X E d own b nL C tgt L st M) (kf : x = 0 → X E d own b nL C (pc + 3) L st M) : X E d own b nL C pc L (.int (nI x) :: st) M :=
  x_if_gt hd ht (fun h => kt (by rw [← nI_0] at h; exact (nI_ltI (by decide) hx).mp h)) (fun h => kf (by have h2 : ¬ 0 < x := fun e => h (by rw [← nI_0]; exact (nI_ltI (by decide) hx).mpr e); omega))
theorem x_if_leN {x : Nat} {off : Int} {tgt : Nat} (hd : decode b pc = .ok (.ifCond .le off, 3)) (ht : (pc : Int) + off = (tgt : Int)) (hx : x < 2147483648) (kt : x = 0 → X E d own b nL C tgt L st M) (kf : 0 < x → X E d own b nL C (pc + 3) L st M) : X E d own b nL C pc L (.int (nI x) :: st) M :=
  x_if_le hd ht (fun h => kt (by rcases Nat.eq_zero_or_pos x with e | e; exact e; exact absurd h (nI_nle e hx))) (fun h => kf (by rcases Nat.eq_zero_or_pos x with e | e; (exact absurd (by rw [e, nI_0]; decide) h); exact e))
theorem x_if_eqB {p : Bool} {off : Int} {tgt : Nat} (hd : decode b pc = .ok (.ifCond .eq off, 3)) (ht : (pc : Int) + off = (tgt : Int)) (kt : p = false → X E d own b nL C tgt L st M) (kf : p = true → X E d own b nL C (pc + 3) L st M) : X E d own b nL C pc L (.int (bI p) :: st) M :=
  x_if_eq hd ht (fun h => kt (by cases p; rfl; exact absurd h (by decide))) (fun h => kf (by cases p; exact absurd rfl h; rfl))
theorem x_if_neB {p : Bool} {off : Int} {tgt : Nat} (hd : decode b pc = .ok (.ifCond .ne off, 3)) (ht : (pc : Int) + off = (tgt : Int)) (kt : p = true → X E d own b nL C tgt L st M) (kf : p = false → X E d own b nL C (pc + 3) L st M) : X E d own b nL C pc L (.int (bI p) :: st) M :=
  x_if_ne hd ht (fun h => kt (by cases p; exact absurd rfl h; rfl)) (fun h => kf (by cases p; rfl; exact absurd h (by decide)))
end XN
section XP
variable {E : Ev} {d : Nat} {own : String} {b : ByteArray} {C : Cx} {pc : Nat} {st : List Value} {M : PM}
theorem xis1_0 {l0 : Option Value} {v : Int32} (hd : decode b pc = .ok (.istore_n 0, 1)) (kk : X E d own b 1 C (pc + 1) [some (.int v)] st M) : X E d own b 1 C pc [l0] (.int v :: st) M := x_istore_n hd rfl rfl (by decide) kk
theorem xinc2_1_m1 {l0 : Option Value} {x : Int32} (hd : decode b pc = .ok (.iinc 1 (-1), 3)) (hn : nl l0 = true) (kk : X E d own b 2 C (pc + 3) [l0, some (.int (x + (-1)))] st M) : X E d own b 2 C pc [l0, some (.int x)] st M := x_iinc hd rfl (by decide) hn (by decide) kk
theorem xinc2_1_m1N {l0 : Option Value} {x : Nat} (hd : decode b pc = .ok (.iinc 1 (-1), 3)) (hn : nl l0 = true) (kk : X E d own b 2 C (pc + 3) [l0, some (.int (nI x))] st M) : X E d own b 2 C pc [l0, some (.int (nI (x + 1)))] st M := xinc2_1_m1 hd hn (by rw [show nI (x + 1) + (-1) = nI x from by rw [pk_m1]]; exact kk)
theorem xinc2_1 {l0 : Option Value} {x : Int32} (hd : decode b pc = .ok (.iinc 1 1, 3)) (hn : nl l0 = true) (kk : X E d own b 2 C (pc + 3) [l0, some (.int (x + 1))] st M) : X E d own b 2 C pc [l0, some (.int x)] st M := x_iinc hd rfl (by decide) hn (by decide) kk
theorem xinc2_1N {l0 : Option Value} {x : Nat} (hd : decode b pc = .ok (.iinc 1 1, 3)) (hn : nl l0 = true) (kk : X E d own b 2 C (pc + 3) [l0, some (.int (nI (x + 1)))] st M) : X E d own b 2 C pc [l0, some (.int (nI x))] st M := xinc2_1 hd hn (by rw [show nI x + 1 = nI (x + 1) from nI_add x 1]; exact kk)
theorem xis2_1 {l0 l1 : Option Value} {v : Int32} (hd : decode b pc = .ok (.istore_n 1, 1)) (hn : nl l0 = true) (kk : X E d own b 2 C (pc + 1) [l0, some (.int v)] st M) : X E d own b 2 C pc [l0, l1] (.int v :: st) M := x_istore_n hd rfl hn (by decide) kk
theorem xinc3_1 {l0 l2 : Option Value} {x : Int32} (hd : decode b pc = .ok (.iinc 1 1, 3)) (hn : nl l0 = true) (kk : X E d own b 3 C (pc + 3) [l0, some (.int (x + 1)), l2] st M) : X E d own b 3 C pc [l0, some (.int x), l2] st M := x_iinc hd rfl (by decide) hn (by decide) kk
theorem xinc3_1N {l0 l2 : Option Value} {x : Nat} (hd : decode b pc = .ok (.iinc 1 1, 3)) (hn : nl l0 = true) (kk : X E d own b 3 C (pc + 3) [l0, some (.int (nI (x + 1))), l2] st M) : X E d own b 3 C pc [l0, some (.int (nI x)), l2] st M := xinc3_1 hd hn (by rw [show nI x + 1 = nI (x + 1) from nI_add x 1]; exact kk)
theorem xinc3_2 {l0 l1 : Option Value} {x : Int32} (hd : decode b pc = .ok (.iinc 2 1, 3)) (hn : nl l1 = true) (kk : X E d own b 3 C (pc + 3) [l0, l1, some (.int (x + 1))] st M) : X E d own b 3 C pc [l0, l1, some (.int x)] st M := x_iinc hd rfl (by decide) hn (by decide) kk
theorem xinc3_2N {l0 l1 : Option Value} {x : Nat} (hd : decode b pc = .ok (.iinc 2 1, 3)) (hn : nl l1 = true) (kk : X E d own b 3 C (pc + 3) [l0, l1, some (.int (nI (x + 1)))] st M) : X E d own b 3 C pc [l0, l1, some (.int (nI x))] st M := xinc3_2 hd hn (by rw [show nI x + 1 = nI (x + 1) from nI_add x 1]; exact kk)
theorem xis3_1 {l0 l1 l2 : Option Value} {v : Int32} (hd : decode b pc = .ok (.istore_n 1, 1)) (hn : nl l0 = true) (kk : X E d own b 3 C (pc + 1) [l0, some (.int v), l2] st M) : X E d own b 3 C pc [l0, l1, l2] (.int v :: st) M := x_istore_n hd rfl hn (by decide) kk
theorem xis3_2 {l0 l1 l2 : Option Value} {v : Int32} (hd : decode b pc = .ok (.istore_n 2, 1)) (hn : nl l1 = true) (kk : X E d own b 3 C (pc + 1) [l0, l1, some (.int v)] st M) : X E d own b 3 C pc [l0, l1, l2] (.int v :: st) M := x_istore_n hd rfl hn (by decide) kk
theorem xas4_1 {l0 l1 l2 l3 : Option Value} {v : Nat} (hd : decode b pc = .ok (.astore_n 1, 1)) (hn : nl l0 = true) (kk : X E d own b 4 C (pc + 1) [l0, some (.ref v), l2, l3] st M) : X E d own b 4 C pc [l0, l1, l2, l3] (.ref v :: st) M := x_astore_n hd rfl hn (by decide) kk
theorem xas4_2 {l0 l1 l2 l3 : Option Value} {v : Nat} (hd : decode b pc = .ok (.astore_n 2, 1)) (hn : nl l1 = true) (kk : X E d own b 4 C (pc + 1) [l0, l1, some (.ref v), l3] st M) : X E d own b 4 C pc [l0, l1, l2, l3] (.ref v :: st) M := x_astore_n hd rfl hn (by decide) kk
theorem xinc4_2 {l0 l1 l3 : Option Value} {x : Int32} (hd : decode b pc = .ok (.iinc 2 1, 3)) (hn : nl l1 = true) (kk : X E d own b 4 C (pc + 3) [l0, l1, some (.int (x + 1)), l3] st M) : X E d own b 4 C pc [l0, l1, some (.int x), l3] st M := x_iinc hd rfl (by decide) hn (by decide) kk
theorem xinc4_2N {l0 l1 l3 : Option Value} {x : Nat} (hd : decode b pc = .ok (.iinc 2 1, 3)) (hn : nl l1 = true) (kk : X E d own b 4 C (pc + 3) [l0, l1, some (.int (nI (x + 1))), l3] st M) : X E d own b 4 C pc [l0, l1, some (.int (nI x)), l3] st M := xinc4_2 hd hn (by rw [show nI x + 1 = nI (x + 1) from nI_add x 1]; exact kk)
theorem xinc4_3_m1 {l0 l1 l2 : Option Value} {x : Int32} (hd : decode b pc = .ok (.iinc 3 (-1), 3)) (hn : nl l2 = true) (kk : X E d own b 4 C (pc + 3) [l0, l1, l2, some (.int (x + (-1)))] st M) : X E d own b 4 C pc [l0, l1, l2, some (.int x)] st M := x_iinc hd rfl (by decide) hn (by decide) kk
theorem xinc4_3_m1N {l0 l1 l2 : Option Value} {x : Nat} (hd : decode b pc = .ok (.iinc 3 (-1), 3)) (hn : nl l2 = true) (kk : X E d own b 4 C (pc + 3) [l0, l1, l2, some (.int (nI x))] st M) : X E d own b 4 C pc [l0, l1, l2, some (.int (nI (x + 1)))] st M := xinc4_3_m1 hd hn (by rw [show nI (x + 1) + (-1) = nI x from by rw [pk_m1]]; exact kk)
theorem xinc4_3 {l0 l1 l2 : Option Value} {x : Int32} (hd : decode b pc = .ok (.iinc 3 1, 3)) (hn : nl l2 = true) (kk : X E d own b 4 C (pc + 3) [l0, l1, l2, some (.int (x + 1))] st M) : X E d own b 4 C pc [l0, l1, l2, some (.int x)] st M := x_iinc hd rfl (by decide) hn (by decide) kk
theorem xinc4_3N {l0 l1 l2 : Option Value} {x : Nat} (hd : decode b pc = .ok (.iinc 3 1, 3)) (hn : nl l2 = true) (kk : X E d own b 4 C (pc + 3) [l0, l1, l2, some (.int (nI (x + 1)))] st M) : X E d own b 4 C pc [l0, l1, l2, some (.int (nI x))] st M := xinc4_3 hd hn (by rw [show nI x + 1 = nI (x + 1) from nI_add x 1]; exact kk)
theorem xinc4_3_5 {l0 l1 l2 : Option Value} {x : Int32} (hd : decode b pc = .ok (.iinc 3 5, 3)) (hn : nl l2 = true) (kk : X E d own b 4 C (pc + 3) [l0, l1, l2, some (.int (x + 5))] st M) : X E d own b 4 C pc [l0, l1, l2, some (.int x)] st M := x_iinc hd rfl (by decide) hn (by decide) kk
theorem xinc4_3_5N {l0 l1 l2 : Option Value} {x : Nat} (hd : decode b pc = .ok (.iinc 3 5, 3)) (hn : nl l2 = true) (kk : X E d own b 4 C (pc + 3) [l0, l1, l2, some (.int (nI (x + 5)))] st M) : X E d own b 4 C pc [l0, l1, l2, some (.int (nI x))] st M := xinc4_3_5 hd hn (by rw [show nI x + 5 = nI (x + 5) from nI_add x 5]; exact kk)
theorem xis4_2 {l0 l1 l2 l3 : Option Value} {v : Int32} (hd : decode b pc = .ok (.istore_n 2, 1)) (hn : nl l1 = true) (kk : X E d own b 4 C (pc + 1) [l0, l1, some (.int v), l3] st M) : X E d own b 4 C pc [l0, l1, l2, l3] (.int v :: st) M := x_istore_n hd rfl hn (by decide) kk
theorem xis4_3 {l0 l1 l2 l3 : Option Value} {v : Int32} (hd : decode b pc = .ok (.istore_n 3, 1)) (hn : nl l2 = true) (kk : X E d own b 4 C (pc + 1) [l0, l1, l2, some (.int v)] st M) : X E d own b 4 C pc [l0, l1, l2, l3] (.int v :: st) M := x_istore_n hd rfl hn (by decide) kk
theorem xinc5_2 {l0 l1 l3 l4 : Option Value} {x : Int32} (hd : decode b pc = .ok (.iinc 2 1, 3)) (hn : nl l1 = true) (kk : X E d own b 5 C (pc + 3) [l0, l1, some (.int (x + 1)), l3, l4] st M) : X E d own b 5 C pc [l0, l1, some (.int x), l3, l4] st M := x_iinc hd rfl (by decide) hn (by decide) kk
theorem xinc5_2N {l0 l1 l3 l4 : Option Value} {x : Nat} (hd : decode b pc = .ok (.iinc 2 1, 3)) (hn : nl l1 = true) (kk : X E d own b 5 C (pc + 3) [l0, l1, some (.int (nI (x + 1))), l3, l4] st M) : X E d own b 5 C pc [l0, l1, some (.int (nI x)), l3, l4] st M := xinc5_2 hd hn (by rw [show nI x + 1 = nI (x + 1) from nI_add x 1]; exact kk)
theorem xinc5_3 {l0 l1 l2 l4 : Option Value} {x : Int32} (hd : decode b pc = .ok (.iinc 3 1, 3)) (hn : nl l2 = true) (kk : X E d own b 5 C (pc + 3) [l0, l1, l2, some (.int (x + 1)), l4] st M) : X E d own b 5 C pc [l0, l1, l2, some (.int x), l4] st M := x_iinc hd rfl (by decide) hn (by decide) kk
theorem xinc5_3N {l0 l1 l2 l4 : Option Value} {x : Nat} (hd : decode b pc = .ok (.iinc 3 1, 3)) (hn : nl l2 = true) (kk : X E d own b 5 C (pc + 3) [l0, l1, l2, some (.int (nI (x + 1))), l4] st M) : X E d own b 5 C pc [l0, l1, l2, some (.int (nI x)), l4] st M := xinc5_3 hd hn (by rw [show nI x + 1 = nI (x + 1) from nI_add x 1]; exact kk)
theorem xinc5_4 {l0 l1 l2 l3 : Option Value} {x : Int32} (hd : decode b pc = .ok (.iinc 4 1, 3)) (hn : nl l3 = true) (kk : X E d own b 5 C (pc + 3) [l0, l1, l2, l3, some (.int (x + 1))] st M) : X E d own b 5 C pc [l0, l1, l2, l3, some (.int x)] st M := x_iinc hd rfl (by decide) hn (by decide) kk
theorem xinc5_4N {l0 l1 l2 l3 : Option Value} {x : Nat} (hd : decode b pc = .ok (.iinc 4 1, 3)) (hn : nl l3 = true) (kk : X E d own b 5 C (pc + 3) [l0, l1, l2, l3, some (.int (nI (x + 1)))] st M) : X E d own b 5 C pc [l0, l1, l2, l3, some (.int (nI x))] st M := xinc5_4 hd hn (by rw [show nI x + 1 = nI (x + 1) from nI_add x 1]; exact kk)
theorem xis5_1 {l0 l1 l2 l3 l4 : Option Value} {v : Int32} (hd : decode b pc = .ok (.istore_n 1, 1)) (hn : nl l0 = true) (kk : X E d own b 5 C (pc + 1) [l0, some (.int v), l2, l3, l4] st M) : X E d own b 5 C pc [l0, l1, l2, l3, l4] (.int v :: st) M := x_istore_n hd rfl hn (by decide) kk
theorem xis5_2 {l0 l1 l2 l3 l4 : Option Value} {v : Int32} (hd : decode b pc = .ok (.istore_n 2, 1)) (hn : nl l1 = true) (kk : X E d own b 5 C (pc + 1) [l0, l1, some (.int v), l3, l4] st M) : X E d own b 5 C pc [l0, l1, l2, l3, l4] (.int v :: st) M := x_istore_n hd rfl hn (by decide) kk
theorem xis5_3 {l0 l1 l2 l3 l4 : Option Value} {v : Int32} (hd : decode b pc = .ok (.istore_n 3, 1)) (hn : nl l2 = true) (kk : X E d own b 5 C (pc + 1) [l0, l1, l2, some (.int v), l4] st M) : X E d own b 5 C pc [l0, l1, l2, l3, l4] (.int v :: st) M := x_istore_n hd rfl hn (by decide) kk
theorem xis5_4 {l0 l1 l2 l3 l4 : Option Value} {v : Int32} (hd : decode b pc = .ok (.istore 4, 2)) (hn : nl l3 = true) (kk : X E d own b 5 C (pc + 2) [l0, l1, l2, l3, some (.int v)] st M) : X E d own b 5 C pc [l0, l1, l2, l3, l4] (.int v :: st) M := x_istore hd hn (by decide) kk
theorem xls5_3 {l0 l1 l2 l3 l4 : Option Value} {v : Int64} (hd : decode b pc = .ok (.lstore_n 3, 1)) (hn : nl l2 = true) (kk : X E d own b 5 C (pc + 1) [l0, l1, l2, some (.long v), none] st M) : X E d own b 5 C pc [l0, l1, l2, l3, l4] (.long v :: st) M := x_lstore_n hd rfl hn (by decide) kk
theorem xinc6_3 {l0 l1 l2 l4 l5 : Option Value} {x : Int32} (hd : decode b pc = .ok (.iinc 3 1, 3)) (hn : nl l2 = true) (kk : X E d own b 6 C (pc + 3) [l0, l1, l2, some (.int (x + 1)), l4, l5] st M) : X E d own b 6 C pc [l0, l1, l2, some (.int x), l4, l5] st M := x_iinc hd rfl (by decide) hn (by decide) kk
theorem xinc6_3N {l0 l1 l2 l4 l5 : Option Value} {x : Nat} (hd : decode b pc = .ok (.iinc 3 1, 3)) (hn : nl l2 = true) (kk : X E d own b 6 C (pc + 3) [l0, l1, l2, some (.int (nI (x + 1))), l4, l5] st M) : X E d own b 6 C pc [l0, l1, l2, some (.int (nI x)), l4, l5] st M := xinc6_3 hd hn (by rw [show nI x + 1 = nI (x + 1) from nI_add x 1]; exact kk)
theorem xinc6_4 {l0 l1 l2 l3 l5 : Option Value} {x : Int32} (hd : decode b pc = .ok (.iinc 4 1, 3)) (hn : nl l3 = true) (kk : X E d own b 6 C (pc + 3) [l0, l1, l2, l3, some (.int (x + 1)), l5] st M) : X E d own b 6 C pc [l0, l1, l2, l3, some (.int x), l5] st M := x_iinc hd rfl (by decide) hn (by decide) kk
theorem xinc6_4N {l0 l1 l2 l3 l5 : Option Value} {x : Nat} (hd : decode b pc = .ok (.iinc 4 1, 3)) (hn : nl l3 = true) (kk : X E d own b 6 C (pc + 3) [l0, l1, l2, l3, some (.int (nI (x + 1))), l5] st M) : X E d own b 6 C pc [l0, l1, l2, l3, some (.int (nI x)), l5] st M := xinc6_4 hd hn (by rw [show nI x + 1 = nI (x + 1) from nI_add x 1]; exact kk)
theorem xinc6_5_m1 {l0 l1 l2 l3 l4 : Option Value} {x : Int32} (hd : decode b pc = .ok (.iinc 5 (-1), 3)) (hn : nl l4 = true) (kk : X E d own b 6 C (pc + 3) [l0, l1, l2, l3, l4, some (.int (x + (-1)))] st M) : X E d own b 6 C pc [l0, l1, l2, l3, l4, some (.int x)] st M := x_iinc hd rfl (by decide) hn (by decide) kk
theorem xinc6_5_m1N {l0 l1 l2 l3 l4 : Option Value} {x : Nat} (hd : decode b pc = .ok (.iinc 5 (-1), 3)) (hn : nl l4 = true) (kk : X E d own b 6 C (pc + 3) [l0, l1, l2, l3, l4, some (.int (nI x))] st M) : X E d own b 6 C pc [l0, l1, l2, l3, l4, some (.int (nI (x + 1)))] st M := xinc6_5_m1 hd hn (by rw [show nI (x + 1) + (-1) = nI x from by rw [pk_m1]]; exact kk)
theorem xinc6_5 {l0 l1 l2 l3 l4 : Option Value} {x : Int32} (hd : decode b pc = .ok (.iinc 5 1, 3)) (hn : nl l4 = true) (kk : X E d own b 6 C (pc + 3) [l0, l1, l2, l3, l4, some (.int (x + 1))] st M) : X E d own b 6 C pc [l0, l1, l2, l3, l4, some (.int x)] st M := x_iinc hd rfl (by decide) hn (by decide) kk
theorem xinc6_5N {l0 l1 l2 l3 l4 : Option Value} {x : Nat} (hd : decode b pc = .ok (.iinc 5 1, 3)) (hn : nl l4 = true) (kk : X E d own b 6 C (pc + 3) [l0, l1, l2, l3, l4, some (.int (nI (x + 1)))] st M) : X E d own b 6 C pc [l0, l1, l2, l3, l4, some (.int (nI x))] st M := xinc6_5 hd hn (by rw [show nI x + 1 = nI (x + 1) from nI_add x 1]; exact kk)
theorem xis6_2 {l0 l1 l2 l3 l4 l5 : Option Value} {v : Int32} (hd : decode b pc = .ok (.istore_n 2, 1)) (hn : nl l1 = true) (kk : X E d own b 6 C (pc + 1) [l0, l1, some (.int v), l3, l4, l5] st M) : X E d own b 6 C pc [l0, l1, l2, l3, l4, l5] (.int v :: st) M := x_istore_n hd rfl hn (by decide) kk
theorem xis6_3 {l0 l1 l2 l3 l4 l5 : Option Value} {v : Int32} (hd : decode b pc = .ok (.istore_n 3, 1)) (hn : nl l2 = true) (kk : X E d own b 6 C (pc + 1) [l0, l1, l2, some (.int v), l4, l5] st M) : X E d own b 6 C pc [l0, l1, l2, l3, l4, l5] (.int v :: st) M := x_istore_n hd rfl hn (by decide) kk
theorem xis6_4 {l0 l1 l2 l3 l4 l5 : Option Value} {v : Int32} (hd : decode b pc = .ok (.istore 4, 2)) (hn : nl l3 = true) (kk : X E d own b 6 C (pc + 2) [l0, l1, l2, l3, some (.int v), l5] st M) : X E d own b 6 C pc [l0, l1, l2, l3, l4, l5] (.int v :: st) M := x_istore hd hn (by decide) kk
theorem xis6_5 {l0 l1 l2 l3 l4 l5 : Option Value} {v : Int32} (hd : decode b pc = .ok (.istore 5, 2)) (hn : nl l4 = true) (kk : X E d own b 6 C (pc + 2) [l0, l1, l2, l3, l4, some (.int v)] st M) : X E d own b 6 C pc [l0, l1, l2, l3, l4, l5] (.int v :: st) M := x_istore hd hn (by decide) kk
theorem xinc7_3 {l0 l1 l2 l4 l5 l6 : Option Value} {x : Int32} (hd : decode b pc = .ok (.iinc 3 1, 3)) (hn : nl l2 = true) (kk : X E d own b 7 C (pc + 3) [l0, l1, l2, some (.int (x + 1)), l4, l5, l6] st M) : X E d own b 7 C pc [l0, l1, l2, some (.int x), l4, l5, l6] st M := x_iinc hd rfl (by decide) hn (by decide) kk
theorem xinc7_3N {l0 l1 l2 l4 l5 l6 : Option Value} {x : Nat} (hd : decode b pc = .ok (.iinc 3 1, 3)) (hn : nl l2 = true) (kk : X E d own b 7 C (pc + 3) [l0, l1, l2, some (.int (nI (x + 1))), l4, l5, l6] st M) : X E d own b 7 C pc [l0, l1, l2, some (.int (nI x)), l4, l5, l6] st M := xinc7_3 hd hn (by rw [show nI x + 1 = nI (x + 1) from nI_add x 1]; exact kk)
theorem xinc7_4 {l0 l1 l2 l3 l5 l6 : Option Value} {x : Int32} (hd : decode b pc = .ok (.iinc 4 1, 3)) (hn : nl l3 = true) (kk : X E d own b 7 C (pc + 3) [l0, l1, l2, l3, some (.int (x + 1)), l5, l6] st M) : X E d own b 7 C pc [l0, l1, l2, l3, some (.int x), l5, l6] st M := x_iinc hd rfl (by decide) hn (by decide) kk
theorem xinc7_4N {l0 l1 l2 l3 l5 l6 : Option Value} {x : Nat} (hd : decode b pc = .ok (.iinc 4 1, 3)) (hn : nl l3 = true) (kk : X E d own b 7 C (pc + 3) [l0, l1, l2, l3, some (.int (nI (x + 1))), l5, l6] st M) : X E d own b 7 C pc [l0, l1, l2, l3, some (.int (nI x)), l5, l6] st M := xinc7_4 hd hn (by rw [show nI x + 1 = nI (x + 1) from nI_add x 1]; exact kk)
theorem xinc7_5 {l0 l1 l2 l3 l4 l6 : Option Value} {x : Int32} (hd : decode b pc = .ok (.iinc 5 1, 3)) (hn : nl l4 = true) (kk : X E d own b 7 C (pc + 3) [l0, l1, l2, l3, l4, some (.int (x + 1)), l6] st M) : X E d own b 7 C pc [l0, l1, l2, l3, l4, some (.int x), l6] st M := x_iinc hd rfl (by decide) hn (by decide) kk
theorem xinc7_5N {l0 l1 l2 l3 l4 l6 : Option Value} {x : Nat} (hd : decode b pc = .ok (.iinc 5 1, 3)) (hn : nl l4 = true) (kk : X E d own b 7 C (pc + 3) [l0, l1, l2, l3, l4, some (.int (nI (x + 1))), l6] st M) : X E d own b 7 C pc [l0, l1, l2, l3, l4, some (.int (nI x)), l6] st M := xinc7_5 hd hn (by rw [show nI x + 1 = nI (x + 1) from nI_add x 1]; exact kk)
theorem xis7_3 {l0 l1 l2 l3 l4 l5 l6 : Option Value} {v : Int32} (hd : decode b pc = .ok (.istore_n 3, 1)) (hn : nl l2 = true) (kk : X E d own b 7 C (pc + 1) [l0, l1, l2, some (.int v), l4, l5, l6] st M) : X E d own b 7 C pc [l0, l1, l2, l3, l4, l5, l6] (.int v :: st) M := x_istore_n hd rfl hn (by decide) kk
theorem xis7_4 {l0 l1 l2 l3 l4 l5 l6 : Option Value} {v : Int32} (hd : decode b pc = .ok (.istore 4, 2)) (hn : nl l3 = true) (kk : X E d own b 7 C (pc + 2) [l0, l1, l2, l3, some (.int v), l5, l6] st M) : X E d own b 7 C pc [l0, l1, l2, l3, l4, l5, l6] (.int v :: st) M := x_istore hd hn (by decide) kk
theorem xis7_5 {l0 l1 l2 l3 l4 l5 l6 : Option Value} {v : Int32} (hd : decode b pc = .ok (.istore 5, 2)) (hn : nl l4 = true) (kk : X E d own b 7 C (pc + 2) [l0, l1, l2, l3, l4, some (.int v), l6] st M) : X E d own b 7 C pc [l0, l1, l2, l3, l4, l5, l6] (.int v :: st) M := x_istore hd hn (by decide) kk
theorem xis7_6 {l0 l1 l2 l3 l4 l5 l6 : Option Value} {v : Int32} (hd : decode b pc = .ok (.istore 6, 2)) (hn : nl l5 = true) (kk : X E d own b 7 C (pc + 2) [l0, l1, l2, l3, l4, l5, some (.int v)] st M) : X E d own b 7 C pc [l0, l1, l2, l3, l4, l5, l6] (.int v :: st) M := x_istore hd hn (by decide) kk
theorem xinc8_5 {l0 l1 l2 l3 l4 l6 l7 : Option Value} {x : Int32} (hd : decode b pc = .ok (.iinc 5 1, 3)) (hn : nl l4 = true) (kk : X E d own b 8 C (pc + 3) [l0, l1, l2, l3, l4, some (.int (x + 1)), l6, l7] st M) : X E d own b 8 C pc [l0, l1, l2, l3, l4, some (.int x), l6, l7] st M := x_iinc hd rfl (by decide) hn (by decide) kk
theorem xinc8_5N {l0 l1 l2 l3 l4 l6 l7 : Option Value} {x : Nat} (hd : decode b pc = .ok (.iinc 5 1, 3)) (hn : nl l4 = true) (kk : X E d own b 8 C (pc + 3) [l0, l1, l2, l3, l4, some (.int (nI (x + 1))), l6, l7] st M) : X E d own b 8 C pc [l0, l1, l2, l3, l4, some (.int (nI x)), l6, l7] st M := xinc8_5 hd hn (by rw [show nI x + 1 = nI (x + 1) from nI_add x 1]; exact kk)
theorem xinc8_6 {l0 l1 l2 l3 l4 l5 l7 : Option Value} {x : Int32} (hd : decode b pc = .ok (.iinc 6 1, 3)) (hn : nl l5 = true) (kk : X E d own b 8 C (pc + 3) [l0, l1, l2, l3, l4, l5, some (.int (x + 1)), l7] st M) : X E d own b 8 C pc [l0, l1, l2, l3, l4, l5, some (.int x), l7] st M := x_iinc hd rfl (by decide) hn (by decide) kk
theorem xinc8_6N {l0 l1 l2 l3 l4 l5 l7 : Option Value} {x : Nat} (hd : decode b pc = .ok (.iinc 6 1, 3)) (hn : nl l5 = true) (kk : X E d own b 8 C (pc + 3) [l0, l1, l2, l3, l4, l5, some (.int (nI (x + 1))), l7] st M) : X E d own b 8 C pc [l0, l1, l2, l3, l4, l5, some (.int (nI x)), l7] st M := xinc8_6 hd hn (by rw [show nI x + 1 = nI (x + 1) from nI_add x 1]; exact kk)
theorem xinc8_7 {l0 l1 l2 l3 l4 l5 l6 : Option Value} {x : Int32} (hd : decode b pc = .ok (.iinc 7 1, 3)) (hn : nl l6 = true) (kk : X E d own b 8 C (pc + 3) [l0, l1, l2, l3, l4, l5, l6, some (.int (x + 1))] st M) : X E d own b 8 C pc [l0, l1, l2, l3, l4, l5, l6, some (.int x)] st M := x_iinc hd rfl (by decide) hn (by decide) kk
theorem xinc8_7N {l0 l1 l2 l3 l4 l5 l6 : Option Value} {x : Nat} (hd : decode b pc = .ok (.iinc 7 1, 3)) (hn : nl l6 = true) (kk : X E d own b 8 C (pc + 3) [l0, l1, l2, l3, l4, l5, l6, some (.int (nI (x + 1)))] st M) : X E d own b 8 C pc [l0, l1, l2, l3, l4, l5, l6, some (.int (nI x))] st M := xinc8_7 hd hn (by rw [show nI x + 1 = nI (x + 1) from nI_add x 1]; exact kk)
theorem xis8_2 {l0 l1 l2 l3 l4 l5 l6 l7 : Option Value} {v : Int32} (hd : decode b pc = .ok (.istore_n 2, 1)) (hn : nl l1 = true) (kk : X E d own b 8 C (pc + 1) [l0, l1, some (.int v), l3, l4, l5, l6, l7] st M) : X E d own b 8 C pc [l0, l1, l2, l3, l4, l5, l6, l7] (.int v :: st) M := x_istore_n hd rfl hn (by decide) kk
theorem xis8_3 {l0 l1 l2 l3 l4 l5 l6 l7 : Option Value} {v : Int32} (hd : decode b pc = .ok (.istore_n 3, 1)) (hn : nl l2 = true) (kk : X E d own b 8 C (pc + 1) [l0, l1, l2, some (.int v), l4, l5, l6, l7] st M) : X E d own b 8 C pc [l0, l1, l2, l3, l4, l5, l6, l7] (.int v :: st) M := x_istore_n hd rfl hn (by decide) kk
theorem xis8_4 {l0 l1 l2 l3 l4 l5 l6 l7 : Option Value} {v : Int32} (hd : decode b pc = .ok (.istore 4, 2)) (hn : nl l3 = true) (kk : X E d own b 8 C (pc + 2) [l0, l1, l2, l3, some (.int v), l5, l6, l7] st M) : X E d own b 8 C pc [l0, l1, l2, l3, l4, l5, l6, l7] (.int v :: st) M := x_istore hd hn (by decide) kk
theorem xis8_5 {l0 l1 l2 l3 l4 l5 l6 l7 : Option Value} {v : Int32} (hd : decode b pc = .ok (.istore 5, 2)) (hn : nl l4 = true) (kk : X E d own b 8 C (pc + 2) [l0, l1, l2, l3, l4, some (.int v), l6, l7] st M) : X E d own b 8 C pc [l0, l1, l2, l3, l4, l5, l6, l7] (.int v :: st) M := x_istore hd hn (by decide) kk
theorem xis8_6 {l0 l1 l2 l3 l4 l5 l6 l7 : Option Value} {v : Int32} (hd : decode b pc = .ok (.istore 6, 2)) (hn : nl l5 = true) (kk : X E d own b 8 C (pc + 2) [l0, l1, l2, l3, l4, l5, some (.int v), l7] st M) : X E d own b 8 C pc [l0, l1, l2, l3, l4, l5, l6, l7] (.int v :: st) M := x_istore hd hn (by decide) kk
theorem xis8_7 {l0 l1 l2 l3 l4 l5 l6 l7 : Option Value} {v : Int32} (hd : decode b pc = .ok (.istore 7, 2)) (hn : nl l6 = true) (kk : X E d own b 8 C (pc + 2) [l0, l1, l2, l3, l4, l5, l6, some (.int v)] st M) : X E d own b 8 C pc [l0, l1, l2, l3, l4, l5, l6, l7] (.int v :: st) M := x_istore hd hn (by decide) kk
theorem xinc9_6 {l0 l1 l2 l3 l4 l5 l7 l8 : Option Value} {x : Int32} (hd : decode b pc = .ok (.iinc 6 1, 3)) (hn : nl l5 = true) (kk : X E d own b 9 C (pc + 3) [l0, l1, l2, l3, l4, l5, some (.int (x + 1)), l7, l8] st M) : X E d own b 9 C pc [l0, l1, l2, l3, l4, l5, some (.int x), l7, l8] st M := x_iinc hd rfl (by decide) hn (by decide) kk
theorem xinc9_6N {l0 l1 l2 l3 l4 l5 l7 l8 : Option Value} {x : Nat} (hd : decode b pc = .ok (.iinc 6 1, 3)) (hn : nl l5 = true) (kk : X E d own b 9 C (pc + 3) [l0, l1, l2, l3, l4, l5, some (.int (nI (x + 1))), l7, l8] st M) : X E d own b 9 C pc [l0, l1, l2, l3, l4, l5, some (.int (nI x)), l7, l8] st M := xinc9_6 hd hn (by rw [show nI x + 1 = nI (x + 1) from nI_add x 1]; exact kk)
theorem xinc9_7 {l0 l1 l2 l3 l4 l5 l6 l8 : Option Value} {x : Int32} (hd : decode b pc = .ok (.iinc 7 1, 3)) (hn : nl l6 = true) (kk : X E d own b 9 C (pc + 3) [l0, l1, l2, l3, l4, l5, l6, some (.int (x + 1)), l8] st M) : X E d own b 9 C pc [l0, l1, l2, l3, l4, l5, l6, some (.int x), l8] st M := x_iinc hd rfl (by decide) hn (by decide) kk
theorem xinc9_7N {l0 l1 l2 l3 l4 l5 l6 l8 : Option Value} {x : Nat} (hd : decode b pc = .ok (.iinc 7 1, 3)) (hn : nl l6 = true) (kk : X E d own b 9 C (pc + 3) [l0, l1, l2, l3, l4, l5, l6, some (.int (nI (x + 1))), l8] st M) : X E d own b 9 C pc [l0, l1, l2, l3, l4, l5, l6, some (.int (nI x)), l8] st M := xinc9_7 hd hn (by rw [show nI x + 1 = nI (x + 1) from nI_add x 1]; exact kk)
theorem xis9_5 {l0 l1 l2 l3 l4 l5 l6 l7 l8 : Option Value} {v : Int32} (hd : decode b pc = .ok (.istore 5, 2)) (hn : nl l4 = true) (kk : X E d own b 9 C (pc + 2) [l0, l1, l2, l3, l4, some (.int v), l6, l7, l8] st M) : X E d own b 9 C pc [l0, l1, l2, l3, l4, l5, l6, l7, l8] (.int v :: st) M := x_istore hd hn (by decide) kk
theorem xis9_6 {l0 l1 l2 l3 l4 l5 l6 l7 l8 : Option Value} {v : Int32} (hd : decode b pc = .ok (.istore 6, 2)) (hn : nl l5 = true) (kk : X E d own b 9 C (pc + 2) [l0, l1, l2, l3, l4, l5, some (.int v), l7, l8] st M) : X E d own b 9 C pc [l0, l1, l2, l3, l4, l5, l6, l7, l8] (.int v :: st) M := x_istore hd hn (by decide) kk
theorem xis9_7 {l0 l1 l2 l3 l4 l5 l6 l7 l8 : Option Value} {v : Int32} (hd : decode b pc = .ok (.istore 7, 2)) (hn : nl l6 = true) (kk : X E d own b 9 C (pc + 2) [l0, l1, l2, l3, l4, l5, l6, some (.int v), l8] st M) : X E d own b 9 C pc [l0, l1, l2, l3, l4, l5, l6, l7, l8] (.int v :: st) M := x_istore hd hn (by decide) kk
theorem xis9_8 {l0 l1 l2 l3 l4 l5 l6 l7 l8 : Option Value} {v : Int32} (hd : decode b pc = .ok (.istore 8, 2)) (hn : nl l7 = true) (kk : X E d own b 9 C (pc + 2) [l0, l1, l2, l3, l4, l5, l6, l7, some (.int v)] st M) : X E d own b 9 C pc [l0, l1, l2, l3, l4, l5, l6, l7, l8] (.int v :: st) M := x_istore hd hn (by decide) kk
theorem xinc11_7 {l0 l1 l2 l3 l4 l5 l6 l8 l9 l10 : Option Value} {x : Int32} (hd : decode b pc = .ok (.iinc 7 1, 3)) (hn : nl l6 = true) (kk : X E d own b 11 C (pc + 3) [l0, l1, l2, l3, l4, l5, l6, some (.int (x + 1)), l8, l9, l10] st M) : X E d own b 11 C pc [l0, l1, l2, l3, l4, l5, l6, some (.int x), l8, l9, l10] st M := x_iinc hd rfl (by decide) hn (by decide) kk
theorem xinc11_7N {l0 l1 l2 l3 l4 l5 l6 l8 l9 l10 : Option Value} {x : Nat} (hd : decode b pc = .ok (.iinc 7 1, 3)) (hn : nl l6 = true) (kk : X E d own b 11 C (pc + 3) [l0, l1, l2, l3, l4, l5, l6, some (.int (nI (x + 1))), l8, l9, l10] st M) : X E d own b 11 C pc [l0, l1, l2, l3, l4, l5, l6, some (.int (nI x)), l8, l9, l10] st M := xinc11_7 hd hn (by rw [show nI x + 1 = nI (x + 1) from nI_add x 1]; exact kk)
theorem xinc11_9 {l0 l1 l2 l3 l4 l5 l6 l7 l8 l10 : Option Value} {x : Int32} (hd : decode b pc = .ok (.iinc 9 1, 3)) (hn : nl l8 = true) (kk : X E d own b 11 C (pc + 3) [l0, l1, l2, l3, l4, l5, l6, l7, l8, some (.int (x + 1)), l10] st M) : X E d own b 11 C pc [l0, l1, l2, l3, l4, l5, l6, l7, l8, some (.int x), l10] st M := x_iinc hd rfl (by decide) hn (by decide) kk
theorem xinc11_9N {l0 l1 l2 l3 l4 l5 l6 l7 l8 l10 : Option Value} {x : Nat} (hd : decode b pc = .ok (.iinc 9 1, 3)) (hn : nl l8 = true) (kk : X E d own b 11 C (pc + 3) [l0, l1, l2, l3, l4, l5, l6, l7, l8, some (.int (nI (x + 1))), l10] st M) : X E d own b 11 C pc [l0, l1, l2, l3, l4, l5, l6, l7, l8, some (.int (nI x)), l10] st M := xinc11_9 hd hn (by rw [show nI x + 1 = nI (x + 1) from nI_add x 1]; exact kk)
theorem xis11_5 {l0 l1 l2 l3 l4 l5 l6 l7 l8 l9 l10 : Option Value} {v : Int32} (hd : decode b pc = .ok (.istore 5, 2)) (hn : nl l4 = true) (kk : X E d own b 11 C (pc + 2) [l0, l1, l2, l3, l4, some (.int v), l6, l7, l8, l9, l10] st M) : X E d own b 11 C pc [l0, l1, l2, l3, l4, l5, l6, l7, l8, l9, l10] (.int v :: st) M := x_istore hd hn (by decide) kk
theorem xis11_6 {l0 l1 l2 l3 l4 l5 l6 l7 l8 l9 l10 : Option Value} {v : Int32} (hd : decode b pc = .ok (.istore 6, 2)) (hn : nl l5 = true) (kk : X E d own b 11 C (pc + 2) [l0, l1, l2, l3, l4, l5, some (.int v), l7, l8, l9, l10] st M) : X E d own b 11 C pc [l0, l1, l2, l3, l4, l5, l6, l7, l8, l9, l10] (.int v :: st) M := x_istore hd hn (by decide) kk
theorem xis11_7 {l0 l1 l2 l3 l4 l5 l6 l7 l8 l9 l10 : Option Value} {v : Int32} (hd : decode b pc = .ok (.istore 7, 2)) (hn : nl l6 = true) (kk : X E d own b 11 C (pc + 2) [l0, l1, l2, l3, l4, l5, l6, some (.int v), l8, l9, l10] st M) : X E d own b 11 C pc [l0, l1, l2, l3, l4, l5, l6, l7, l8, l9, l10] (.int v :: st) M := x_istore hd hn (by decide) kk
theorem xis11_8 {l0 l1 l2 l3 l4 l5 l6 l7 l8 l9 l10 : Option Value} {v : Int32} (hd : decode b pc = .ok (.istore 8, 2)) (hn : nl l7 = true) (kk : X E d own b 11 C (pc + 2) [l0, l1, l2, l3, l4, l5, l6, l7, some (.int v), l9, l10] st M) : X E d own b 11 C pc [l0, l1, l2, l3, l4, l5, l6, l7, l8, l9, l10] (.int v :: st) M := x_istore hd hn (by decide) kk
theorem xis11_9 {l0 l1 l2 l3 l4 l5 l6 l7 l8 l9 l10 : Option Value} {v : Int32} (hd : decode b pc = .ok (.istore 9, 2)) (hn : nl l8 = true) (kk : X E d own b 11 C (pc + 2) [l0, l1, l2, l3, l4, l5, l6, l7, l8, some (.int v), l10] st M) : X E d own b 11 C pc [l0, l1, l2, l3, l4, l5, l6, l7, l8, l9, l10] (.int v :: st) M := x_istore hd hn (by decide) kk
theorem xis11_10 {l0 l1 l2 l3 l4 l5 l6 l7 l8 l9 l10 : Option Value} {v : Int32} (hd : decode b pc = .ok (.istore 10, 2)) (hn : nl l9 = true) (kk : X E d own b 11 C (pc + 2) [l0, l1, l2, l3, l4, l5, l6, l7, l8, l9, some (.int v)] st M) : X E d own b 11 C pc [l0, l1, l2, l3, l4, l5, l6, l7, l8, l9, l10] (.int v :: st) M := x_istore hd hn (by decide) kk
end XP
end
section
-- ===== the static helpers of the reference and of the library =====
theorem sa_sa {M : PM} {c : Nat} {f g : Nat → Int32} : sa (sa M c f) c g = sa M c g := by
  unfold sa
  congr 1
  funext c'
  by_cases h : c' = c <;> simp [h]
theorem sa_self {M : PM} {c : Nat} : sa M c (M.1 c) = M := by
  obtain ⟨a, b⟩ := M
  unfold sa
  congr 1
  funext c'
  by_cases h : c' = c <;> simp [h]
theorem dec_t {p : Prop} [Decidable p] (h : p) : bI (decide p) = nI 1 := by rw [decide_eq_true h]; rfl
theorem dec_f {p : Prop} [Decidable p] (h : ¬ p) : bI (decide p) = nI 0 := by rw [decide_eq_false h]; rfl
set_option maxHeartbeats 4000000 in
/-- in(v, a, b) -/
theorem c_in (E : Ev) (d : Nat) (M : PM) (v a b : Int64) : Ci E d mX9_in [.long v, .long a, .long b] M (fun r N => r = bI (decide (a.toInt ≤ v.toInt ∧ v.toInt ≤ b.toInt)) ∧ M = N) := by
  refine Ct.ofz [some (.long v), none, some (.long a), none, some (.long b), none] (own := RX9) rfl (by decide) (Nat.le_of_ble_eq_true rfl) rfl (fun C hR => ?_)
  refine x_lload_n dX9_in_0 rfl rfl ?_
  refine x_lload_n dX9_in_1 rfl rfl ?_
  refine x_lcmp dX9_in_2 ?_
  refine x_if_lt (tgt := 17) dX9_in_3 (by decide) (fun hc => ?_) (fun hc => ?_)
  · rw [lg_cmp_lt, Int64.lt_iff_toInt_lt] at hc
    refine x_iconst (v := nI 0) dX9_in_17 (by decide) ?_
    exact hR _ _ _ _ dX9_in_18 (by first | exact bI_n _ | decide) (⟨(dec_f (by omega)).symm, rfl⟩)
  · rw [lg_cmp_lt, Int64.lt_iff_toInt_lt] at hc
    refine x_lload_n dX9_in_6 rfl rfl ?_
    refine x_lload dX9_in_7 rfl ?_
    refine x_lcmp dX9_in_9 ?_
    refine x_if_gt (tgt := 17) dX9_in_10 (by decide) (fun hc => ?_) (fun hc => ?_)
    · rw [lg_cmp_gt, Int64.lt_iff_toInt_lt] at hc
      refine x_iconst (v := nI 0) dX9_in_17 (by decide) ?_
      exact hR _ _ _ _ dX9_in_18 (by first | exact bI_n _ | decide) (⟨(dec_f (by omega)).symm, rfl⟩)
    · rw [lg_cmp_gt, Int64.lt_iff_toInt_lt] at hc
      refine x_iconst (v := nI 1) dX9_in_13 (by decide) ?_
      refine x_goto (tgt := 18) dX9_in_14 (by decide) ?_
      exact hR _ _ _ _ dX9_in_18 (by first | exact bI_n _ | decide) (⟨(dec_t (by omega)).symm, rfl⟩)
set_option maxHeartbeats 4000000 in
/-- isIn(set, k) -/
theorem c_isIn (E : Ev) (d : Nat) (M : PM) (s k : Nat) (hs : s < 2147483648) (hk : k < 31) : Ci E d mX9_isIn [.int (nI s), .int (nI k)] M (fun r N => r = bI (decide (s / 2 ^ k % 2 = 1)) ∧ M = N) := by
  refine Ct.ofz [some (.int (nI s)), some (.int (nI k))] (own := RX9) rfl (by decide) (Nat.le_of_ble_eq_true rfl) rfl (fun C hR => ?_)
  refine x_iload_n dX9_isIn_0 rfl rfl ?_
  refine x_iload_n dX9_isIn_1 rfl rfl ?_
  refine x_ishrN dX9_isIn_2 (by omega) (by omega) ?_
  refine x_iconst (v := nI 1) dX9_isIn_3 (by decide) ?_
  refine x_and1N dX9_isIn_4 ?_
  refine x_iconst (v := nI 1) dX9_isIn_5 (by decide) ?_
  refine x_icmp_neN (tgt := 13) dX9_isIn_6 (by decide) (by omega) (by omega) (fun hc => ?_) (fun hc => ?_)
  · refine x_iconst (v := nI 0) dX9_isIn_13 (by decide) ?_
    exact hR _ _ _ _ dX9_isIn_14 (by first | exact bI_n _ | decide) (⟨(dec_f (by omega)).symm, rfl⟩)
  · refine x_iconst (v := nI 1) dX9_isIn_9 (by decide) ?_
    refine x_goto (tgt := 14) dX9_isIn_10 (by decide) ?_
    exact hR _ _ _ _ dX9_isIn_14 (by first | exact bI_n _ | decide) (⟨(dec_t (by omega)).symm, rfl⟩)
/-- how many bits, of the lowest five -/
def pop (s : Nat) : Nat := fb_sm (fun k => s / 2 ^ k % 2) 5
set_option maxHeartbeats 4000000 in
theorem c_many (E : Ev) (d : Nat) (M : PM) (s : Nat) (hs : s < 2147483648) : Ci E d mX9_many [.int (nI s)] M (fun r N => r = nI (pop s) ∧ M = N) := by
  refine Ct.ofi [some (.int (nI s)), none, none] (own := RX9) rfl (by decide) (Nat.le_of_ble_eq_true rfl) rfl (fun C hR => ?_)
  refine x_iconst (v := nI 0) dX9_many_0 (by decide) ?_
  refine xis3_1 dX9_many_1 rfl ?_
  refine x_iconst (v := nI 0) dX9_many_2 (by decide) ?_
  refine xis3_2 dX9_many_3 rfl ?_
  have key : ∀ i, i ≤ 5 → X E d RX9 cX9_many 3 C 4 [some (.int (nI s)), some (.int (nI (fb_sm (fun k => s / 2 ^ k % 2) i))), some (.int (nI i))] [] M := by
    refine up_loop 5 ?_ ?_
    · refine x_iload_n dX9_many_4 rfl rfl ?_
      refine x_iconst (v := nI 5) dX9_many_5 (by decide) ?_
      refine x_icmp_geN (tgt := 23) dX9_many_6 (by decide) (by omega) (by omega) (fun hc => ?_) (fun hc => ?_)
      · refine x_iload_n dX9_many_23 rfl rfl ?_
        exact hR _ _ _ _ dX9_many_24 (⟨rfl, rfl⟩)
      · exact absurd hc (by omega)
    · intro i hi ih
      refine x_iload_n dX9_many_4 rfl rfl ?_
      refine x_iconst (v := nI 5) dX9_many_5 (by decide) ?_
      refine x_icmp_geN (tgt := 23) dX9_many_6 (by decide) (by omega) (by omega) (fun hc => ?_) (fun hc => ?_)
      · exact absurd hc (by omega)
      · refine x_iload_n dX9_many_9 rfl rfl ?_
        refine x_iload_n dX9_many_10 rfl rfl ?_
        refine x_iload_n dX9_many_11 rfl rfl ?_
        refine x_ishrN dX9_many_12 (by omega) (by omega) ?_
        refine x_iconst (v := nI 1) dX9_many_13 (by decide) ?_
        refine x_and1N dX9_many_14 ?_
        refine x_iaddN dX9_many_15 ?_
        refine xis3_1 dX9_many_16 rfl ?_
        refine xinc3_2N dX9_many_17 rfl ?_
        refine x_goto (tgt := 4) dX9_many_20 (by decide) ?_
        exact ih
  exact key 0 (by omega)
set_option maxHeartbeats 4000000 in
theorem c_power (E : Ev) (d : Nat) (M : PM) (a n : Nat) (hn : n < 1000) : Ci E d mX9_power [.int (nI a), .int (nI n)] M (fun r N => r = nI (a ^ n) ∧ M = N) := by
  refine Ct.ofi [some (.int (nI a)), some (.int (nI n)), none, none] (own := RX9) rfl (by decide) (Nat.le_of_ble_eq_true rfl) rfl (fun C hR => ?_)
  refine x_iconst (v := nI 1) dX9_power_0 (by decide) ?_
  refine xis4_2 dX9_power_1 rfl ?_
  refine x_iconst (v := nI 0) dX9_power_2 (by decide) ?_
  refine xis4_3 dX9_power_3 rfl ?_
  have key : ∀ i, i ≤ n → X E d RX9 cX9_power 4 C 4 [some (.int (nI a)), some (.int (nI n)), some (.int (nI (a ^ i))), some (.int (nI i))] [] M := by
    refine up_loop n ?_ ?_
    · refine x_iload_n dX9_power_4 rfl rfl ?_
      refine x_iload_n dX9_power_5 rfl rfl ?_
      refine x_icmp_geN (tgt := 19) dX9_power_6 (by decide) (by omega) (by omega) (fun hc => ?_) (fun hc => ?_)
      · refine x_iload_n dX9_power_19 rfl rfl ?_
        exact hR _ _ _ _ dX9_power_20 (⟨rfl, rfl⟩)
      · exact absurd hc (by omega)
    · intro i hi ih
      refine x_iload_n dX9_power_4 rfl rfl ?_
      refine x_iload_n dX9_power_5 rfl rfl ?_
      refine x_icmp_geN (tgt := 19) dX9_power_6 (by decide) (by omega) (by omega) (fun hc => ?_) (fun hc => ?_)
      · exact absurd hc (by omega)
      · refine x_iload_n dX9_power_9 rfl rfl ?_
        refine x_iload_n dX9_power_10 rfl rfl ?_
        refine x_imulN dX9_power_11 ?_
        refine xis4_2 dX9_power_12 rfl ?_
        refine xinc4_3N dX9_power_13 rfl ?_
        refine x_goto (tgt := 4) dX9_power_16 (by decide) ?_
        exact ih
  exact key 0 (by omega)
set_option maxHeartbeats 4000000 in
theorem c_copyRow (E : Ev) (d : Nat) (M : PM) (c0 c1 n n0 n1 : Nat) (h0 : lay c0 = .inl (0, n0)) (h1 : lay c1 = .inl (0, n1)) (hc0 : c0 < cK) (hc1 : c1 < cK) (hne : c0 ≠ c1) (hn0 : n ≤ n0) (hn1 : n ≤ n1) (hb0 : n0 < 1000) (hb1 : n1 < 1000) : Cv E d mX9_copyRow [.ref (ad E c0), .ref (ad E c1), .int (nI n)] M (fun N => N = sa M c1 (fa_fill (M.1 c0) (M.1 c1) n)) := by
  refine Ct.ofv [some (.ref (ad E c0)), some (.ref (ad E c1)), some (.int (nI n)), none] (own := RX9) rfl (by decide) (Nat.le_of_ble_eq_true rfl) rfl (fun C hR => ?_)
  refine x_iconst (v := nI 0) dX9_copyRow_0 (by decide) ?_
  refine xis4_3 dX9_copyRow_1 rfl ?_
  have key : ∀ i, i ≤ n → X E d RX9 cX9_copyRow 4 C 2 [some (.ref (ad E c0)), some (.ref (ad E c1)), some (.int (nI n)), some (.int (nI i))] [] (sa M c1 (fa_fill (M.1 c0) (M.1 c1) i)) := by
    refine up_loop n ?_ ?_
    · refine x_iload_n dX9_copyRow_2 rfl rfl ?_
      refine x_iload_n dX9_copyRow_3 rfl rfl ?_
      refine x_icmp_geN (tgt := 19) dX9_copyRow_4 (by decide) (by omega) (by omega) (fun hc => ?_) (fun hc => ?_)
      · exact hR _ _ _ dX9_copyRow_19 (rfl)
      · exact absurd hc (by omega)
    · intro i hi ih
      refine x_iload_n dX9_copyRow_2 rfl rfl ?_
      refine x_iload_n dX9_copyRow_3 rfl rfl ?_
      refine x_icmp_geN (tgt := 19) dX9_copyRow_4 (by decide) (by omega) (by omega) (fun hc => ?_) (fun hc => ?_)
      · exact absurd hc (by omega)
      · refine x_aload_n dX9_copyRow_7 rfl rfl ?_
        refine x_iload_n dX9_copyRow_8 rfl rfl ?_
        refine x_aload_n dX9_copyRow_9 rfl rfl ?_
        refine x_iload_n dX9_copyRow_10 rfl rfl ?_
        refine x_ialdN dX9_copyRow_11 h0 hc0 (by omega) (by omega) (by rw [sa_ne hne]) ?_
        refine x_iastN dX9_copyRow_12 h1 hc1 (by omega) (by omega) ?_
        refine xinc4_3N dX9_copyRow_13 rfl ?_
        refine x_goto (tgt := 2) dX9_copyRow_16 (by decide) ?_
        rw [sa_1, sa_sa, fa_fill_succ]
        exact ih
  have := key 0 (by omega)
  rw [fa_fill_0, sa_self] at this
  exact this
def fct : Nat → Nat
  | 0 => 1
  | n + 1 => fct n * (n + 1)
set_option maxHeartbeats 4000000 in
theorem c_ways (E : Ev) (d : Nat) (M : PM) (n : Nat) (hn : n < 1000) : Ci E d mX9_ways [.int (nI n)] M (fun r N => r = nI (fct n) ∧ M = N) := by
  refine Ct.ofi [some (.int (nI n)), none, none] (own := RX9) rfl (by decide) (Nat.le_of_ble_eq_true rfl) rfl (fun C hR => ?_)
  refine x_iconst (v := nI 1) dX9_ways_0 (by decide) ?_
  refine xis3_1 dX9_ways_1 rfl ?_
  refine x_iconst (v := nI 2) dX9_ways_2 (by decide) ?_
  refine xis3_2 dX9_ways_3 rfl ?_
  by_cases h0 : n = 0
  · subst h0
    refine x_iload_n dX9_ways_4 rfl rfl ?_
    refine x_iload_n dX9_ways_5 rfl rfl ?_
    refine x_icmp_gtN (tgt := 19) dX9_ways_6 (by decide) (by omega) (by omega) (fun hc => ?_) (fun hc => ?_)
    · refine x_iload_n dX9_ways_19 rfl rfl ?_
      exact hR _ _ _ _ dX9_ways_20 (⟨rfl, rfl⟩)
    · exact absurd hc (by omega)
  have key : ∀ i, i ≤ n - 1 → X E d RX9 cX9_ways 3 C 4 [some (.int (nI n)), some (.int (nI (fct (i + 1)))), some (.int (nI (i + 2)))] [] M := by
    refine up_loop (n - 1) ?_ ?_
    · refine x_iload_n dX9_ways_4 rfl rfl ?_
      refine x_iload_n dX9_ways_5 rfl rfl ?_
      refine x_icmp_gtN (tgt := 19) dX9_ways_6 (by decide) (by omega) (by omega) (fun hc => ?_) (fun hc => ?_)
      · refine x_iload_n dX9_ways_19 rfl rfl ?_
        exact hR _ _ _ _ dX9_ways_20 (⟨by rw [show n - 1 + 1 = n by omega], rfl⟩)
      · exact absurd hc (by omega)
    · intro i hi ih
      refine x_iload_n dX9_ways_4 rfl rfl ?_
      refine x_iload_n dX9_ways_5 rfl rfl ?_
      refine x_icmp_gtN (tgt := 19) dX9_ways_6 (by decide) (by omega) (by omega) (fun hc => ?_) (fun hc => ?_)
      · exact absurd hc (by omega)
      · refine x_iload_n dX9_ways_9 rfl rfl ?_
        refine x_iload_n dX9_ways_10 rfl rfl ?_
        refine x_imulN dX9_ways_11 ?_
        refine xis3_1 dX9_ways_12 rfl ?_
        refine xinc3_2N dX9_ways_13 rfl ?_
        refine x_goto (tgt := 4) dX9_ways_16 (by decide) ?_
        exact ih
  exact key 0 (by omega)
set_option maxHeartbeats 4000000 in
theorem c_divisor (E : Ev) (d : Nat) (M : PM) (a q : Nat) (ha : a < 2147483648) (hq : q < 2147483648) : Ci E d mX9_divisor [.int (nI a), .int (nI q)] M (fun r N => r = nI (Nat.gcd a q) ∧ M = N) := by
  refine Ct.ofi [some (.int (nI a)), some (.int (nI q)), none, none, none] (own := RX9) rfl (by decide) (Nat.le_of_ble_eq_true rfl) rfl (fun C hR => ?_)
  refine x_iload_n dX9_divisor_0 rfl rfl ?_
  refine x_if_geN (tgt := 9) dX9_divisor_1 (by decide) (by omega) ?_
  refine x_iload_n dX9_divisor_9 rfl rfl ?_
  refine xis5_2 dX9_divisor_10 rfl ?_
  refine x_iload_n dX9_divisor_11 rfl rfl ?_
  refine xis5_3 dX9_divisor_12 rfl ?_
  have key : ∀ n y, y ≤ n → y < 2147483648 → ∀ x, x < 2147483648 → Nat.gcd x y = Nat.gcd a q → ∀ l4, X E d RX9 cX9_divisor 5 C 13 [some (.int (nI a)), some (.int (nI q)), some (.int (nI x)), some (.int (nI y)), l4] [] M := by
    intro n
    induction n with
    | zero =>
      intro y hy _ x hx hg l4
      have : y = 0 := Nat.le_zero.mp hy
      subst this
      refine x_iload_n dX9_divisor_13 rfl rfl ?_
      refine x_if_eqN (tgt := 30) dX9_divisor_14 (by decide) (by omega) (fun hc => ?_) (fun hc => ?_)
      · refine x_iload_n dX9_divisor_30 rfl rfl ?_
        exact hR _ _ _ _ dX9_divisor_31 (⟨by rw [← hg, Nat.gcd_zero_right], rfl⟩)
      · exact absurd rfl hc
    | succ n ih =>
      intro y hy hyb x hx hg l4
      refine x_iload_n dX9_divisor_13 rfl rfl ?_
      refine x_if_eqN (tgt := 30) dX9_divisor_14 (by decide) (by omega) (fun hc => ?_) (fun hc => ?_)
      · subst hc
        refine x_iload_n dX9_divisor_30 rfl rfl ?_
        exact hR _ _ _ _ dX9_divisor_31 (⟨by rw [← hg, Nat.gcd_zero_right], rfl⟩)
      · refine x_iload_n dX9_divisor_17 rfl rfl ?_
        refine x_iload_n dX9_divisor_18 rfl rfl ?_
        refine x_iremN dX9_divisor_19 (by omega) (by omega) (by omega) ?_
        refine xis5_4 dX9_divisor_20 rfl ?_
        refine x_iload_n dX9_divisor_22 rfl rfl ?_
        refine xis5_2 dX9_divisor_23 rfl ?_
        refine x_iload dX9_divisor_24 rfl ?_
        refine xis5_3 dX9_divisor_26 rfl ?_
        refine x_goto (tgt := 13) dX9_divisor_27 (by decide) ?_
        have h1 : x % y < y := Nat.mod_lt _ (by omega)
        exact ih (x % y) (by omega) (by omega) y hyb (by rw [← hg, Nat.gcd_comm y, ← Nat.gcd_rec, Nat.gcd_comm]) _
  exact key q q (Nat.le_refl _) hq a ha rfl none
set_option maxHeartbeats 4000000 in
theorem c_fractionM (E : Ev) (d : Nat) (M : PM) (a q : Nat) (p : Int32) (ha : a < 2147483648) (hq : q < 2147483648) (hq0 : 0 < q) : Ci E (d + 1) mX9_fraction [.int (nI a), .int (nI q), .int p] M (fun r N => r = (if p = 0 then nI (q / Nat.gcd a q) else nI (a / Nat.gcd a q)) ∧ M = N) := by
  have hg : 0 < Nat.gcd a q := Nat.gcd_pos_of_pos_right _ hq0
  have hg2 : Nat.gcd a q ≤ q := Nat.le_of_dvd hq0 (Nat.gcd_dvd_right a q)
  refine Ct.ofi [some (.int (nI a)), some (.int (nI q)), some (.int p), none] (own := RX9) rfl (by decide) (Nat.le_of_ble_eq_true rfl) rfl (fun C hR => ?_)
  refine x_iload_n dX9_fraction_0 rfl rfl ?_
  refine x_iload_n dX9_fraction_1 rfl rfl ?_
  refine x_callSi dX9_fraction_2 msX9_divisor kX9_210 (c_divisor E d M a q ha hq) (by omega) rfl rfl (Nat.le_of_ble_eq_true rfl) ?_
  rintro _ _ ⟨rfl, rfl⟩
  refine xis4_3 dX9_fraction_5 rfl ?_
  refine x_iload_n dX9_fraction_6 rfl rfl ?_
  refine x_if_eq (tgt := 16) dX9_fraction_7 (by decide) (fun hc => ?_) (fun hc => ?_)
  · refine x_iload_n dX9_fraction_16 rfl rfl ?_
    refine x_iload_n dX9_fraction_17 rfl rfl ?_
    refine x_idivN dX9_fraction_18 (by omega) (by omega) (by omega) ?_
    exact hR _ _ _ _ dX9_fraction_19 (⟨by rw [if_pos hc], rfl⟩)
  · refine x_iload_n dX9_fraction_10 rfl rfl ?_
    refine x_iload_n dX9_fraction_11 rfl rfl ?_
    refine x_idivN dX9_fraction_12 (by omega) (by omega) (by omega) ?_
    refine x_goto (tgt := 19) dX9_fraction_13 (by decide) ?_
    exact hR _ _ _ _ dX9_fraction_19 (⟨by rw [if_neg hc], rfl⟩)
-- ===== the library's =====
set_option maxHeartbeats 4000000 in
theorem c_fill (E : Ev) (d : Nat) (M : PM) (c n : Nat) (v : Int32) (h0 : lay c = .inl (0, n)) (hc0 : c < cK) (hb : n < 1000) : Cv E d mJ7_fill_53178 [.ref (ad E c), .int v] M (fun N => N = sa M c (fa_fill (fun _ => v) (M.1 c) n)) := by
  refine Ct.ofv [some (.ref (ad E c)), some (.int v), none, none] (own := RJ7) rfl (by decide) (Nat.le_of_ble_eq_true rfl) rfl (fun C hR => ?_)
  refine x_iconst (v := nI 0) dJ7_fill_53178_0 (by decide) ?_
  refine xis4_2 dJ7_fill_53178_1 rfl ?_
  refine x_aload_n dJ7_fill_53178_2 rfl rfl ?_
  refine x_alen dJ7_fill_53178_3 (v := nI n) h0 hc0 rfl ?_
  refine xis4_3 dJ7_fill_53178_4 rfl ?_
  have key : ∀ i, i ≤ n → X E d RJ7 cJ7_fill_53178 4 C 5 [some (.ref (ad E c)), some (.int v), some (.int (nI i)), some (.int (nI n))] [] (sa M c (fa_fill (fun _ => v) (M.1 c) i)) := by
    refine up_loop n ?_ ?_
    · refine x_iload_n dJ7_fill_53178_5 rfl rfl ?_
      refine x_iload_n dJ7_fill_53178_6 rfl rfl ?_
      refine x_icmp_geN (tgt := 20) dJ7_fill_53178_7 (by decide) (by omega) (by omega) (fun hc => ?_) (fun hc => ?_)
      · exact hR _ _ _ dJ7_fill_53178_20 (rfl)
      · exact absurd hc (by omega)
    · intro i hi ih
      refine x_iload_n dJ7_fill_53178_5 rfl rfl ?_
      refine x_iload_n dJ7_fill_53178_6 rfl rfl ?_
      refine x_icmp_geN (tgt := 20) dJ7_fill_53178_7 (by decide) (by omega) (by omega) (fun hc => ?_) (fun hc => ?_)
      · exact absurd hc (by omega)
      · refine x_aload_n dJ7_fill_53178_10 rfl rfl ?_
        refine x_iload_n dJ7_fill_53178_11 rfl rfl ?_
        refine x_iload_n dJ7_fill_53178_12 rfl rfl ?_
        refine x_iastN dJ7_fill_53178_13 h0 hc0 (by omega) (by omega) ?_
        refine xinc4_2N dJ7_fill_53178_14 rfl ?_
        refine x_goto (tgt := 5) dJ7_fill_53178_17 (by decide) ?_
        rw [sa_1, sa_sa]
        have e := fa_fill_succ (fun _ => v) (M.1 c) i
        rw [e]
        exact ih
  have := key 0 (by omega)
  rw [fa_fill_0, sa_self] at this
  exact this
def nestN : List MethodName := nestW.filterMap (fun w => match w with
  | .methodLinkNest _ _ y _ => some y
  | _ => none)
theorem nn_of {y : MethodName} (h : y ∉ nestN) (own : String) (index : Nat) (host : String) : Cond.methodLinkNest own index y host ∉ nestW := by
  intro hm
  exact h (List.mem_filterMap.mpr ⟨_, hm, rfl⟩)
theorem nn_max : ∀ own index host, Cond.methodLinkNest own index yJ9_max_7cf53 host ∉ nestW := nn_of (by decide +kernel)
theorem nn_min : ∀ own index host, Cond.methodLinkNest own index yJ9_min_7cf53 host ∉ nestW := nn_of (by decide +kernel)
theorem nn_abs : ∀ own index host, Cond.methodLinkNest own index yJ9_abs_0f7a4 host ∉ nestW := nn_of (by decide +kernel)
section XMath
variable {E : Ev} {d : Nat} {own : String} {b : ByteArray} {nL : Nat} {C : Cx} {pc : Nat} {L : List (Option Value)} {st : List Value} {M : PM}
theorem x_mmax {index : Nat} {x y : Int32} (hd : decode b pc = .ok (.invokestatic index, 3)) (hlk : Cond.methodLink own index yJ9_max_7cf53 ∈ tblG ∨ ∃ host, Cond.methodLinkNest own index yJ9_max_7cf53 host ∈ nestW) (hd1 : 1 ≤ d) (hw : (st.map fun v => v.category).sum ≤ 8) (kk : X E d own b nL C (pc + 3) L (.int (if x < y then y else x) :: st) M) : X E d own b nL C pc L (.int y :: .int x :: st) M := by
  obtain ⟨p, e, R, s, m, args, below, meth, c, cs, Q⟩ := C
  intro ok H locs ls hP hS hl
  obtain ⟨o1, o2, o3, o4, o5, o6, o7, o8, o9, o10, o11⟩ := id ok
  have hlk' : Cond.methodLink own index yJ9_max_7cf53 ∈ tblG := by
    rcases hlk with h | ⟨host, h⟩
    · exact h
    · exact absurd h (nn_max own index host)
  exact va_mmax o1 o2 (o3.trans hl.1.symm) o4 (o5 _ hlk') (o5 _ (by decide +kernel)) (o5 _ (by decide +kernel)) (o5 _ (by decide +kernel)) (by omega) (by omega) o10 o11 hd (kk ok H locs ls hP hS hl)
theorem x_mmin {index : Nat} {x y : Int32} (hd : decode b pc = .ok (.invokestatic index, 3)) (hlk : Cond.methodLink own index yJ9_min_7cf53 ∈ tblG ∨ ∃ host, Cond.methodLinkNest own index yJ9_min_7cf53 host ∈ nestW) (hd1 : 1 ≤ d) (hw : (st.map fun v => v.category).sum ≤ 8) (kk : X E d own b nL C (pc + 3) L (.int (if y < x then y else x) :: st) M) : X E d own b nL C pc L (.int y :: .int x :: st) M := by
  obtain ⟨p, e, R, s, m, args, below, meth, c, cs, Q⟩ := C
  intro ok H locs ls hP hS hl
  obtain ⟨o1, o2, o3, o4, o5, o6, o7, o8, o9, o10, o11⟩ := id ok
  have hlk' : Cond.methodLink own index yJ9_min_7cf53 ∈ tblG := by
    rcases hlk with h | ⟨host, h⟩
    · exact h
    · exact absurd h (nn_min own index host)
  exact va_mmin o1 o2 (o3.trans hl.1.symm) o4 (o5 _ hlk') (o5 _ (by decide +kernel)) (o5 _ (by decide +kernel)) (o5 _ (by decide +kernel)) (by omega) (by omega) o10 o11 hd (kk ok H locs ls hP hS hl)
theorem x_mabs {index : Nat} {x : Int32} (hd : decode b pc = .ok (.invokestatic index, 3)) (hlk : Cond.methodLink own index yJ9_abs_0f7a4 ∈ tblG ∨ ∃ host, Cond.methodLinkNest own index yJ9_abs_0f7a4 host ∈ nestW) (hd1 : 1 ≤ d) (hw : (st.map fun v => v.category).sum ≤ 8) (kk : X E d own b nL C (pc + 3) L (.int (if 0 ≤ x then x else 0 - x) :: st) M) : X E d own b nL C pc L (.int x :: st) M := by
  obtain ⟨p, e, R, s, m, args, below, meth, c, cs, Q⟩ := C
  intro ok H locs ls hP hS hl
  obtain ⟨o1, o2, o3, o4, o5, o6, o7, o8, o9, o10, o11⟩ := id ok
  have hlk' : Cond.methodLink own index yJ9_abs_0f7a4 ∈ tblG := by
    rcases hlk with h | ⟨host, h⟩
    · exact h
    · exact absurd h (nn_abs own index host)
  exact va_mabs o1 o2 (o3.trans hl.1.symm) o4 (o5 _ hlk') (o5 _ (by decide +kernel)) (o5 _ (by decide +kernel)) (o5 _ (by decide +kernel)) (by omega) (by omega) o10 o11 hd (kk ok H locs ls hP hS hl)
end XMath
def bcI (x : Int32) : Int32 :=
  let a := x - ((x.toUInt32 >>> ((nI 1).toUInt32 &&& Int32.toUInt32 31)).toInt32 &&& 1431655765)
  let b := (a &&& 858993459) + ((a.toUInt32 >>> ((nI 2).toUInt32 &&& Int32.toUInt32 31)).toInt32 &&& 858993459)
  let c := (b + (b.toUInt32 >>> ((nI 4).toUInt32 &&& Int32.toUInt32 31)).toInt32) &&& 252645135
  let e := c + (c.toUInt32 >>> ((nI 8).toUInt32 &&& Int32.toUInt32 31)).toInt32
  let f := e + (e.toUInt32 >>> ((nI 16).toUInt32 &&& Int32.toUInt32 31)).toInt32
  f &&& nI 63
theorem bcI_pop : ∀ s, s < 32 → bcI (nI s) = nI (pop s) := by decide +kernel
set_option maxHeartbeats 4000000 in
theorem c_bitCount (E : Ev) (d : Nat) (M : PM) (s : Nat) (hs : s < 32) : Ci E d mJ6_bitCount_0f7a4 [.int (nI s)] M (fun r N => r = nI (pop s) ∧ M = N) := by
  refine Ct.ofi [some (.int (nI s))] (own := RJ6) rfl (by decide) (Nat.le_of_ble_eq_true rfl) rfl (fun C hR => ?_)
  refine x_iload_n dJ6_bitCount_0f7a4_0 rfl rfl ?_
  refine x_iload_n dJ6_bitCount_0f7a4_1 rfl rfl ?_
  refine x_iconst (v := nI 1) dJ6_bitCount_0f7a4_2 (by decide) ?_
  refine x_iushr dJ6_bitCount_0f7a4_3 ?_
  refine x_ldcw dJ6_bitCount_0f7a4_4 qJ6_265 ?_
  refine x_iand dJ6_bitCount_0f7a4_7 ?_
  refine x_isub dJ6_bitCount_0f7a4_8 ?_
  refine xis1_0 dJ6_bitCount_0f7a4_9 ?_
  refine x_iload_n dJ6_bitCount_0f7a4_10 rfl rfl ?_
  refine x_ldcw dJ6_bitCount_0f7a4_11 qJ6_266 ?_
  refine x_iand dJ6_bitCount_0f7a4_14 ?_
  refine x_iload_n dJ6_bitCount_0f7a4_15 rfl rfl ?_
  refine x_iconst (v := nI 2) dJ6_bitCount_0f7a4_16 (by decide) ?_
  refine x_iushr dJ6_bitCount_0f7a4_17 ?_
  refine x_ldcw dJ6_bitCount_0f7a4_18 qJ6_266 ?_
  refine x_iand dJ6_bitCount_0f7a4_21 ?_
  refine x_iadd dJ6_bitCount_0f7a4_22 ?_
  refine xis1_0 dJ6_bitCount_0f7a4_23 ?_
  refine x_iload_n dJ6_bitCount_0f7a4_24 rfl rfl ?_
  refine x_iload_n dJ6_bitCount_0f7a4_25 rfl rfl ?_
  refine x_iconst (v := nI 4) dJ6_bitCount_0f7a4_26 (by decide) ?_
  refine x_iushr dJ6_bitCount_0f7a4_27 ?_
  refine x_iadd dJ6_bitCount_0f7a4_28 ?_
  refine x_ldcw dJ6_bitCount_0f7a4_29 qJ6_267 ?_
  refine x_iand dJ6_bitCount_0f7a4_32 ?_
  refine xis1_0 dJ6_bitCount_0f7a4_33 ?_
  refine x_iload_n dJ6_bitCount_0f7a4_34 rfl rfl ?_
  refine x_iload_n dJ6_bitCount_0f7a4_35 rfl rfl ?_
  refine x_bipush (v := nI 8) dJ6_bitCount_0f7a4_36 (by decide) ?_
  refine x_iushr dJ6_bitCount_0f7a4_38 ?_
  refine x_iadd dJ6_bitCount_0f7a4_39 ?_
  refine xis1_0 dJ6_bitCount_0f7a4_40 ?_
  refine x_iload_n dJ6_bitCount_0f7a4_41 rfl rfl ?_
  refine x_iload_n dJ6_bitCount_0f7a4_42 rfl rfl ?_
  refine x_bipush (v := nI 16) dJ6_bitCount_0f7a4_43 (by decide) ?_
  refine x_iushr dJ6_bitCount_0f7a4_45 ?_
  refine x_iadd dJ6_bitCount_0f7a4_46 ?_
  refine xis1_0 dJ6_bitCount_0f7a4_47 ?_
  refine x_iload_n dJ6_bitCount_0f7a4_48 rfl rfl ?_
  refine x_bipush (v := nI 63) dJ6_bitCount_0f7a4_49 (by decide) ?_
  refine x_iand dJ6_bitCount_0f7a4_51 ?_
  exact hR _ _ _ _ dJ6_bitCount_0f7a4_52 (⟨bcI_pop s hs, rfl⟩)
end
section
-- ===== what both sides speak of: numbers of a family =====
/-- nothing but the cells of cs has changed -/
def Fr (M N : PM) (cs : List Nat) : Prop := N.2 = M.2 ∧ ∀ c, c ∉ cs → N.1 c = M.1 c
theorem Fr.rf {M : PM} {cs : List Nat} : Fr M M cs := ⟨rfl, fun _ _ => rfl⟩
theorem Fr.sa {M N : PM} {cs : List Nat} {c : Nat} {f : Nat → Int32} (h : Fr M N cs) (hc : c ∈ cs) : Fr M (sa N c f) cs :=
  ⟨h.1, fun c' h' => by rw [sa_ne (fun e => h' (by rw [e]; exact hc))]; exact h.2 c' h'⟩
theorem Fr.tr {M N K : PM} {cs ds : List Nat} (h : Fr M N cs) (h2 : Fr N K ds) (hs : ∀ c ∈ ds, c ∈ cs) : Fr M K cs :=
  ⟨h2.1.trans h.1, fun c hc => (h2.2 c (fun e => hc (hs c e))).trans (h.2 c hc)⟩
theorem Fr.wd {M N : PM} {cs ds : List Nat} (h : Fr M N cs) (hs : ∀ c ∈ cs, c ∈ ds) : Fr M N ds := ⟨h.1, fun c hc => h.2 c (fun e => hc (hs c e))⟩
theorem Fr.v {M N : PM} {cs : List Nat} {c k : Nat} {v : Int32} (h : Fr M N cs) (hc : c ∉ cs) (hv : M.1 c k = v) : N.1 c k = v := by rw [h.2 c hc]; exact hv
theorem sa_v {M : PM} {c c' k : Nat} {f : Nat → Int32} {v : Int32} (h : c' ≠ c) (hv : M.1 c' k = v) : (sa M c f).1 c' k = v := by rw [sa_ne h]; exact hv
/-- a page of the reference: rows, cells, the wire -/
def Pg (M : PM) (p n : Nat) (q w : Nat → Nat) : Prop := lay p = .inl (0, 31) ∧ p < cK ∧ n ≤ 5 ∧ (∀ r c, r < n → c < 5 → M.1 p (5 + 5 * r + c) = nI (q (5 * r + c)) ∧ q (5 * r + c) < 20) ∧ ∀ r, r < n → M.1 p r = nI (w r) ∧ w r ≤ 5
theorem Pg.to {M N : PM} {p n : Nat} {q w : Nat → Nat} (h : Pg M p n q w) (e : N.1 p = M.1 p) : Pg N p n q w := by
  unfold Pg at *
  rw [e]
  exact h
theorem Pg.ne {M : PM} {p n : Nat} {q w : Nat → Nat} (h : Pg M p n q w) {c : Nat} (hc : lay c ≠ .inl (0, 31)) : p ≠ c := fun e => hc (e ▸ h.1)
theorem Pg.fr {M N : PM} {p n : Nat} {q w : Nat → Nat} {cs : List Nat} (h : Pg M p n q w) (hf : Fr M N cs) (hc : ∀ c ∈ cs, lay c ≠ .inl (0, 31)) : Pg N p n q w :=
  h.to (hf.2 p (fun e => hc p e h.1))
/-- cells of kin k in the left half, in the right one -/
def lfg (q w : Nat → Nat) (k r c : Nat) : Nat := if q (5 * r + c) / 4 = k ∧ c < w r then 1 else 0
def rgg (q w : Nat → Nat) (k r c : Nat) : Nat := if q (5 * r + c) / 4 = k ∧ w r ≤ c then 1 else 0
def lf (q w : Nat → Nat) (n k : Nat) : Nat := fb_sm (fun r => fb_sm (lfg q w k r) 5) n
def rg (q w : Nat → Nat) (n k : Nat) : Nat := fb_sm (fun r => fb_sm (rgg q w k r) 5) n
theorem sm2_le {g : Nat → Nat → Nat} {n : Nat} (h : ∀ r c, g r c ≤ 1) (hn : n ≤ 5) : fb_sm (fun r => fb_sm (g r) 5) n ≤ 25 := by
  have h1 : fb_sm (fun r => fb_sm (g r) 5) n ≤ n * 5 := fb_sm_bound (fun k _ => by
    have h2 : fb_sm (g k) 5 ≤ 5 * 1 := fb_sm_bound (fun j _ => h k j)
    omega)
  omega
theorem lfg_le (q w : Nat → Nat) (k r c : Nat) : lfg q w k r c ≤ 1 := by unfold lfg; split <;> omega
theorem rgg_le (q w : Nat → Nat) (k r c : Nat) : rgg q w k r c ≤ 1 := by unfold rgg; split <;> omega
theorem lf_le {q w : Nat → Nat} {n k : Nat} (hn : n ≤ 5) : lf q w n k ≤ 25 := sm2_le (lfg_le q w k) hn
theorem rg_le {q w : Nat → Nat} {n k : Nat} (hn : n ≤ 5) : rg q w n k ≤ 25 := sm2_le (rgg_le q w k) hn
/-- who is parted -/
def par (q w : Nat → Nat) (n k : Nat) : Bool := decide (0 < lf q w n k ∧ 0 < rg q w n k)
def parB (q w : Nat → Nat) (n K : Nat) : Nat := fb_sm (fun k => if par q w n k = true then 2 ^ k else 0) K
/-- the halves for which a cell counts, as bits -/
def cf (kd : Nat → Nat) (pr : Nat → Bool) (v h : Nat) : Nat := if kd (v / 4) = 1 ∨ (kd (v / 4) = 2 ∧ v % 4 = 0) then 3 else if kd (v / 4) = 3 ∧ pr (v / 4) = true then 0 else h + 1
def hf (w : Nat → Nat) (r c : Nat) : Nat := if c < w r then 0 else 1
def cfc (kd : Nat → Nat) (q w : Nat → Nat) (n r c : Nat) : Nat := cf kd (par q w n) (q (5 * r + c)) (hf w r c)
theorem hf_le (w : Nat → Nat) (r c : Nat) : hf w r c ≤ 1 := by unfold hf; split <;> omega
theorem cf_le (kd : Nat → Nat) (pr : Nat → Bool) (v : Nat) {h : Nat} (hh : h ≤ 1) : cf kd pr v h ≤ 3 := by
  unfold cf; split
  · omega
  · split <;> omega
/-- how many cells of a part count for a half, of the kin in S -/
def cng (kd q w : Nat → Nat) (n h p S r c : Nat) : Nat := if q (5 * r + c) % 4 = p ∧ S / 2 ^ (q (5 * r + c) / 4) % 2 = 1 ∧ cfc kd q w n r c / 2 ^ h % 2 = 1 then 1 else 0
def cnt (kd q w : Nat → Nat) (n h p S : Nat) : Nat := fb_sm (fun r => fb_sm (cng kd q w n h p S r) 5) n
theorem cng_le (kd q w : Nat → Nat) (n h p S r c : Nat) : cng kd q w n h p S r c ≤ 1 := by unfold cng; split <;> omega
theorem cnt_le {kd q w : Nat → Nat} {n h p S : Nat} (hn : n ≤ 5) : cnt kd q w n h p S ≤ 25 := sm2_le (cng_le kd q w n h p S) hn
/-- deeds that a half can do, as bits -/
def canB (kd q w : Nat → Nat) (n D : Nat) (pt nd : Nat → Nat) (h S : Nat) : Nat := fb_sm (fun d => if nd d ≤ cnt kd q w n h (pt d) S then 2 ^ d else 0) D
theorem bits_lt (f : Nat → Bool) : ∀ n, fb_sm (fun k => if f k = true then 2 ^ k else 0) n < 2 ^ n
  | 0 => Nat.zero_lt_one
  | n + 1 => by
    have h := bits_lt f n
    rw [fb_sm_succ, Nat.pow_succ]
    split <;> omega
theorem bits_or {a k : Nat} (h : a < 2 ^ k) : a ||| 2 ^ k = a + 2 ^ k := by
  have e := Nat.two_pow_add_eq_or_of_lt h 1
  rw [Nat.mul_one] at e
  rw [Nat.or_comm, ← e, Nat.add_comm]
theorem parB_lt (q w : Nat → Nat) (n K : Nat) : parB q w n K < 2 ^ K := bits_lt (par q w n) K
theorem canB_eq (kd q w : Nat → Nat) (n D : Nat) (pt nd : Nat → Nat) (h S : Nat) : canB kd q w n D pt nd h S = fb_sm (fun d => if decide (nd d ≤ cnt kd q w n h (pt d) S) = true then 2 ^ d else 0) D := by
  unfold canB
  exact fb_sm_cong (fun k _ => by simp)
theorem canB_lt (kd q w : Nat → Nat) (n D : Nat) (pt nd : Nat → Nat) (h S : Nat) : canB kd q w n D pt nd h S < 2 ^ D := by
  rw [canB_eq]
  exact bits_lt _ D
theorem bit_sum (f : Nat → Bool) : ∀ n k, k < n → fb_sm (fun k => if f k = true then 2 ^ k else 0) n / 2 ^ k % 2 = if f k = true then 1 else 0
  | 0, k, h => absurd h (Nat.not_lt_zero k)
  | n + 1, k, h => by
    rw [fb_sm_succ]
    have hb := bits_lt f n
    by_cases e : k = n
    · subst e
      split
      · rw [Nat.add_div_right _ (Nat.two_pow_pos k), Nat.div_eq_of_lt hb]
      · rw [Nat.add_zero, Nat.div_eq_of_lt hb]
    · have hk : k < n := by omega
      have ih := bit_sum f n k hk
      rw [← ih]
      split
      · obtain ⟨j, rfl⟩ : ∃ j, n = k + 1 + j := ⟨n - (k + 1), by omega⟩
        rw [show (2 : Nat) ^ (k + 1 + j) = 2 ^ k * (2 * 2 ^ j) by rw [Nat.pow_add, Nat.pow_succ, Nat.mul_assoc], Nat.add_mul_div_left _ _ (Nat.two_pow_pos k)]
        omega
      · rw [Nat.add_zero]
/-- slips, figures -/
def slp (w : Nat → Nat) (n : Nat) : Nat := fb_sm (fun r => if w (r + 1) ≠ w r then 1 else 0) (n - 1)
def fig (w : Nat → Nat) : Nat → Nat
  | 0 => 1
  | n + 1 => 10 * fig w n + w n
theorem fig_lt {w : Nat → Nat} : ∀ {n : Nat}, (∀ r, r < n → w r ≤ 5) → fig w n < 2 * 10 ^ n
  | 0, _ => by show 1 < 2 * 1; decide
  | n + 1, h => by
    have ih := fig_lt (w := w) (n := n) (fun r hr => h r (by omega))
    have := h n (by omega)
    rw [fig, Nat.pow_succ]
    omega
theorem p10 {n : Nat} (h : n ≤ 5) : 10 ^ n ≤ 100000 := Nat.pow_le_pow_right (by decide) h
theorem p6 {n : Nat} (h : n ≤ 5) : 6 ^ n ≤ 7776 := Nat.pow_le_pow_right (by decide) h
theorem p2 {n : Nat} (h : n ≤ 5) : 2 ^ n ≤ 32 := Nat.pow_le_pow_right (by decide) h
theorem p2' {n : Nat} (h : n ≤ 4) : 2 ^ n ≤ 16 := Nat.pow_le_pow_right (by decide) h
end
section
-- ===== the reference: halves, counts, deeds =====
/-- the family of the reference -/
def Fm (M : PM) (n K D : Nat) (kd pt nd : Nat → Nat) : Prop := M.1 40 4 = nI n ∧ M.1 40 5 = nI K ∧ M.1 40 7 = nI D ∧ n ≤ 5 ∧ K ≤ 5 ∧ D ≤ 4 ∧ (∀ k, k < 5 → M.1 42 k = nI (kd k) ∧ kd k < 4) ∧ (∀ d, d < D → M.1 43 d = nI (pt d) ∧ pt d < 4) ∧ ∀ d, d < D → M.1 44 d = nI (nd d) ∧ nd d < 10
theorem Fm.fr {M N : PM} {n K D : Nat} {kd pt nd : Nat → Nat} {cs : List Nat} (h : Fm M n K D kd pt nd) (hf : Fr M N cs) (h1 : 40 ∉ cs) (h2 : 42 ∉ cs) (h3 : 43 ∉ cs) (h4 : 44 ∉ cs) : Fm N n K D kd pt nd := by
  unfold Fm at *
  rw [hf.2 40 h1, hf.2 42 h2, hf.2 43 h3, hf.2 44 h4]
  exact h
/-- what is laid -/
def Ld (M : PM) (n : Nat) (q w : Nat → Nat) : Prop := (∀ k, k < 5 → M.1 56 k = nI (lf q w n k)) ∧ ∀ k, k < 5 → M.1 57 k = nI (rg q w n k)
theorem Ld.fr {M N : PM} {n : Nat} {q w : Nat → Nat} {cs : List Nat} (h : Ld M n q w) (hf : Fr M N cs) (h1 : 56 ∉ cs) (h2 : 57 ∉ cs) : Ld N n q w := by
  unfold Ld at *
  rw [hf.2 56 h1, hf.2 57 h2]
  exact h
set_option maxHeartbeats 8000000 in
theorem c_layHalves (E : Ev) (d : Nat) (M : PM) (p n : Nat) (q w : Nat → Nat) (hn : M.1 40 4 = nI n) (hp : Pg M p n q w) : Cv E d mX9_layHalves [.ref (ad E 40), .ref (ad E p)] M (fun N => Fr M N [56, 57] ∧ Ld N n q w) := by
  refine Ct.ofv [some (.ref (ad E 40)), some (.ref (ad E p)), none, none, none] (own := RX9) rfl (by decide) (Nat.le_of_ble_eq_true rfl) rfl (fun C hR => ?_)
  have hp56 : p ∉ [56, 57] := by
    have h1 := hp.ne (c := 56) (by decide)
    have h2 := hp.ne (c := 57) (by decide)
    simp [h1, h2]
  have hn5 := hp.2.2.1
  refine x_iconst (v := nI 0) dX9_layHalves_0 (by decide) ?_
  refine xis5_2 dX9_layHalves_1 rfl ?_
  have key1 : ∀ i, i ≤ 5 → ∀ N, Fr M N [56, 57] → (∀ k, k < i → N.1 56 k = nI 0 ∧ N.1 57 k = nI 0) → X E d RX9 cX9_layHalves 5 C 2 [some (.ref (ad E 40)), some (.ref (ad E p)), some (.int (nI i)), none, none] [] N := by
    refine up_loop 5 ?_ ?_
    · intro N hN hz
      refine x_iload_n dX9_layHalves_2 rfl rfl ?_
      refine x_iconst (v := nI 5) dX9_layHalves_3 (by decide) ?_
      refine x_icmp_geN (tgt := 27) dX9_layHalves_4 (by decide) (by omega) (by omega) (fun hc => ?_) (fun hc => ?_)
      · refine x_iconst (v := nI 0) dX9_layHalves_27 (by decide) ?_
        refine xis5_2 dX9_layHalves_28 rfl ?_
        have key2 : ∀ r, r ≤ n → ∀ N l3 l4, Fr M N [56, 57] → (∀ k, k < 5 → N.1 56 k = nI (fb_sm (fun r => fb_sm (lfg q w k r) 5) r) ∧ N.1 57 k = nI (fb_sm (fun r => fb_sm (rgg q w k r) 5) r)) → X E d RX9 cX9_layHalves 5 C 29 [some (.ref (ad E 40)), some (.ref (ad E p)), some (.int (nI r)), l3, l4] [] N := by
          refine up_loop n ?_ ?_
          · intro N l3 l4 hN hk
            refine x_iload_n dX9_layHalves_29 rfl rfl ?_
            refine x_aload_n dX9_layHalves_30 rfl rfl ?_
            refine x_getv (hN.v (by decide) hn) dX9_layHalves_31 fX9_114 rfl rfl (by decide) ?_
            refine x_icmp_geN (tgt := 113) dX9_layHalves_34 (by decide) (by omega) (by omega) (fun hc => ?_) (fun hc => ?_)
            · exact hR _ _ _ dX9_layHalves_113 (⟨hN, fun k hk5 => (hk k hk5).1, fun k hk5 => (hk k hk5).2⟩)
            · exact absurd hc (by omega)
          · intro r hr ih N l3 l4 hN hk
            refine x_iload_n dX9_layHalves_29 rfl rfl ?_
            refine x_aload_n dX9_layHalves_30 rfl rfl ?_
            refine x_getv (hN.v (by decide) hn) dX9_layHalves_31 fX9_114 rfl rfl (by decide) ?_
            refine x_icmp_geN (tgt := 113) dX9_layHalves_34 (by decide) (by omega) (by omega) (fun hc => ?_) (fun hc => ?_)
            · exact absurd hc (by omega)
            refine x_iconst (v := nI 0) dX9_layHalves_37 (by decide) ?_
            refine xis5_3 dX9_layHalves_38 rfl ?_
            have key3 : ∀ c, c ≤ 5 → ∀ N l4, Fr M N [56, 57] → (∀ k, k < 5 → N.1 56 k = nI (fb_sm (fun r => fb_sm (lfg q w k r) 5) r + fb_sm (lfg q w k r) c) ∧ N.1 57 k = nI (fb_sm (fun r => fb_sm (rgg q w k r) 5) r + fb_sm (rgg q w k r) c)) → X E d RX9 cX9_layHalves 5 C 39 [some (.ref (ad E 40)), some (.ref (ad E p)), some (.int (nI r)), some (.int (nI c)), l4] [] N := by
              refine up_loop 5 ?_ ?_
              · intro N l4 hN hk
                refine x_iload_n dX9_layHalves_39 rfl rfl ?_
                refine x_iconst (v := nI 5) dX9_layHalves_40 (by decide) ?_
                refine x_icmp_geN (tgt := 107) dX9_layHalves_41 (by decide) (by omega) (by omega) (fun hc => ?_) (fun hc => ?_)
                · refine xinc5_2N dX9_layHalves_107 rfl ?_
                  refine x_goto (tgt := 29) dX9_layHalves_110 (by decide) ?_
                  exact ih N _ _ hN hk
                · exact absurd hc (by omega)
              · intro c hc5 ih3 N l4 hN hk
                have hcell := hp.2.2.2.1 r c hr hc5
                have hwr := hp.2.2.2.2 r hr
                have hNp : N.1 p = M.1 p := hN.2 p hp56
                have hk5 : q (5 * r + c) / 4 < 5 := by omega
                refine x_iload_n dX9_layHalves_39 rfl rfl ?_
                refine x_iconst (v := nI 5) dX9_layHalves_40 (by decide) ?_
                refine x_icmp_geN (tgt := 107) dX9_layHalves_41 (by decide) (by omega) (by omega) (fun hc => ?_) (fun hc => ?_)
                · exact absurd hc (by omega)
                refine x_aload_n dX9_layHalves_44 rfl rfl ?_
                refine x_iconst (v := nI 5) dX9_layHalves_45 (by decide) ?_
                refine x_iconst (v := nI 5) dX9_layHalves_46 (by decide) ?_
                refine x_iload_n dX9_layHalves_47 rfl rfl ?_
                refine x_imulN dX9_layHalves_48 ?_
                refine x_iaddN dX9_layHalves_49 ?_
                refine x_iload_n dX9_layHalves_50 rfl rfl ?_
                refine x_iaddN dX9_layHalves_51 ?_
                refine x_ialdN dX9_layHalves_52 hp.1 hp.2.1 (by omega) (by decide) (hN.v hp56 hcell.1) ?_
                refine x_iconst (v := nI 4) dX9_layHalves_53 (by decide) ?_
                refine x_idivN dX9_layHalves_54 (by omega) (by omega) (by omega) ?_
                refine xis5_4 dX9_layHalves_55 rfl ?_
                refine x_aload_n dX9_layHalves_57 rfl rfl ?_
                refine x_getr dX9_layHalves_58 fX9_56 rfl rfl (by decide) ?_
                refine x_iload dX9_layHalves_61 rfl ?_
                refine x_dup2 dX9_layHalves_63 rfl rfl ?_
                refine x_ialdN dX9_layHalves_64 rfl (by decide) (by omega) (by decide) ((hk _ hk5).1) ?_
                refine x_iload_n dX9_layHalves_65 rfl rfl ?_
                refine x_aload_n dX9_layHalves_66 rfl rfl ?_
                refine x_iload_n dX9_layHalves_67 rfl rfl ?_
                refine x_ialdN dX9_layHalves_68 hp.1 hp.2.1 (by omega) (by decide) (hN.v hp56 hwr.1) ?_
                refine x_icmp_geN (tgt := 76) dX9_layHalves_69 (by decide) (by omega) (by omega) (fun hc => ?_) (fun hc => ?_)
                · refine x_iconst (v := nI 0) dX9_layHalves_76 (by decide) ?_
                  refine x_iaddN dX9_layHalves_77 ?_
                  refine x_iastN dX9_layHalves_78 rfl (by decide) (by omega) (by decide) ?_
                  refine x_aload_n dX9_layHalves_79 rfl rfl ?_
                  refine x_getr dX9_layHalves_80 fX9_59 rfl rfl (by decide) ?_
                  refine x_iload dX9_layHalves_83 rfl ?_
                  refine x_dup2 dX9_layHalves_85 rfl rfl ?_
                  refine x_ialdN dX9_layHalves_86 rfl (by decide) (by omega) (by decide) (sa_v (by decide) (hk _ hk5).2) ?_
                  refine x_iload_n dX9_layHalves_87 rfl rfl ?_
                  refine x_aload_n dX9_layHalves_88 rfl rfl ?_
                  refine x_iload_n dX9_layHalves_89 rfl rfl ?_
                  refine x_ialdN dX9_layHalves_90 hp.1 hp.2.1 (by omega) (by decide) (sa_v (hp.ne (by decide)) (hN.v hp56 hwr.1)) ?_
                  refine x_icmp_geN (tgt := 98) dX9_layHalves_91 (by decide) (by omega) (by omega) (fun hc => ?_) (fun hc => ?_)
                  · refine x_iconst (v := nI 1) dX9_layHalves_98 (by decide) ?_
                    refine x_iaddN dX9_layHalves_99 ?_
                    refine x_iastN dX9_layHalves_100 rfl (by decide) (by omega) (by decide) ?_
                    refine xinc5_3N dX9_layHalves_101 rfl ?_
                    refine x_goto (tgt := 39) dX9_layHalves_104 (by decide) ?_
                    refine ih3 _ _ ((hN.sa (by decide)).sa (by decide)) (fun k hk0 => ?_)
                    have e1 : fb_sm (lfg q w k r) (c + 1) = fb_sm (lfg q w k r) c + 0 := by
                      rw [fb_sm_succ]; unfold lfg; rw [if_neg (by omega)]
                    have e2 : fb_sm (rgg q w k r) (c + 1) = fb_sm (rgg q w k r) c + if q (5 * r + c) / 4 = k then 1 else 0 := by
                      rw [fb_sm_succ]; unfold rgg; congr 1; simp only [show w r ≤ c from by omega, and_true]
                    rw [sa_1, sa_ne (by decide), sa_1, e1, e2]
                    by_cases hkk : k = q (5 * r + c) / 4
                    · subst hkk; rw [pk_us, pk_us, if_pos rfl]; constructor <;> congr 1 <;> omega
                    · rw [pk_un hkk, pk_un hkk, if_neg (Ne.symm hkk), sa_ne (by decide)]; exact hk k hk0
                  · exact absurd hc (by omega)
                · refine x_iconst (v := nI 1) dX9_layHalves_72 (by decide) ?_
                  refine x_goto (tgt := 77) dX9_layHalves_73 (by decide) ?_
                  refine x_iaddN dX9_layHalves_77 ?_
                  refine x_iastN dX9_layHalves_78 rfl (by decide) (by omega) (by decide) ?_
                  refine x_aload_n dX9_layHalves_79 rfl rfl ?_
                  refine x_getr dX9_layHalves_80 fX9_59 rfl rfl (by decide) ?_
                  refine x_iload dX9_layHalves_83 rfl ?_
                  refine x_dup2 dX9_layHalves_85 rfl rfl ?_
                  refine x_ialdN dX9_layHalves_86 rfl (by decide) (by omega) (by decide) (sa_v (by decide) (hk _ hk5).2) ?_
                  refine x_iload_n dX9_layHalves_87 rfl rfl ?_
                  refine x_aload_n dX9_layHalves_88 rfl rfl ?_
                  refine x_iload_n dX9_layHalves_89 rfl rfl ?_
                  refine x_ialdN dX9_layHalves_90 hp.1 hp.2.1 (by omega) (by decide) (sa_v (hp.ne (by decide)) (hN.v hp56 hwr.1)) ?_
                  refine x_icmp_geN (tgt := 98) dX9_layHalves_91 (by decide) (by omega) (by omega) (fun hc => ?_) (fun hc => ?_)
                  · exact absurd hc (by omega)
                  · refine x_iconst (v := nI 0) dX9_layHalves_94 (by decide) ?_
                    refine x_goto (tgt := 99) dX9_layHalves_95 (by decide) ?_
                    refine x_iaddN dX9_layHalves_99 ?_
                    refine x_iastN dX9_layHalves_100 rfl (by decide) (by omega) (by decide) ?_
                    refine xinc5_3N dX9_layHalves_101 rfl ?_
                    refine x_goto (tgt := 39) dX9_layHalves_104 (by decide) ?_
                    refine ih3 _ _ ((hN.sa (by decide)).sa (by decide)) (fun k hk0 => ?_)
                    have e1 : fb_sm (rgg q w k r) (c + 1) = fb_sm (rgg q w k r) c + 0 := by
                      rw [fb_sm_succ]; unfold rgg; rw [if_neg (by omega)]
                    have e2 : fb_sm (lfg q w k r) (c + 1) = fb_sm (lfg q w k r) c + if q (5 * r + c) / 4 = k then 1 else 0 := by
                      rw [fb_sm_succ]; unfold lfg; congr 1; simp only [show c < w r from by omega, and_true]
                    rw [sa_1, sa_ne (by decide), sa_1, e1, e2]
                    by_cases hkk : k = q (5 * r + c) / 4
                    · subst hkk; rw [pk_us, pk_us, if_pos rfl]; constructor <;> congr 1 <;> omega
                    · rw [pk_un hkk, pk_un hkk, if_neg (Ne.symm hkk), sa_ne (by decide)]; exact hk k hk0
            exact key3 0 (by omega) N _ hN hk
        exact key2 0 (by omega) N _ _ hN hz
      · exact absurd hc (by omega)
    · intro i hi ih N hN hz
      refine x_iload_n dX9_layHalves_2 rfl rfl ?_
      refine x_iconst (v := nI 5) dX9_layHalves_3 (by decide) ?_
      refine x_icmp_geN (tgt := 27) dX9_layHalves_4 (by decide) (by omega) (by omega) (fun hc => ?_) (fun hc => ?_)
      · exact absurd hc (by omega)
      refine x_aload_n dX9_layHalves_7 rfl rfl ?_
      refine x_getr dX9_layHalves_8 fX9_56 rfl rfl (by decide) ?_
      refine x_iload_n dX9_layHalves_11 rfl rfl ?_
      refine x_iconst (v := nI 0) dX9_layHalves_12 (by decide) ?_
      refine x_iastN dX9_layHalves_13 rfl (by decide) (by omega) (by decide) ?_
      refine x_aload_n dX9_layHalves_14 rfl rfl ?_
      refine x_getr dX9_layHalves_15 fX9_59 rfl rfl (by decide) ?_
      refine x_iload_n dX9_layHalves_18 rfl rfl ?_
      refine x_iconst (v := nI 0) dX9_layHalves_19 (by decide) ?_
      refine x_iastN dX9_layHalves_20 rfl (by decide) (by omega) (by decide) ?_
      refine xinc5_2N dX9_layHalves_21 rfl ?_
      refine x_goto (tgt := 2) dX9_layHalves_24 (by decide) ?_
      refine ih _ ((hN.sa (by decide)).sa (by decide)) (fun k hk => ?_)
      rw [sa_1, sa_ne (by decide), sa_1]
      by_cases hki : k = i
      · subst hki; rw [pk_us, pk_us]; exact ⟨rfl, rfl⟩
      · rw [pk_un hki, pk_un hki, sa_ne (by decide)]; exact hz k (by omega)
  exact key1 0 (by omega) M Fr.rf (fun k hk => absurd hk (by omega))
set_option maxHeartbeats 8000000 in
theorem c_partedLaid (E : Ev) (d : Nat) (M : PM) (n K : Nat) (q w : Nat → Nat) (hK : M.1 40 5 = nI K) (hK5 : K ≤ 5) (hn5 : n ≤ 5) (hl : Ld M n q w) : Ci E d mX9_partedLaid [.ref (ad E 40)] M (fun v N => v = nI (parB q w n K) ∧ M = N) := by
  refine Ct.ofi [some (.ref (ad E 40)), none, none] (own := RX9) rfl (by decide) (Nat.le_of_ble_eq_true rfl) rfl (fun C hR => ?_)
  refine x_iconst (v := nI 0) dX9_partedLaid_0 (by decide) ?_
  refine xis3_1 dX9_partedLaid_1 rfl ?_
  refine x_iconst (v := nI 0) dX9_partedLaid_2 (by decide) ?_
  refine xis3_2 dX9_partedLaid_3 rfl ?_
  have key : ∀ i, i ≤ K → X E d RX9 cX9_partedLaid 3 C 4 [some (.ref (ad E 40)), some (.int (nI (parB q w n i))), some (.int (nI i))] [] M := by
    refine up_loop K ?_ ?_
    · refine x_iload_n dX9_partedLaid_4 rfl rfl ?_
      refine x_aload_n dX9_partedLaid_5 rfl rfl ?_
      refine x_getv (hK) dX9_partedLaid_6 fX9_117 rfl rfl (by decide) ?_
      refine x_icmp_geN (tgt := 46) dX9_partedLaid_9 (by decide) (by omega) (by omega) (fun hc => ?_) (fun hc => ?_)
      · refine x_iload_n dX9_partedLaid_46 rfl rfl ?_
        exact hR _ _ _ _ dX9_partedLaid_47 (⟨rfl, rfl⟩)
      · exact absurd hc (by omega)
    · intro i hi ih
      have b1 := lf_le (q := q) (w := w) (k := i) hn5
      have b2 := rg_le (q := q) (w := w) (k := i) hn5
      have hlt := parB_lt q w n i
      have h2 := p2 (show i ≤ 5 by omega)
      have step : ∀ v, (par q w n i = true → v = 2 ^ i) → (par q w n i = false → v = 0) → parB q w n (i + 1) = parB q w n i ||| v := by
        intro v h1 h0
        unfold parB
        rw [fb_sm_succ]
        cases hp : par q w n i
        · rw [h0 hp, if_neg (by decide), Nat.add_zero, Nat.or_zero]
        · rw [h1 hp, if_pos rfl]
          exact (bits_or hlt).symm
      refine x_iload_n dX9_partedLaid_4 rfl rfl ?_
      refine x_aload_n dX9_partedLaid_5 rfl rfl ?_
      refine x_getv (hK) dX9_partedLaid_6 fX9_117 rfl rfl (by decide) ?_
      refine x_icmp_geN (tgt := 46) dX9_partedLaid_9 (by decide) (by omega) (by omega) (fun hc => ?_) (fun hc => ?_)
      · exact absurd hc (by omega)
      refine x_iload_n dX9_partedLaid_12 rfl rfl ?_
      refine x_aload_n dX9_partedLaid_13 rfl rfl ?_
      refine x_getr dX9_partedLaid_14 fX9_56 rfl rfl (by decide) ?_
      refine x_iload_n dX9_partedLaid_17 rfl rfl ?_
      refine x_ialdN dX9_partedLaid_18 rfl (by decide) (by omega) (by decide) (hl.1 i (by omega)) ?_
      refine x_if_leN (tgt := 37) dX9_partedLaid_19 (by decide) (by omega) (fun hc => ?_) (fun hc => ?_)
      · refine x_iconst (v := nI 0) dX9_partedLaid_37 (by decide) ?_
        refine x_iorN dX9_partedLaid_38 ?_
        refine xis3_1 dX9_partedLaid_39 rfl ?_
        refine xinc3_2N dX9_partedLaid_40 rfl ?_
        refine x_goto (tgt := 4) dX9_partedLaid_43 (by decide) ?_
        rw [step 0 (fun h => by unfold par at h; simp at h; omega) (fun _ => rfl)] at ih
        exact ih
      refine x_aload_n dX9_partedLaid_22 rfl rfl ?_
      refine x_getr dX9_partedLaid_23 fX9_59 rfl rfl (by decide) ?_
      refine x_iload_n dX9_partedLaid_26 rfl rfl ?_
      refine x_ialdN dX9_partedLaid_27 rfl (by decide) (by omega) (by decide) (hl.2 i (by omega)) ?_
      refine x_if_leN (tgt := 37) dX9_partedLaid_28 (by decide) (by omega) (fun hc => ?_) (fun hc => ?_)
      · refine x_iconst (v := nI 0) dX9_partedLaid_37 (by decide) ?_
        refine x_iorN dX9_partedLaid_38 ?_
        refine xis3_1 dX9_partedLaid_39 rfl ?_
        refine xinc3_2N dX9_partedLaid_40 rfl ?_
        refine x_goto (tgt := 4) dX9_partedLaid_43 (by decide) ?_
        rw [step 0 (fun h => by unfold par at h; simp at h; omega) (fun _ => rfl)] at ih
        exact ih
      · refine x_iconst (v := nI 1) dX9_partedLaid_31 (by decide) ?_
        refine x_iload_n dX9_partedLaid_32 rfl rfl ?_
        refine x_ishlN dX9_partedLaid_33 (by omega) (by omega) ?_
        refine x_goto (tgt := 38) dX9_partedLaid_34 (by decide) ?_
        refine x_iorN dX9_partedLaid_38 ?_
        refine xis3_1 dX9_partedLaid_39 rfl ?_
        refine xinc3_2N dX9_partedLaid_40 rfl ?_
        refine x_goto (tgt := 4) dX9_partedLaid_43 (by decide) ?_
        rw [step (2 ^ i) (fun _ => rfl) (fun h => by unfold par at h; simp at h; omega)] at ih
        rw [Nat.one_mul]
        exact ih
  exact key 0 (by omega)
set_option maxHeartbeats 8000000 in
theorem c_countsFor (E : Ev) (d : Nat) (M : PM) (p n r c K D : Nat) (q w kd pt nd : Nat → Nat) (hF : Fm M n K D kd pt nd) (hp : Pg M p n q w) (hl : Ld M n q w) (hr : r < n) (hc5 : c < 5) : Ci E d mX9_countsFor [.ref (ad E 40), .ref (ad E p), .int (nI r), .int (nI c)] M (fun v N => v = nI (cfc kd q w n r c) ∧ M = N) := by
  obtain ⟨f1, f2, f3, f4, f5, f6, f7, f8, f9⟩ := hF
  have hcell := hp.2.2.2.1 r c hr hc5
  have hwr := hp.2.2.2.2 r hr
  have hk5 : q (5 * r + c) / 4 < 5 := by omega
  have hkd := f7 _ hk5
  have b1 := lf_le (q := q) (w := w) (k := q (5 * r + c) / 4) f4
  have b2 := rg_le (q := q) (w := w) (k := q (5 * r + c) / 4) f4
  refine Ct.ofi [some (.ref (ad E 40)), some (.ref (ad E p)), some (.int (nI r)), some (.int (nI c)), none, none] (own := RX9) rfl (by decide) (Nat.le_of_ble_eq_true rfl) rfl (fun C hR => ?_)
  have e2 : ¬ (kd (q (5 * r + c) / 4) = 1 ∨ kd (q (5 * r + c) / 4) = 2 ∧ q (5 * r + c) % 4 = 0) → X E d RX9 cX9_countsFor 6 C 48 [some (.ref (ad E 40)), some (.ref (ad E p)), some (.int (nI r)), some (.int (nI c)), some (.int (nI (q (5 * r + c)))), some (.int (nI (q (5 * r + c) / 4)))] [] M := by
    intro hnot
    have e3 : ¬ (kd (q (5 * r + c) / 4) = 3 ∧ par q w n (q (5 * r + c) / 4) = true) → X E d RX9 cX9_countsFor 6 C 81 [some (.ref (ad E 40)), some (.ref (ad E p)), some (.int (nI r)), some (.int (nI c)), some (.int (nI (q (5 * r + c)))), some (.int (nI (q (5 * r + c) / 4)))] [] M := by
      intro hnot3
      refine x_iload_n dX9_countsFor_81 rfl rfl ?_
      refine x_aload_n dX9_countsFor_82 rfl rfl ?_
      refine x_iload_n dX9_countsFor_83 rfl rfl ?_
      refine x_ialdN dX9_countsFor_84 hp.1 hp.2.1 (by omega) (by decide) (hwr.1) ?_
      refine x_icmp_geN (tgt := 92) dX9_countsFor_85 (by decide) (by omega) (by omega) (fun hc => ?_) (fun hc => ?_)
      · refine x_iconst (v := nI 2) dX9_countsFor_92 (by decide) ?_
        exact hR _ _ _ _ dX9_countsFor_93 (⟨by unfold cfc cf hf; rw [if_neg hnot, if_neg hnot3, if_neg (by omega)], rfl⟩)
      · refine x_iconst (v := nI 1) dX9_countsFor_88 (by decide) ?_
        refine x_goto (tgt := 93) dX9_countsFor_89 (by decide) ?_
        exact hR _ _ _ _ dX9_countsFor_93 (⟨by unfold cfc cf hf; rw [if_neg hnot, if_neg hnot3, if_pos (by omega)], rfl⟩)
    refine x_aload_n dX9_countsFor_48 rfl rfl ?_
    refine x_getr dX9_countsFor_49 fX9_13 rfl rfl (by decide) ?_
    refine x_iload dX9_countsFor_52 rfl ?_
    refine x_ialdN dX9_countsFor_54 rfl (by decide) (by omega) (by decide) (hkd.1) ?_
    refine x_iconst (v := nI 3) dX9_countsFor_55 (by decide) ?_
    refine x_icmp_neN (tgt := 81) dX9_countsFor_56 (by decide) (by omega) (by omega) (fun hc => ?_) (fun hc => ?_)
    · exact e3 (fun h => hc h.1)
    refine x_aload_n dX9_countsFor_59 rfl rfl ?_
    refine x_getr dX9_countsFor_60 fX9_56 rfl rfl (by decide) ?_
    refine x_iload dX9_countsFor_63 rfl ?_
    refine x_ialdN dX9_countsFor_65 rfl (by decide) (by omega) (by decide) (hl.1 _ hk5) ?_
    refine x_if_leN (tgt := 81) dX9_countsFor_66 (by decide) (by omega) (fun hc => ?_) (fun hc => ?_)
    · exact e3 (fun h => by have := h.2; unfold par at this; simp at this; omega)
    refine x_aload_n dX9_countsFor_69 rfl rfl ?_
    refine x_getr dX9_countsFor_70 fX9_59 rfl rfl (by decide) ?_
    refine x_iload dX9_countsFor_73 rfl ?_
    refine x_ialdN dX9_countsFor_75 rfl (by decide) (by omega) (by decide) (hl.2 _ hk5) ?_
    refine x_if_leN (tgt := 81) dX9_countsFor_76 (by decide) (by omega) (fun hc => ?_) (fun hc => ?_)
    · exact e3 (fun h => by have := h.2; unfold par at this; simp at this; omega)
    · refine x_iconst (v := nI 0) dX9_countsFor_79 (by decide) ?_
      exact hR _ _ _ _ dX9_countsFor_80 (⟨by unfold cfc cf; rw [if_neg hnot, if_pos ⟨by assumption, by unfold par; simp; omega⟩], rfl⟩)
  refine x_aload_n dX9_countsFor_0 rfl rfl ?_
  refine x_iconst (v := nI 5) dX9_countsFor_1 (by decide) ?_
  refine x_iconst (v := nI 5) dX9_countsFor_2 (by decide) ?_
  refine x_iload_n dX9_countsFor_3 rfl rfl ?_
  refine x_imulN dX9_countsFor_4 ?_
  refine x_iaddN dX9_countsFor_5 ?_
  refine x_iload_n dX9_countsFor_6 rfl rfl ?_
  refine x_iaddN dX9_countsFor_7 ?_
  refine x_ialdN dX9_countsFor_8 hp.1 hp.2.1 (by omega) (by decide) (hcell.1) ?_
  refine xis6_4 dX9_countsFor_9 rfl ?_
  refine x_iload dX9_countsFor_11 rfl ?_
  refine x_iconst (v := nI 4) dX9_countsFor_13 (by decide) ?_
  refine x_idivN dX9_countsFor_14 (by omega) (by omega) (by omega) ?_
  refine xis6_5 dX9_countsFor_15 rfl ?_
  refine x_aload_n dX9_countsFor_17 rfl rfl ?_
  refine x_getr dX9_countsFor_18 fX9_13 rfl rfl (by decide) ?_
  refine x_iload dX9_countsFor_21 rfl ?_
  refine x_ialdN dX9_countsFor_23 rfl (by decide) (by omega) (by decide) (hkd.1) ?_
  refine x_iconst (v := nI 1) dX9_countsFor_24 (by decide) ?_
  refine x_icmp_eqN (tgt := 46) dX9_countsFor_25 (by decide) (by omega) (by omega) (fun hc => ?_) (fun hc => ?_)
  · refine x_iconst (v := nI 3) dX9_countsFor_46 (by decide) ?_
    exact hR _ _ _ _ dX9_countsFor_47 (⟨by unfold cfc cf; rw [if_pos (Or.inl hc)], rfl⟩)
  refine x_aload_n dX9_countsFor_28 rfl rfl ?_
  refine x_getr dX9_countsFor_29 fX9_13 rfl rfl (by decide) ?_
  refine x_iload dX9_countsFor_32 rfl ?_
  refine x_ialdN dX9_countsFor_34 rfl (by decide) (by omega) (by decide) (hkd.1) ?_
  refine x_iconst (v := nI 2) dX9_countsFor_35 (by decide) ?_
  refine x_icmp_neN (tgt := 48) dX9_countsFor_36 (by decide) (by omega) (by omega) (fun hc => ?_) (fun hc => ?_)
  · exact e2 (by omega)
  refine x_iload dX9_countsFor_39 rfl ?_
  refine x_iconst (v := nI 4) dX9_countsFor_41 (by decide) ?_
  refine x_iremN dX9_countsFor_42 (by omega) (by omega) (by omega) ?_
  refine x_if_neN (tgt := 48) dX9_countsFor_43 (by decide) (by omega) (fun hc => ?_) (fun hc => ?_)
  · exact e2 (by omega)
  · refine x_iconst (v := nI 3) dX9_countsFor_46 (by decide) ?_
    exact hR _ _ _ _ dX9_countsFor_47 (⟨by unfold cfc cf; rw [if_pos (by omega)], rfl⟩)
set_option maxHeartbeats 8000000 in
theorem c_countOf (E : Ev) (d : Nat) (M : PM) (p n K D h pa S : Nat) (q w kd pt nd : Nat → Nat) (hF : Fm M n K D kd pt nd) (hp : Pg M p n q w) (hl : Ld M n q w) (hh : h ≤ 1) (hpa : pa < 4) (hS : S < 32) : Ci E (d + 1) mX9_countOf [.ref (ad E 40), .ref (ad E p), .int (nI h), .int (nI pa), .int (nI S)] M (fun v N => v = nI (cnt kd q w n h pa S) ∧ M = N) := by
  have hn := hF.1
  have hn5 := hp.2.2.1
  refine Ct.ofi [some (.ref (ad E 40)), some (.ref (ad E p)), some (.int (nI h)), some (.int (nI pa)), some (.int (nI S)), none, none, none, none] (own := RX9) rfl (by decide) (Nat.le_of_ble_eq_true rfl) rfl (fun C hR => ?_)
  refine x_iconst (v := nI 0) dX9_countOf_0 (by decide) ?_
  refine xis9_5 dX9_countOf_1 rfl ?_
  refine x_iconst (v := nI 0) dX9_countOf_3 (by decide) ?_
  refine xis9_6 dX9_countOf_4 rfl ?_
  have key : ∀ r, r ≤ n → ∀ l7 l8, X E (d + 1) RX9 cX9_countOf 9 C 6 [some (.ref (ad E 40)), some (.ref (ad E p)), some (.int (nI h)), some (.int (nI pa)), some (.int (nI S)), some (.int (nI (fb_sm (fun r => fb_sm (cng kd q w n h pa S r) 5) r))), some (.int (nI r)), l7, l8] [] M := by
    refine up_loop n ?_ ?_
    · intro l7 l8
      refine x_iload dX9_countOf_6 rfl ?_
      refine x_aload_n dX9_countOf_8 rfl rfl ?_
      refine x_getv (hn) dX9_countOf_9 fX9_114 rfl rfl (by decide) ?_
      refine x_icmp_geN (tgt := 95) dX9_countOf_12 (by decide) (by omega) (by omega) (fun hc => ?_) (fun hc => ?_)
      · refine x_iload dX9_countOf_95 rfl ?_
        exact hR _ _ _ _ dX9_countOf_97 (⟨rfl, rfl⟩)
      · exact absurd hc (by omega)
    · intro r hr ih l7 l8
      refine x_iload dX9_countOf_6 rfl ?_
      refine x_aload_n dX9_countOf_8 rfl rfl ?_
      refine x_getv (hn) dX9_countOf_9 fX9_114 rfl rfl (by decide) ?_
      refine x_icmp_geN (tgt := 95) dX9_countOf_12 (by decide) (by omega) (by omega) (fun hc => ?_) (fun hc => ?_)
      · exact absurd hc (by omega)
      refine x_iconst (v := nI 0) dX9_countOf_15 (by decide) ?_
      refine xis9_7 dX9_countOf_16 rfl ?_
      have key2 : ∀ c, c ≤ 5 → ∀ l8, X E (d + 1) RX9 cX9_countOf 9 C 18 [some (.ref (ad E 40)), some (.ref (ad E p)), some (.int (nI h)), some (.int (nI pa)), some (.int (nI S)), some (.int (nI (fb_sm (fun r => fb_sm (cng kd q w n h pa S r) 5) r + fb_sm (cng kd q w n h pa S r) c))), some (.int (nI r)), some (.int (nI c)), l8] [] M := by
        refine up_loop 5 ?_ ?_
        · intro l8
          refine x_iload dX9_countOf_18 rfl ?_
          refine x_iconst (v := nI 5) dX9_countOf_20 (by decide) ?_
          refine x_icmp_geN (tgt := 89) dX9_countOf_21 (by decide) (by omega) (by omega) (fun hc => ?_) (fun hc => ?_)
          · refine xinc9_6N dX9_countOf_89 rfl ?_
            refine x_goto (tgt := 6) dX9_countOf_92 (by decide) ?_
            exact ih _ _
          · exact absurd hc (by omega)
        · intro c hc5 ih2 l8
          have hcell := hp.2.2.2.1 r c hr hc5
          have hcf := cf_le kd (par q w n) (q (5 * r + c)) (hf_le w r c)
          refine x_iload dX9_countOf_18 rfl ?_
          refine x_iconst (v := nI 5) dX9_countOf_20 (by decide) ?_
          refine x_icmp_geN (tgt := 89) dX9_countOf_21 (by decide) (by omega) (by omega) (fun hc => ?_) (fun hc => ?_)
          · exact absurd hc (by omega)
          rw [fb_sm_succ] at ih2
          have z0 : cng kd q w n h pa S r c = 0 → X E (d + 1) RX9 cX9_countOf 9 C 79 [some (.ref (ad E 40)), some (.ref (ad E p)), some (.int (nI h)), some (.int (nI pa)), some (.int (nI S)), some (.int (nI (fb_sm (fun r => fb_sm (cng kd q w n h pa S r) 5) r + fb_sm (cng kd q w n h pa S r) c))), some (.int (nI r)), some (.int (nI c)), some (.int (nI (q (5 * r + c))))] [.int (nI (fb_sm (fun r => fb_sm (cng kd q w n h pa S r) 5) r + fb_sm (cng kd q w n h pa S r) c))] M := by
            intro e
            refine x_iconst (v := nI 0) dX9_countOf_79 (by decide) ?_
            refine x_iaddN dX9_countOf_80 ?_
            refine xis9_5 dX9_countOf_81 rfl ?_
            refine xinc9_7N dX9_countOf_83 rfl ?_
            refine x_goto (tgt := 18) dX9_countOf_86 (by decide) ?_
            rw [e] at ih2
            exact ih2 _
          refine x_aload_n dX9_countOf_24 rfl rfl ?_
          refine x_iconst (v := nI 5) dX9_countOf_25 (by decide) ?_
          refine x_iconst (v := nI 5) dX9_countOf_26 (by decide) ?_
          refine x_iload dX9_countOf_27 rfl ?_
          refine x_imulN dX9_countOf_29 ?_
          refine x_iaddN dX9_countOf_30 ?_
          refine x_iload dX9_countOf_31 rfl ?_
          refine x_iaddN dX9_countOf_33 ?_
          refine x_ialdN dX9_countOf_34 hp.1 hp.2.1 (by omega) (by decide) (hcell.1) ?_
          refine xis9_8 dX9_countOf_35 rfl ?_
          refine x_iload dX9_countOf_37 rfl ?_
          refine x_iload dX9_countOf_39 rfl ?_
          refine x_iconst (v := nI 4) dX9_countOf_41 (by decide) ?_
          refine x_iremN dX9_countOf_42 (by omega) (by omega) (by omega) ?_
          refine x_iload_n dX9_countOf_43 rfl rfl ?_
          refine x_icmp_neN (tgt := 79) dX9_countOf_44 (by decide) (by omega) (by omega) (fun hc => ?_) (fun hc => ?_)
          · exact z0 (by unfold cng; rw [if_neg (fun e => hc e.1)])
          refine x_iload dX9_countOf_47 rfl ?_
          refine x_iload dX9_countOf_49 rfl ?_
          refine x_iconst (v := nI 4) dX9_countOf_51 (by decide) ?_
          refine x_idivN dX9_countOf_52 (by omega) (by omega) (by omega) ?_
          refine x_callSi dX9_countOf_53 msX9_isIn kX9_130 (c_isIn E d M S (q (5 * r + c) / 4) (by omega) (by omega)) (by omega) rfl rfl (Nat.le_of_ble_eq_true rfl) ?_
          rintro _ _ ⟨rfl, rfl⟩
          refine x_if_eqB (tgt := 79) dX9_countOf_56 (by decide) (fun hc => ?_) (fun hc => ?_)
          · exact z0 (by unfold cng; rw [if_neg (fun e => of_decide_eq_false hc e.2.1)])
          have hS1 := of_decide_eq_true hc
          refine x_aload_n dX9_countOf_59 rfl rfl ?_
          refine x_aload_n dX9_countOf_60 rfl rfl ?_
          refine x_iload dX9_countOf_61 rfl ?_
          refine x_iload dX9_countOf_63 rfl ?_
          refine x_callVi dX9_countOf_65 mvX9_countsFor kX9_134 (c_countsFor E d M p n r c K D q w kd pt nd hF hp hl hr hc5) rfl (by decide) (by omega) rfl rfl (Nat.le_of_ble_eq_true rfl) ?_
          rintro _ _ ⟨rfl, rfl⟩
          refine x_iload_n dX9_countOf_68 rfl rfl ?_
          refine x_callSi dX9_countOf_69 msX9_isIn kX9_130 (c_isIn E d M (cfc kd q w n r c) h (by unfold cfc; omega) (by omega)) (by omega) rfl rfl (Nat.le_of_ble_eq_true rfl) ?_
          rintro _ _ ⟨rfl, rfl⟩
          refine x_if_eqB (tgt := 79) dX9_countOf_72 (by decide) (fun hc => ?_) (fun hc => ?_)
          · exact z0 (by unfold cng; rw [if_neg (fun e => of_decide_eq_false hc e.2.2)])
          have hS2 := of_decide_eq_true hc
          refine x_iconst (v := nI 1) dX9_countOf_75 (by decide) ?_
          refine x_goto (tgt := 80) dX9_countOf_76 (by decide) ?_
          refine x_iaddN dX9_countOf_80 ?_
          refine xis9_5 dX9_countOf_81 rfl ?_
          refine xinc9_7N dX9_countOf_83 rfl ?_
          refine x_goto (tgt := 18) dX9_countOf_86 (by decide) ?_
          have e1 : cng kd q w n h pa S r c = 1 := by unfold cng; rw [if_pos ⟨by assumption, hS1, hS2⟩]
          rw [e1] at ih2
          exact ih2 _
      exact key2 0 (by omega) _
  exact key 0 (by omega) _ _
set_option maxHeartbeats 8000000 in
theorem c_canOf (E : Ev) (d : Nat) (M : PM) (p n K D h S : Nat) (q w kd pt nd : Nat → Nat) (hF : Fm M n K D kd pt nd) (hp : Pg M p n q w) (hl : Ld M n q w) (hh : h ≤ 1) (hS : S < 32) : Ci E (d + 2) mX9_canOf [.ref (ad E 40), .ref (ad E p), .int (nI h), .int (nI S)] M (fun v N => v = nI (canB kd q w n D pt nd h S) ∧ M = N) := by
  obtain ⟨f1, f2, f3, f4, f5, f6, f7, f8, f9⟩ := id hF
  refine Ct.ofi [some (.ref (ad E 40)), some (.ref (ad E p)), some (.int (nI h)), some (.int (nI S)), none, none] (own := RX9) rfl (by decide) (Nat.le_of_ble_eq_true rfl) rfl (fun C hR => ?_)
  refine x_iconst (v := nI 0) dX9_canOf_0 (by decide) ?_
  refine xis6_4 dX9_canOf_1 rfl ?_
  refine x_iconst (v := nI 0) dX9_canOf_3 (by decide) ?_
  refine xis6_5 dX9_canOf_4 rfl ?_
  have key : ∀ i, i ≤ D → X E (d + 2) RX9 cX9_canOf 6 C 6 [some (.ref (ad E 40)), some (.ref (ad E p)), some (.int (nI h)), some (.int (nI S)), some (.int (nI (canB kd q w n i pt nd h S))), some (.int (nI i))] [] M := by
    refine up_loop D ?_ ?_
    · refine x_iload dX9_canOf_6 rfl ?_
      refine x_aload_n dX9_canOf_8 rfl rfl ?_
      refine x_getv (f3) dX9_canOf_9 fX9_120 rfl rfl (by decide) ?_
      refine x_icmp_geN (tgt := 58) dX9_canOf_12 (by decide) (by omega) (by omega) (fun hc => ?_) (fun hc => ?_)
      · refine x_iload dX9_canOf_58 rfl ?_
        exact hR _ _ _ _ dX9_canOf_60 (⟨rfl, rfl⟩)
      · exact absurd hc (by omega)
    · intro i hi ih
      have hlt := canB_lt kd q w n i pt nd h S
      have h2 := p2 (show i ≤ 5 by omega)
      have hpt := f8 i hi
      have hnd := f9 i hi
      have hcn := cnt_le (kd := kd) (q := q) (w := w) (h := h) (p := pt i) (S := S) f4
      have ec : canB kd q w n (i + 1) pt nd h S = canB kd q w n i pt nd h S + if nd i ≤ cnt kd q w n h (pt i) S then 2 ^ i else 0 := rfl
      refine x_iload dX9_canOf_6 rfl ?_
      refine x_aload_n dX9_canOf_8 rfl rfl ?_
      refine x_getv (f3) dX9_canOf_9 fX9_120 rfl rfl (by decide) ?_
      refine x_icmp_geN (tgt := 58) dX9_canOf_12 (by decide) (by omega) (by omega) (fun hc => ?_) (fun hc => ?_)
      · exact absurd hc (by omega)
      refine x_iload dX9_canOf_15 rfl ?_
      refine x_aload_n dX9_canOf_17 rfl rfl ?_
      refine x_aload_n dX9_canOf_18 rfl rfl ?_
      refine x_iload_n dX9_canOf_19 rfl rfl ?_
      refine x_aload_n dX9_canOf_20 rfl rfl ?_
      refine x_getr dX9_canOf_21 fX9_16 rfl rfl (by decide) ?_
      refine x_iload dX9_canOf_24 rfl ?_
      refine x_ialdN dX9_canOf_26 rfl (by decide) (by omega) (by decide) (hpt.1) ?_
      refine x_iload_n dX9_canOf_27 rfl rfl ?_
      refine x_callVi dX9_canOf_28 mvX9_countOf kX9_138 (c_countOf E d M p n K D h (pt i) S q w kd pt nd hF hp hl hh hpt.2 hS) rfl (by decide) (by omega) rfl rfl (Nat.le_of_ble_eq_true rfl) ?_
      rintro _ _ ⟨rfl, rfl⟩
      refine x_aload_n dX9_canOf_31 rfl rfl ?_
      refine x_getr dX9_canOf_32 fX9_19 rfl rfl (by decide) ?_
      refine x_iload dX9_canOf_35 rfl ?_
      refine x_ialdN dX9_canOf_37 rfl (by decide) (by omega) (by decide) (hnd.1) ?_
      refine x_icmp_ltN (tgt := 48) dX9_canOf_38 (by decide) (by omega) (by omega) (fun hc => ?_) (fun hc => ?_)
      · refine x_iconst (v := nI 0) dX9_canOf_48 (by decide) ?_
        refine x_iorN dX9_canOf_49 ?_
        refine xis6_4 dX9_canOf_50 rfl ?_
        refine xinc6_5N dX9_canOf_52 rfl ?_
        refine x_goto (tgt := 6) dX9_canOf_55 (by decide) ?_
        rw [ec, if_neg (by omega), Nat.add_zero] at ih
        rw [Nat.or_zero]
        exact ih
      · refine x_iconst (v := nI 1) dX9_canOf_41 (by decide) ?_
        refine x_iload dX9_canOf_42 rfl ?_
        refine x_ishlN dX9_canOf_44 (by omega) (by omega) ?_
        refine x_goto (tgt := 49) dX9_canOf_45 (by decide) ?_
        refine x_iorN dX9_canOf_49 ?_
        refine xis6_4 dX9_canOf_50 rfl ?_
        refine xinc6_5N dX9_canOf_52 rfl ?_
        refine x_goto (tgt := 6) dX9_canOf_55 (by decide) ?_
        rw [ec, if_pos (by omega), ← bits_or hlt] at ih
        rw [Nat.one_mul]
        exact ih
  exact key 0 (by omega)
end
