-- ===== PART A: goes FIRST, ahead of the names: the tables' words, and 'selects' of the private methods out of them =====
/-- a private method of a class that the tables say can be made, by its rows of tables_1 -/
def lw_okq (q : MethodName × Nat) : Prop := (q.1.cls ≠ "java/lang/invoke/MethodHandle" ∧ q.1.cls ≠ "java/lang/invoke/VarHandle") ∧ Cond.instantiable q.1.cls q.2 ∈ tables_1 ∧ Cond.privateMethod q.1 ∈ tables_1 ∧ Cond.instanceMethod q.1 ∈ tables_1
theorem lw_p0 : lw_okq (⟨"FoughtFromMemory", "refuse", "(I)I"⟩, 8) := ⟨⟨by decide +kernel, by decide +kernel⟩, List.mem_of_getElem? (i := 16) (by decide +kernel), List.mem_of_getElem? (i := 162) (by decide +kernel), List.mem_of_getElem? (i := 163) (by decide +kernel)⟩
theorem lw_p1 : lw_okq (⟨"FoughtFromMemory$Telling", "firstStray", "()I"⟩, 1) := ⟨⟨by decide +kernel, by decide +kernel⟩, List.mem_of_getElem? (i := 102) (by decide +kernel), List.mem_of_getElem? (i := 189) (by decide +kernel), List.mem_of_getElem? (i := 190) (by decide +kernel)⟩
theorem lw_p2 : lw_okq (⟨"FoughtFromMemory$Telling", "fittingLetters", "(Ljava/lang/String;I)I"⟩, 1) := ⟨⟨by decide +kernel, by decide +kernel⟩, List.mem_of_getElem? (i := 102) (by decide +kernel), List.mem_of_getElem? (i := 206) (by decide +kernel), List.mem_of_getElem? (i := 207) (by decide +kernel)⟩
theorem lw_p3 : lw_okq (⟨"FoughtFromMemory$Telling", "tellStatement", "(ILFoughtFromMemory$House;)Z"⟩, 1) := ⟨⟨by decide +kernel, by decide +kernel⟩, List.mem_of_getElem? (i := 102) (by decide +kernel), List.mem_of_getElem? (i := 269) (by decide +kernel), List.mem_of_getElem? (i := 270) (by decide +kernel)⟩
theorem lw_p4 : lw_okq (⟨"FoughtFromMemory$Telling", "pairAt", "(I)I"⟩, 1) := ⟨⟨by decide +kernel, by decide +kernel⟩, List.mem_of_getElem? (i := 102) (by decide +kernel), List.mem_of_getElem? (i := 273) (by decide +kernel), List.mem_of_getElem? (i := 274) (by decide +kernel)⟩
theorem lw_p5 : lw_okq (⟨"FoughtFromMemory$Telling", "digitAt", "(I)I"⟩, 1) := ⟨⟨by decide +kernel, by decide +kernel⟩, List.mem_of_getElem? (i := 102) (by decide +kernel), List.mem_of_getElem? (i := 277) (by decide +kernel), List.mem_of_getElem? (i := 278) (by decide +kernel)⟩
theorem lw_p6 : lw_okq (⟨"FoughtFromMemory$Telling", "tellThings", "(IIILFoughtFromMemory$House;)Z"⟩, 1) := ⟨⟨by decide +kernel, by decide +kernel⟩, List.mem_of_getElem? (i := 102) (by decide +kernel), List.mem_of_getElem? (i := 281) (by decide +kernel), List.mem_of_getElem? (i := 282) (by decide +kernel)⟩
theorem lw_p7 : lw_okq (⟨"FoughtFromMemory$Telling", "tellKnown", "(ILFoughtFromMemory$House;)Z"⟩, 1) := ⟨⟨by decide +kernel, by decide +kernel⟩, List.mem_of_getElem? (i := 102) (by decide +kernel), List.mem_of_getElem? (i := 308) (by decide +kernel), List.mem_of_getElem? (i := 309) (by decide +kernel)⟩
theorem lw_p8 : lw_okq (⟨"FoughtFromMemory$House", "forgetSome", "(I)V"⟩, 6) := ⟨⟨by decide +kernel, by decide +kernel⟩, List.mem_of_getElem? (i := 24) (by decide +kernel), List.mem_of_getElem? (i := 325) (by decide +kernel), List.mem_of_getElem? (i := 326) (by decide +kernel)⟩
theorem lw_p9 : lw_okq (⟨"FoughtFromMemory", "isPerson", "(I)Z"⟩, 8) := ⟨⟨by decide +kernel, by decide +kernel⟩, List.mem_of_getElem? (i := 16) (by decide +kernel), List.mem_of_getElem? (i := 375) (by decide +kernel), List.mem_of_getElem? (i := 376) (by decide +kernel)⟩
theorem lw_p10 : lw_okq (⟨"FoughtFromMemory", "isSpeaker", "(I)Z"⟩, 8) := ⟨⟨by decide +kernel, by decide +kernel⟩, List.mem_of_getElem? (i := 16) (by decide +kernel), List.mem_of_getElem? (i := 424) (by decide +kernel), List.mem_of_getElem? (i := 425) (by decide +kernel)⟩
theorem lw_p11 : lw_okq (⟨"FoughtFromMemory", "burnAsNow", "(II)V"⟩, 8) := ⟨⟨by decide +kernel, by decide +kernel⟩, List.mem_of_getElem? (i := 16) (by decide +kernel), List.mem_of_getElem? (i := 428) (by decide +kernel), List.mem_of_getElem? (i := 429) (by decide +kernel)⟩
theorem lw_p12 : lw_okq (⟨"FoughtFromMemory$Blaze", "spreadFrom", "(I)V"⟩, 13) := ⟨⟨by decide +kernel, by decide +kernel⟩, List.mem_of_getElem? (i := 56) (by decide +kernel), List.mem_of_getElem? (i := 463) (by decide +kernel), List.mem_of_getElem? (i := 464) (by decide +kernel)⟩
theorem lw_p13 : lw_okq (⟨"FoughtFromMemory$Blaze", "caughtIn", "(I)I"⟩, 13) := ⟨⟨by decide +kernel, by decide +kernel⟩, List.mem_of_getElem? (i := 56) (by decide +kernel), List.mem_of_getElem? (i := 467) (by decide +kernel), List.mem_of_getElem? (i := 468) (by decide +kernel)⟩
theorem lw_p14 : lw_okq (⟨"FoughtFromMemory$Blaze", "speak", "(I)I"⟩, 13) := ⟨⟨by decide +kernel, by decide +kernel⟩, List.mem_of_getElem? (i := 56) (by decide +kernel), List.mem_of_getElem? (i := 471) (by decide +kernel), List.mem_of_getElem? (i := 472) (by decide +kernel)⟩
theorem lw_p15 : lw_okq (⟨"FoughtFromMemory$Blaze", "sayableBy", "(I)I"⟩, 13) := ⟨⟨by decide +kernel, by decide +kernel⟩, List.mem_of_getElem? (i := 56) (by decide +kernel), List.mem_of_getElem? (i := 479) (by decide +kernel), List.mem_of_getElem? (i := 480) (by decide +kernel)⟩
def lw_privs_1 : List (MethodName × Nat) := [(⟨"FoughtFromMemory", "refuse", "(I)I"⟩, 8), (⟨"FoughtFromMemory$Telling", "firstStray", "()I"⟩, 1), (⟨"FoughtFromMemory$Telling", "fittingLetters", "(Ljava/lang/String;I)I"⟩, 1), (⟨"FoughtFromMemory$Telling", "tellStatement", "(ILFoughtFromMemory$House;)Z"⟩, 1), (⟨"FoughtFromMemory$Telling", "pairAt", "(I)I"⟩, 1), (⟨"FoughtFromMemory$Telling", "digitAt", "(I)I"⟩, 1), (⟨"FoughtFromMemory$Telling", "tellThings", "(IIILFoughtFromMemory$House;)Z"⟩, 1), (⟨"FoughtFromMemory$Telling", "tellKnown", "(ILFoughtFromMemory$House;)Z"⟩, 1), (⟨"FoughtFromMemory$House", "forgetSome", "(I)V"⟩, 6), (⟨"FoughtFromMemory", "isPerson", "(I)Z"⟩, 8), (⟨"FoughtFromMemory", "isSpeaker", "(I)Z"⟩, 8), (⟨"FoughtFromMemory", "burnAsNow", "(II)V"⟩, 8), (⟨"FoughtFromMemory$Blaze", "spreadFrom", "(I)V"⟩, 13), (⟨"FoughtFromMemory$Blaze", "caughtIn", "(I)I"⟩, 13), (⟨"FoughtFromMemory$Blaze", "speak", "(I)I"⟩, 13), (⟨"FoughtFromMemory$Blaze", "sayableBy", "(I)I"⟩, 13)]
theorem lw_r1 : ∀ q ∈ lw_privs_1, lw_okq q := List.forall_mem_cons.mpr ⟨lw_p0, List.forall_mem_cons.mpr ⟨lw_p1, List.forall_mem_cons.mpr ⟨lw_p2, List.forall_mem_cons.mpr ⟨lw_p3, List.forall_mem_cons.mpr ⟨lw_p4, List.forall_mem_cons.mpr ⟨lw_p5, List.forall_mem_cons.mpr ⟨lw_p6, List.forall_mem_cons.mpr ⟨lw_p7, List.forall_mem_cons.mpr ⟨lw_p8, List.forall_mem_cons.mpr ⟨lw_p9, List.forall_mem_cons.mpr ⟨lw_p10, List.forall_mem_cons.mpr ⟨lw_p11, List.forall_mem_cons.mpr ⟨lw_p12, List.forall_mem_cons.mpr ⟨lw_p13, List.forall_mem_cons.mpr ⟨lw_p14, List.forall_mem_cons.mpr ⟨lw_p15, fun _ h => absurd h List.not_mem_nil⟩⟩⟩⟩⟩⟩⟩⟩⟩⟩⟩⟩⟩⟩⟩⟩
theorem lw_p16 : lw_okq (⟨"FoughtFromMemory$Blaze", "dearest", "(I)I"⟩, 13) := ⟨⟨by decide +kernel, by decide +kernel⟩, List.mem_of_getElem? (i := 56) (by decide +kernel), List.mem_of_getElem? (i := 483) (by decide +kernel), List.mem_of_getElem? (i := 484) (by decide +kernel)⟩
theorem lw_p17 : lw_okq (⟨"FoughtFromMemory$Blaze", "burnt", "()I"⟩, 13) := ⟨⟨by decide +kernel, by decide +kernel⟩, List.mem_of_getElem? (i := 56) (by decide +kernel), List.mem_of_getElem? (i := 491) (by decide +kernel), List.mem_of_getElem? (i := 492) (by decide +kernel)⟩
theorem lw_p18 : lw_okq (⟨"FoughtFromMemory", "worthWithOnly", "(II)I"⟩, 8) := ⟨⟨by decide +kernel, by decide +kernel⟩, List.mem_of_getElem? (i := 16) (by decide +kernel), List.mem_of_getElem? (i := 540) (by decide +kernel), List.mem_of_getElem? (i := 541) (by decide +kernel)⟩
theorem lw_p19 : lw_okq (⟨"FoughtFromMemory", "bestAgainst", "(II)I"⟩, 8) := ⟨⟨by decide +kernel, by decide +kernel⟩, List.mem_of_getElem? (i := 16) (by decide +kernel), List.mem_of_getElem? (i := 549) (by decide +kernel), List.mem_of_getElem? (i := 550) (by decide +kernel)⟩
theorem lw_p20 : lw_okq (⟨"FoughtFromMemory", "worthBy", "(II)I"⟩, 8) := ⟨⟨by decide +kernel, by decide +kernel⟩, List.mem_of_getElem? (i := 16) (by decide +kernel), List.mem_of_getElem? (i := 553) (by decide +kernel), List.mem_of_getElem? (i := 554) (by decide +kernel)⟩
theorem lw_p21 : lw_okq (⟨"FoughtFromMemory", "worthIn", "(LFoughtFromMemory$House;I)I"⟩, 8) := ⟨⟨by decide +kernel, by decide +kernel⟩, List.mem_of_getElem? (i := 16) (by decide +kernel), List.mem_of_getElem? (i := 566) (by decide +kernel), List.mem_of_getElem? (i := 567) (by decide +kernel)⟩
theorem lw_p22 : lw_okq (⟨"FoughtFromMemory", "refuseLong", "(I)J"⟩, 8) := ⟨⟨by decide +kernel, by decide +kernel⟩, List.mem_of_getElem? (i := 16) (by decide +kernel), List.mem_of_getElem? (i := 611) (by decide +kernel), List.mem_of_getElem? (i := 612) (by decide +kernel)⟩
theorem lw_p23 : lw_okq (⟨"FoughtFromMemory", "slipsWithin", "(IIII)J"⟩, 8) := ⟨⟨by decide +kernel, by decide +kernel⟩, List.mem_of_getElem? (i := 16) (by decide +kernel), List.mem_of_getElem? (i := 616) (by decide +kernel), List.mem_of_getElem? (i := 617) (by decide +kernel)⟩
theorem lw_p24 : lw_okq (⟨"FoughtFromMemory", "burnsAsRowTells", "(I)Z"⟩, 8) := ⟨⟨by decide +kernel, by decide +kernel⟩, List.mem_of_getElem? (i := 16) (by decide +kernel), List.mem_of_getElem? (i := 630) (by decide +kernel), List.mem_of_getElem? (i := 631) (by decide +kernel)⟩
theorem lw_p25 : lw_okq (⟨"FoughtFromMemoryModel", "no", "(I)I"⟩, 20) := ⟨⟨by decide +kernel, by decide +kernel⟩, List.mem_of_getElem? (i := 690) (by decide +kernel), List.mem_of_getElem? (i := 761) (by decide +kernel), List.mem_of_getElem? (i := 762) (by decide +kernel)⟩
theorem lw_p26 : lw_okq (⟨"FoughtFromMemoryModel", "readsStatement", "()Z"⟩, 20) := ⟨⟨by decide +kernel, by decide +kernel⟩, List.mem_of_getElem? (i := 690) (by decide +kernel), List.mem_of_getElem? (i := 769) (by decide +kernel), List.mem_of_getElem? (i := 770) (by decide +kernel)⟩
theorem lw_p27 : lw_okq (⟨"FoughtFromMemoryModel", "here", "()I"⟩, 20) := ⟨⟨by decide +kernel, by decide +kernel⟩, List.mem_of_getElem? (i := 690) (by decide +kernel), List.mem_of_getElem? (i := 773) (by decide +kernel), List.mem_of_getElem? (i := 774) (by decide +kernel)⟩
theorem lw_p28 : lw_okq (⟨"FoughtFromMemoryModel", "readsKind", "()Z"⟩, 20) := ⟨⟨by decide +kernel, by decide +kernel⟩, List.mem_of_getElem? (i := 690) (by decide +kernel), List.mem_of_getElem? (i := 777) (by decide +kernel), List.mem_of_getElem? (i := 778) (by decide +kernel)⟩
theorem lw_p29 : lw_okq (⟨"FoughtFromMemoryModel", "readsNumber", "(II)Z"⟩, 20) := ⟨⟨by decide +kernel, by decide +kernel⟩, List.mem_of_getElem? (i := 690) (by decide +kernel), List.mem_of_getElem? (i := 784) (by decide +kernel), List.mem_of_getElem? (i := 785) (by decide +kernel)⟩
theorem lw_p30 : lw_okq (⟨"FoughtFromMemoryModel", "isDone", "(I)Z"⟩, 20) := ⟨⟨by decide +kernel, by decide +kernel⟩, List.mem_of_getElem? (i := 690) (by decide +kernel), List.mem_of_getElem? (i := 794) (by decide +kernel), List.mem_of_getElem? (i := 795) (by decide +kernel)⟩
theorem lw_p31 : lw_okq (⟨"FoughtFromMemoryModel", "isPerson", "(I)Z"⟩, 20) := ⟨⟨by decide +kernel, by decide +kernel⟩, List.mem_of_getElem? (i := 690) (by decide +kernel), List.mem_of_getElem? (i := 804) (by decide +kernel), List.mem_of_getElem? (i := 805) (by decide +kernel)⟩
def lw_privs_2 : List (MethodName × Nat) := [(⟨"FoughtFromMemory$Blaze", "dearest", "(I)I"⟩, 13), (⟨"FoughtFromMemory$Blaze", "burnt", "()I"⟩, 13), (⟨"FoughtFromMemory", "worthWithOnly", "(II)I"⟩, 8), (⟨"FoughtFromMemory", "bestAgainst", "(II)I"⟩, 8), (⟨"FoughtFromMemory", "worthBy", "(II)I"⟩, 8), (⟨"FoughtFromMemory", "worthIn", "(LFoughtFromMemory$House;I)I"⟩, 8), (⟨"FoughtFromMemory", "refuseLong", "(I)J"⟩, 8), (⟨"FoughtFromMemory", "slipsWithin", "(IIII)J"⟩, 8), (⟨"FoughtFromMemory", "burnsAsRowTells", "(I)Z"⟩, 8), (⟨"FoughtFromMemoryModel", "no", "(I)I"⟩, 20), (⟨"FoughtFromMemoryModel", "readsStatement", "()Z"⟩, 20), (⟨"FoughtFromMemoryModel", "here", "()I"⟩, 20), (⟨"FoughtFromMemoryModel", "readsKind", "()Z"⟩, 20), (⟨"FoughtFromMemoryModel", "readsNumber", "(II)Z"⟩, 20), (⟨"FoughtFromMemoryModel", "isDone", "(I)Z"⟩, 20), (⟨"FoughtFromMemoryModel", "isPerson", "(I)Z"⟩, 20)]
theorem lw_r2 : ∀ q ∈ lw_privs_2, lw_okq q := List.forall_mem_cons.mpr ⟨lw_p16, List.forall_mem_cons.mpr ⟨lw_p17, List.forall_mem_cons.mpr ⟨lw_p18, List.forall_mem_cons.mpr ⟨lw_p19, List.forall_mem_cons.mpr ⟨lw_p20, List.forall_mem_cons.mpr ⟨lw_p21, List.forall_mem_cons.mpr ⟨lw_p22, List.forall_mem_cons.mpr ⟨lw_p23, List.forall_mem_cons.mpr ⟨lw_p24, List.forall_mem_cons.mpr ⟨lw_p25, List.forall_mem_cons.mpr ⟨lw_p26, List.forall_mem_cons.mpr ⟨lw_p27, List.forall_mem_cons.mpr ⟨lw_p28, List.forall_mem_cons.mpr ⟨lw_p29, List.forall_mem_cons.mpr ⟨lw_p30, List.forall_mem_cons.mpr ⟨lw_p31, fun _ h => absurd h List.not_mem_nil⟩⟩⟩⟩⟩⟩⟩⟩⟩⟩⟩⟩⟩⟩⟩⟩
theorem lw_p32 : lw_okq (⟨"FoughtFromMemoryModel", "knownMany", "(Z)I"⟩, 20) := ⟨⟨by decide +kernel, by decide +kernel⟩, List.mem_of_getElem? (i := 690) (by decide +kernel), List.mem_of_getElem? (i := 848) (by decide +kernel), List.mem_of_getElem? (i := 849) (by decide +kernel)⟩
theorem lw_p33 : lw_okq (⟨"FoughtFromMemoryModel", "isFire", "(II)Z"⟩, 20) := ⟨⟨by decide +kernel, by decide +kernel⟩, List.mem_of_getElem? (i := 690) (by decide +kernel), List.mem_of_getElem? (i := 859) (by decide +kernel), List.mem_of_getElem? (i := 860) (by decide +kernel)⟩
theorem lw_p34 : lw_okq (⟨"FoughtFromMemoryModel", "isSpeaker", "(I)Z"⟩, 20) := ⟨⟨by decide +kernel, by decide +kernel⟩, List.mem_of_getElem? (i := 690) (by decide +kernel), List.mem_of_getElem? (i := 863) (by decide +kernel), List.mem_of_getElem? (i := 864) (by decide +kernel)⟩
theorem lw_p35 : lw_okq (⟨"FoughtFromMemoryModel", "burnsBy", "(II)V"⟩, 20) := ⟨⟨by decide +kernel, by decide +kernel⟩, List.mem_of_getElem? (i := 690) (by decide +kernel), List.mem_of_getElem? (i := 867) (by decide +kernel), List.mem_of_getElem? (i := 868) (by decide +kernel)⟩
theorem lw_p36 : lw_okq (⟨"FoughtFromMemoryModel", "turnsFrom", "([III)V"⟩, 20) := ⟨⟨by decide +kernel, by decide +kernel⟩, List.mem_of_getElem? (i := 690) (by decide +kernel), List.mem_of_getElem? (i := 871) (by decide +kernel), List.mem_of_getElem? (i := 872) (by decide +kernel)⟩
theorem lw_p37 : lw_okq (⟨"FoughtFromMemoryModel", "burns", "([II)V"⟩, 20) := ⟨⟨by decide +kernel, by decide +kernel⟩, List.mem_of_getElem? (i := 690) (by decide +kernel), List.mem_of_getElem? (i := 875) (by decide +kernel), List.mem_of_getElem? (i := 876) (by decide +kernel)⟩
theorem lw_p38 : lw_okq (⟨"FoughtFromMemoryModel", "findsSoonest", "([I)V"⟩, 20) := ⟨⟨by decide +kernel, by decide +kernel⟩, List.mem_of_getElem? (i := 690) (by decide +kernel), List.mem_of_getElem? (i := 879) (by decide +kernel), List.mem_of_getElem? (i := 880) (by decide +kernel)⟩
theorem lw_p39 : lw_okq (⟨"FoughtFromMemoryModel", "isGoingOn", "()Z"⟩, 20) := ⟨⟨by decide +kernel, by decide +kernel⟩, List.mem_of_getElem? (i := 690) (by decide +kernel), List.mem_of_getElem? (i := 886) (by decide +kernel), List.mem_of_getElem? (i := 887) (by decide +kernel)⟩
theorem lw_p40 : lw_okq (⟨"FoughtFromMemoryModel", "toSay", "([II)I"⟩, 20) := ⟨⟨by decide +kernel, by decide +kernel⟩, List.mem_of_getElem? (i := 690) (by decide +kernel), List.mem_of_getElem? (i := 890) (by decide +kernel), List.mem_of_getElem? (i := 891) (by decide +kernel)⟩
theorem lw_p41 : lw_okq (⟨"FoughtFromMemoryModel", "burntMany", "()I"⟩, 20) := ⟨⟨by decide +kernel, by decide +kernel⟩, List.mem_of_getElem? (i := 690) (by decide +kernel), List.mem_of_getElem? (i := 894) (by decide +kernel), List.mem_of_getElem? (i := 895) (by decide +kernel)⟩
theorem lw_p42 : lw_okq (⟨"FoughtFromMemoryModel", "burntWorth", "([I)I"⟩, 20) := ⟨⟨by decide +kernel, by decide +kernel⟩, List.mem_of_getElem? (i := 690) (by decide +kernel), List.mem_of_getElem? (i := 898) (by decide +kernel), List.mem_of_getElem? (i := 899) (by decide +kernel)⟩
theorem lw_p43 : lw_okq (⟨"FoughtFromMemoryModel", "worthBy", "([III)I"⟩, 20) := ⟨⟨by decide +kernel, by decide +kernel⟩, List.mem_of_getElem? (i := 690) (by decide +kernel), List.mem_of_getElem? (i := 922) (by decide +kernel), List.mem_of_getElem? (i := 923) (by decide +kernel)⟩
theorem lw_p44 : lw_okq (⟨"FoughtFromMemoryModel", "noWide", "(I)J"⟩, 20) := ⟨⟨by decide +kernel, by decide +kernel⟩, List.mem_of_getElem? (i := 690) (by decide +kernel), List.mem_of_getElem? (i := 969) (by decide +kernel), List.mem_of_getElem? (i := 970) (by decide +kernel)⟩
theorem lw_p45 : lw_okq (⟨"FoughtFromMemoryModel", "drawn", "(I)I"⟩, 20) := ⟨⟨by decide +kernel, by decide +kernel⟩, List.mem_of_getElem? (i := 690) (by decide +kernel), List.mem_of_getElem? (i := 1000) (by decide +kernel), List.mem_of_getElem? (i := 1001) (by decide +kernel)⟩
def lw_privs_3 : List (MethodName × Nat) := [(⟨"FoughtFromMemoryModel", "knownMany", "(Z)I"⟩, 20), (⟨"FoughtFromMemoryModel", "isFire", "(II)Z"⟩, 20), (⟨"FoughtFromMemoryModel", "isSpeaker", "(I)Z"⟩, 20), (⟨"FoughtFromMemoryModel", "burnsBy", "(II)V"⟩, 20), (⟨"FoughtFromMemoryModel", "turnsFrom", "([III)V"⟩, 20), (⟨"FoughtFromMemoryModel", "burns", "([II)V"⟩, 20), (⟨"FoughtFromMemoryModel", "findsSoonest", "([I)V"⟩, 20), (⟨"FoughtFromMemoryModel", "isGoingOn", "()Z"⟩, 20), (⟨"FoughtFromMemoryModel", "toSay", "([II)I"⟩, 20), (⟨"FoughtFromMemoryModel", "burntMany", "()I"⟩, 20), (⟨"FoughtFromMemoryModel", "burntWorth", "([I)I"⟩, 20), (⟨"FoughtFromMemoryModel", "worthBy", "([III)I"⟩, 20), (⟨"FoughtFromMemoryModel", "noWide", "(I)J"⟩, 20), (⟨"FoughtFromMemoryModel", "drawn", "(I)I"⟩, 20)]
theorem lw_r3 : ∀ q ∈ lw_privs_3, lw_okq q := List.forall_mem_cons.mpr ⟨lw_p32, List.forall_mem_cons.mpr ⟨lw_p33, List.forall_mem_cons.mpr ⟨lw_p34, List.forall_mem_cons.mpr ⟨lw_p35, List.forall_mem_cons.mpr ⟨lw_p36, List.forall_mem_cons.mpr ⟨lw_p37, List.forall_mem_cons.mpr ⟨lw_p38, List.forall_mem_cons.mpr ⟨lw_p39, List.forall_mem_cons.mpr ⟨lw_p40, List.forall_mem_cons.mpr ⟨lw_p41, List.forall_mem_cons.mpr ⟨lw_p42, List.forall_mem_cons.mpr ⟨lw_p43, List.forall_mem_cons.mpr ⟨lw_p44, List.forall_mem_cons.mpr ⟨lw_p45, fun _ h => absurd h List.not_mem_nil⟩⟩⟩⟩⟩⟩⟩⟩⟩⟩⟩⟩⟩⟩
def lw_privs : List (MethodName × Nat) := lw_privs_1 ++ (lw_privs_2 ++ (lw_privs_3))
def lw_tbl : List Cond := k2_sels lw_privs ++ tables_1
theorem lw_privs_ok : ∀ q ∈ lw_privs, lw_okq q := by
  show ∀ q ∈ lw_privs_1 ++ (lw_privs_2 ++ (lw_privs_3)), lw_okq q
  exact List.forall_mem_append.mpr ⟨lw_r1, List.forall_mem_append.mpr ⟨lw_r2, lw_r3⟩⟩
def RX0 : String := "FoughtFromMemory$Blaze"
def TX0 : u_T := fun k => match k with
  | 0 => ("FoughtFromMemory$Blaze", "catching", "[I", true)
  | 1 => ("FoughtFromMemory$Blaze", "worths", "[I", true)
  | 2 => ("FoughtFromMemory$Blaze", "sayable", "[I", true)
  | 3 => ("FoughtFromMemory$Blaze", "order", "[I", true)
  | 4 => ("FoughtFromMemory$Blaze", "fresh", "[I", true)
  | 5 => ("FoughtFromMemory$Blaze", "burning", "[I", true)
  | 6 => ("FoughtFromMemory$Blaze", "beside", "[I", true)
  | 7 => ("FoughtFromMemory$Blaze", "saidIn", "[I", true)
  | 8 => ("FoughtFromMemory$Blaze", "people", "I", false)
  | 9 => ("FoughtFromMemory$Blaze", "speakers", "I", false)
  | 10 => ("FoughtFromMemory$Blaze", "saidRooms", "I", false)
  | 11 => ("FoughtFromMemory$Blaze", "lastFresh", "I", false)
  | _ => ("FoughtFromMemory$Blaze", "spokenMinutes", "I", false)
def tyX0 : Nat → FieldType := fun k => match k with
  | 0 => .array .int
  | 1 => .array .int
  | 2 => .array .int
  | 3 => .array .int
  | 4 => .array .int
  | 5 => .array .int
  | 6 => .array .int
  | 7 => .array .int
  | 8 => .int
  | 9 => .int
  | 10 => .int
  | 11 => .int
  | _ => .int
abbrev wsX00 : List Cond := u_ws RX0 TX0 13
theorem nmX0 : ∀ a, a < 13 → ∀ b, b < 13 → a ≠ b → (TX0 a).2.1 ≠ (TX0 b).2.1 := by decide +kernel
theorem tyX0_ok : ∀ k, k < 13 → parseFieldDescriptor (TX0 k).2.2.1 = some (tyX0 k) := by decide +kernel
abbrev cX0_init : ByteArray := prog_2_method_1_code
def yX0_init : MethodName := ⟨RX0, "<init>", "()V"⟩
abbrev cX0_lookAt : ByteArray := prog_2_method_2_code
def yX0_lookAt : MethodName := ⟨RX0, "lookAt", "(LFoughtFromMemory$House;)V"⟩
abbrev cX0_letAllSpeak : ByteArray := prog_2_method_3_code
def yX0_letAllSpeak : MethodName := ⟨RX0, "letAllSpeak", "(I)V"⟩
abbrev cX0_letSpeak : ByteArray := prog_2_method_4_code
def yX0_letSpeak : MethodName := ⟨RX0, "letSpeak", "(II)V"⟩
abbrev cX0_burn : ByteArray := prog_2_method_5_code
def yX0_burn : MethodName := ⟨RX0, "burn", "(II)V"⟩
abbrev cX0_speak : ByteArray := prog_2_method_6_code
def yX0_speak : MethodName := ⟨RX0, "speak", "(I)I"⟩
abbrev cX0_sayableBy : ByteArray := prog_2_method_7_code
def yX0_sayableBy : MethodName := ⟨RX0, "sayableBy", "(I)I"⟩
abbrev cX0_dearest : ByteArray := prog_2_method_8_code
def yX0_dearest : MethodName := ⟨RX0, "dearest", "(I)I"⟩
abbrev cX0_spreadFrom : ByteArray := prog_2_method_9_code
def yX0_spreadFrom : MethodName := ⟨RX0, "spreadFrom", "(I)V"⟩
abbrev cX0_caughtIn : ByteArray := prog_2_method_10_code
def yX0_caughtIn : MethodName := ⟨RX0, "caughtIn", "(I)I"⟩
abbrev cX0_isMinute : ByteArray := prog_2_method_11_code
def yX0_isMinute : MethodName := ⟨RX0, "isMinute", "(I)Z"⟩
abbrev cX0_allBeside : ByteArray := prog_2_method_12_code
def yX0_allBeside : MethodName := ⟨RX0, "allBeside", "(I)I"⟩
abbrev cX0_roomsBurnt : ByteArray := prog_2_method_13_code
def yX0_roomsBurnt : MethodName := ⟨RX0, "roomsBurnt", "()I"⟩
abbrev cX0_worthBurnt : ByteArray := prog_2_method_14_code
def yX0_worthBurnt : MethodName := ⟨RX0, "worthBurnt", "()I"⟩
abbrev cX0_burnt : ByteArray := prog_2_method_15_code
def yX0_burnt : MethodName := ⟨RX0, "burnt", "()I"⟩
abbrev cX0_lastMinute : ByteArray := prog_2_method_16_code
def yX0_lastMinute : MethodName := ⟨RX0, "lastMinute", "()I"⟩
abbrev cX0_minuteBurnt : ByteArray := prog_2_method_17_code
def yX0_minuteBurnt : MethodName := ⟨RX0, "minuteBurnt", "(I)I"⟩
abbrev cX0_roomSaidIn : ByteArray := prog_2_method_18_code
def yX0_roomSaidIn : MethodName := ⟨RX0, "roomSaidIn", "(I)I"⟩
abbrev cX0_minuteSaid : ByteArray := prog_2_method_19_code
def yX0_minuteSaid : MethodName := ⟨RX0, "minuteSaid", "(I)I"⟩
abbrev cX0_speakerIn : ByteArray := prog_2_method_20_code
def yX0_speakerIn : MethodName := ⟨RX0, "speakerIn", "(I)I"⟩
abbrev cX0_timesSpoken : ByteArray := prog_2_method_21_code
def yX0_timesSpoken : MethodName := ⟨RX0, "timesSpoken", "(I)I"⟩
def RX1 : String := "FoughtFromMemory$House"
def TX1 : u_T := fun k => match k with
  | 0 => ("FoughtFromMemory$House", "kinds", "[I", true)
  | 1 => ("FoughtFromMemory$House", "figures", "[I", true)
  | 2 => ("FoughtFromMemory$House", "sharps", "[I", true)
  | 3 => ("FoughtFromMemory$House", "known", "[I", true)
  | 4 => ("FoughtFromMemory$House", "people", "I", false)
  | _ => ("FoughtFromMemory$House", "night", "I", false)
def tyX1 : Nat → FieldType := fun k => match k with
  | 0 => .array .int
  | 1 => .array .int
  | 2 => .array .int
  | 3 => .array .int
  | 4 => .int
  | _ => .int
abbrev wsX10 : List Cond := u_ws RX1 TX1 6
theorem nmX1 : ∀ a, a < 6 → ∀ b, b < 6 → a ≠ b → (TX1 a).2.1 ≠ (TX1 b).2.1 := by decide +kernel
theorem tyX1_ok : ∀ k, k < 6 → parseFieldDescriptor (TX1 k).2.2.1 = some (tyX1 k) := by decide +kernel
abbrev cX1_init : ByteArray := prog_3_method_1_code
def yX1_init : MethodName := ⟨RX1, "<init>", "()V"⟩
abbrev cX1_become : ByteArray := prog_3_method_2_code
def yX1_become : MethodName := ⟨RX1, "become", "(LFoughtFromMemory$House;)V"⟩
abbrev cX1_hasPerson : ByteArray := prog_3_method_3_code
def yX1_hasPerson : MethodName := ⟨RX1, "hasPerson", "(I)Z"⟩
abbrev cX1_kindOf : ByteArray := prog_3_method_4_code
def yX1_kindOf : MethodName := ⟨RX1, "kindOf", "(I)I"⟩
abbrev cX1_figureOf : ByteArray := prog_3_method_5_code
def yX1_figureOf : MethodName := ⟨RX1, "figureOf", "(I)I"⟩
abbrev cX1_needsOf : ByteArray := prog_3_method_6_code
def yX1_needsOf : MethodName := ⟨RX1, "needsOf", "(I)I"⟩
abbrev cX1_catchesOf : ByteArray := prog_3_method_7_code
def yX1_catchesOf : MethodName := ⟨RX1, "catchesOf", "(I)I"⟩
abbrev cX1_worthOf : ByteArray := prog_3_method_8_code
def yX1_worthOf : MethodName := ⟨RX1, "worthOf", "(I)I"⟩
abbrev cX1_sharpOf : ByteArray := prog_3_method_9_code
def yX1_sharpOf : MethodName := ⟨RX1, "sharpOf", "(I)I"⟩
abbrev cX1_knownBy : ByteArray := prog_3_method_10_code
def yX1_knownBy : MethodName := ⟨RX1, "knownBy", "(II)I"⟩
abbrev cX1_put : ByteArray := prog_3_method_11_code
def yX1_put : MethodName := ⟨RX1, "put", "(III)V"⟩
abbrev cX1_sharpen : ByteArray := prog_3_method_12_code
def yX1_sharpen : MethodName := ⟨RX1, "sharpen", "(II)V"⟩
abbrev cX1_learn : ByteArray := prog_3_method_13_code
def yX1_learn : MethodName := ⟨RX1, "learn", "(III)V"⟩
abbrev cX1_takeIn : ByteArray := prog_3_method_14_code
def yX1_takeIn : MethodName := ⟨RX1, "takeIn", "(I)Z"⟩
abbrev cX1_passNights : ByteArray := prog_3_method_15_code
def yX1_passNights : MethodName := ⟨RX1, "passNights", "(I)V"⟩
abbrev cX1_forgetSome : ByteArray := prog_3_method_16_code
def yX1_forgetSome : MethodName := ⟨RX1, "forgetSome", "(I)V"⟩
abbrev cX1_roomsSayableBy : ByteArray := prog_3_method_17_code
def yX1_roomsSayableBy : MethodName := ⟨RX1, "roomsSayableBy", "(I)I"⟩
abbrev cX1_sureRooms : ByteArray := prog_3_method_18_code
def yX1_sureRooms : MethodName := ⟨RX1, "sureRooms", "()I"⟩
abbrev cX1_somebodysRooms : ByteArray := prog_3_method_19_code
def yX1_somebodysRooms : MethodName := ⟨RX1, "somebodysRooms", "()I"⟩
abbrev cX1_allWorth : ByteArray := prog_3_method_20_code
def yX1_allWorth : MethodName := ⟨RX1, "allWorth", "()I"⟩
abbrev cX1_walls : ByteArray := prog_3_method_21_code
def yX1_walls : MethodName := ⟨RX1, "walls", "()I"⟩
abbrev cX1_allKnown : ByteArray := prog_3_method_22_code
def yX1_allKnown : MethodName := ⟨RX1, "allKnown", "()I"⟩
def RX2 : String := "FoughtFromMemory$Kinds"
def TX2 : u_T := fun k => match k with
  | _ => ("", "", "", false)
def tyX2 : Nat → FieldType := fun k => match k with
  | _ => .int
abbrev wsX20 : List Cond := u_ws RX2 TX2 0
theorem nmX2 : ∀ a, a < 0 → ∀ b, b < 0 → a ≠ b → (TX2 a).2.1 ≠ (TX2 b).2.1 := by decide +kernel
theorem tyX2_ok : ∀ k, k < 0 → parseFieldDescriptor (TX2 k).2.2.1 = some (tyX2 k) := by decide +kernel
abbrev cX2_needs : ByteArray := prog_4_method_2_code
def yX2_needs : MethodName := ⟨RX2, "needs", "(I)I"⟩
abbrev cX2_catches : ByteArray := prog_4_method_3_code
def yX2_catches : MethodName := ⟨RX2, "catches", "(I)I"⟩
abbrev cX2_worth : ByteArray := prog_4_method_4_code
def yX2_worth : MethodName := ⟨RX2, "worth", "(II)I"⟩
def RX3 : String := "FoughtFromMemory$Numbers"
def TX3 : u_T := fun k => match k with
  | 0 => ("FoughtFromMemory$Numbers", "numbers", "[I", true)
  | _ => ("FoughtFromMemory$Numbers", "told", "I", false)
def tyX3 : Nat → FieldType := fun k => match k with
  | 0 => .array .int
  | _ => .int
abbrev wsX30 : List Cond := u_ws RX3 TX3 2
theorem nmX3 : ∀ a, a < 2 → ∀ b, b < 2 → a ≠ b → (TX3 a).2.1 ≠ (TX3 b).2.1 := by decide +kernel
theorem tyX3_ok : ∀ k, k < 2 → parseFieldDescriptor (TX3 k).2.2.1 = some (tyX3 k) := by decide +kernel
abbrev cX3_init : ByteArray := prog_5_method_1_code
def yX3_init : MethodName := ⟨RX3, "<init>", "(I)V"⟩
abbrev cX3_isFull : ByteArray := prog_5_method_2_code
def yX3_isFull : MethodName := ⟨RX3, "isFull", "()Z"⟩
abbrev cX3_add : ByteArray := prog_5_method_3_code
def yX3_add : MethodName := ⟨RX3, "add", "(I)I"⟩
abbrev cX3_at : ByteArray := prog_5_method_4_code
def yX3_at : MethodName := ⟨RX3, "at", "(I)I"⟩
abbrev cX3_forget : ByteArray := prog_5_method_5_code
def yX3_forget : MethodName := ⟨RX3, "forget", "()V"⟩
def RX4 : String := "FoughtFromMemory$Telling"
def TX4 : u_T := fun k => match k with
  | _ => ("FoughtFromMemory$Telling", "letters", "LFoughtFromMemory$Numbers;", true)
def tyX4 : Nat → FieldType := fun k => match k with
  | _ => .object "FoughtFromMemory$Numbers"
abbrev wsX40 : List Cond := u_ws RX4 TX4 1
theorem nmX4 : ∀ a, a < 1 → ∀ b, b < 1 → a ≠ b → (TX4 a).2.1 ≠ (TX4 b).2.1 := by decide +kernel
theorem tyX4_ok : ∀ k, k < 1 → parseFieldDescriptor (TX4 k).2.2.1 = some (tyX4 k) := by decide +kernel
abbrev cX4_init : ByteArray := prog_6_method_1_code
def yX4_init : MethodName := ⟨RX4, "<init>", "()V"⟩
abbrev cX4_tellTo : ByteArray := prog_6_method_2_code
def yX4_tellTo : MethodName := ⟨RX4, "tellTo", "(LFoughtFromMemory$House;)I"⟩
abbrev cX4_firstStray : ByteArray := prog_6_method_3_code
def yX4_firstStray : MethodName := ⟨RX4, "firstStray", "()I"⟩
abbrev cX4_fittingLetters : ByteArray := prog_6_method_4_code
def yX4_fittingLetters : MethodName := ⟨RX4, "fittingLetters", "(Ljava/lang/String;I)I"⟩
abbrev cX4_fits : ByteArray := prog_6_method_5_code
def yX4_fits : MethodName := ⟨RX4, "fits", "(IC)Z"⟩
abbrev cX4_formOf : ByteArray := prog_6_method_6_code
def yX4_formOf : MethodName := ⟨RX4, "formOf", "(I)Ljava/lang/String;"⟩
abbrev cX4_tellStatement : ByteArray := prog_6_method_7_code
def yX4_tellStatement : MethodName := ⟨RX4, "tellStatement", "(ILFoughtFromMemory$House;)Z"⟩
abbrev cX4_tellThings : ByteArray := prog_6_method_8_code
def yX4_tellThings : MethodName := ⟨RX4, "tellThings", "(IIILFoughtFromMemory$House;)Z"⟩
abbrev cX4_tellKnown : ByteArray := prog_6_method_9_code
def yX4_tellKnown : MethodName := ⟨RX4, "tellKnown", "(ILFoughtFromMemory$House;)Z"⟩
abbrev cX4_tellNights : ByteArray := prog_6_method_10_code
def yX4_tellNights : MethodName := ⟨RX4, "tellNights", "(ILFoughtFromMemory$House;)Z"⟩
abbrev cX4_kindOfLetter : ByteArray := prog_6_method_11_code
def yX4_kindOfLetter : MethodName := ⟨RX4, "kindOfLetter", "(I)I"⟩
abbrev cX4_digitAt : ByteArray := prog_6_method_12_code
def yX4_digitAt : MethodName := ⟨RX4, "digitAt", "(I)I"⟩
abbrev cX4_pairAt : ByteArray := prog_6_method_13_code
def yX4_pairAt : MethodName := ⟨RX4, "pairAt", "(I)I"⟩
def RX5 : String := "FoughtFromMemory"
def TX5 : u_T := fun k => match k with
  | 0 => ("FoughtFromMemory", "house", "LFoughtFromMemory$House;", true)
  | 1 => ("FoughtFromMemory", "kept", "LFoughtFromMemory$House;", true)
  | 2 => ("FoughtFromMemory", "trial", "LFoughtFromMemory$House;", true)
  | 3 => ("FoughtFromMemory", "blaze", "LFoughtFromMemory$Blaze;", true)
  | 4 => ("FoughtFromMemory", "telling", "LFoughtFromMemory$Telling;", true)
  | 5 => ("FoughtFromMemory", "row", "LFoughtFromMemory$Numbers;", true)
  | 6 => ("FoughtFromMemory", "refusals", "[I", true)
  | _ => ("FoughtFromMemory", "imageTaken", "Z", false)
def tyX5 : Nat → FieldType := fun k => match k with
  | 0 => .object "FoughtFromMemory$House"
  | 1 => .object "FoughtFromMemory$House"
  | 2 => .object "FoughtFromMemory$House"
  | 3 => .object "FoughtFromMemory$Blaze"
  | 4 => .object "FoughtFromMemory$Telling"
  | 5 => .object "FoughtFromMemory$Numbers"
  | 6 => .array .int
  | _ => .boolean
abbrev wsX50 : List Cond := u_ws RX5 TX5 8
theorem nmX5 : ∀ a, a < 8 → ∀ b, b < 8 → a ≠ b → (TX5 a).2.1 ≠ (TX5 b).2.1 := by decide +kernel
theorem tyX5_ok : ∀ k, k < 8 → parseFieldDescriptor (TX5 k).2.2.1 = some (tyX5 k) := by decide +kernel
abbrev cX5_init : ByteArray := prog_1_method_1_code
def yX5_init : MethodName := ⟨RX5, "<init>", "()V"⟩
abbrev cX5_letter : ByteArray := prog_1_method_2_code
def yX5_letter : MethodName := ⟨RX5, "letter", "(I)I"⟩
abbrev cX5_house : ByteArray := prog_1_method_3_code
def yX5_house : MethodName := ⟨RX5, "house", "()I"⟩
abbrev cX5_room : ByteArray := prog_1_method_4_code
def yX5_room : MethodName := ⟨RX5, "room", "(II)I"⟩
abbrev cX5_person : ByteArray := prog_1_method_5_code
def yX5_person : MethodName := ⟨RX5, "person", "(II)I"⟩
abbrev cX5_turn : ByteArray := prog_1_method_6_code
def yX5_turn : MethodName := ⟨RX5, "turn", "(III)I"⟩
abbrev cX5_sharp : ByteArray := prog_1_method_7_code
def yX5_sharp : MethodName := ⟨RX5, "sharp", "(II)I"⟩
abbrev cX5_visit : ByteArray := prog_1_method_8_code
def yX5_visit : MethodName := ⟨RX5, "visit", "(III)I"⟩
abbrev cX5_nights : ByteArray := prog_1_method_9_code
def yX5_nights : MethodName := ⟨RX5, "nights", "(I)I"⟩
abbrev cX5_fire : ByteArray := prog_1_method_10_code
def yX5_fire : MethodName := ⟨RX5, "fire", "(III)I"⟩
abbrev cX5_burns : ByteArray := prog_1_method_11_code
def yX5_burns : MethodName := ⟨RX5, "burns", "(III)I"⟩
abbrev cX5_said : ByteArray := prog_1_method_12_code
def yX5_said : MethodName := ⟨RX5, "said", "(IIII)I"⟩
abbrev cX5_talker : ByteArray := prog_1_method_13_code
def yX5_talker : MethodName := ⟨RX5, "talker", "(II)I"⟩
abbrev cX5_alone : ByteArray := prog_1_method_14_code
def yX5_alone : MethodName := ⟨RX5, "alone", "(I)I"⟩
abbrev cX5_bestSpeaker : ByteArray := prog_1_method_15_code
def yX5_bestSpeaker : MethodName := ⟨RX5, "bestSpeaker", "(I)I"⟩
abbrev cX5_worstRoom : ByteArray := prog_1_method_16_code
def yX5_worstRoom : MethodName := ⟨RX5, "worstRoom", "()I"⟩
abbrev cX5_show : ByteArray := prog_1_method_17_code
def yX5_show : MethodName := ⟨RX5, "show", "(II)I"⟩
abbrev cX5_mayWait : ByteArray := prog_1_method_18_code
def yX5_mayWait : MethodName := ⟨RX5, "mayWait", "(I)I"⟩
abbrev cX5_leftOut : ByteArray := prog_1_method_19_code
def yX5_leftOut : MethodName := ⟨RX5, "leftOut", "(I)I"⟩
abbrev cX5_enough : ByteArray := prog_1_method_20_code
def yX5_enough : MethodName := ⟨RX5, "enough", "(I)I"⟩
abbrev cX5_wall : ByteArray := prog_1_method_21_code
def yX5_wall : MethodName := ⟨RX5, "wall", "(I)I"⟩
abbrev cX5_captain : ByteArray := prog_1_method_22_code
def yX5_captain : MethodName := ⟨RX5, "captain", "(III)I"⟩
abbrev cX5_unlike : ByteArray := prog_1_method_23_code
def yX5_unlike : MethodName := ⟨RX5, "unlike", "(III)I"⟩
abbrev cX5_sure : ByteArray := prog_1_method_24_code
def yX5_sure : MethodName := ⟨RX5, "sure", "(I)I"⟩
abbrev cX5_slip : ByteArray := prog_1_method_25_code
def yX5_slip : MethodName := ⟨RX5, "slip", "(IIIII)J"⟩
abbrev cX5_whatWas : ByteArray := prog_1_method_26_code
def yX5_whatWas : MethodName := ⟨RX5, "whatWas", "(III)I"⟩
abbrev cX5_row : ByteArray := prog_1_method_27_code
def yX5_row : MethodName := ⟨RX5, "row", "(I)I"⟩
abbrev cX5_judge : ByteArray := prog_1_method_28_code
def yX5_judge : MethodName := ⟨RX5, "judge", "(I)I"⟩
abbrev cX5_clear : ByteArray := prog_1_method_29_code
def yX5_clear : MethodName := ⟨RX5, "clear", "()I"⟩
abbrev cX5_lots : ByteArray := prog_1_method_30_code
def yX5_lots : MethodName := ⟨RX5, "lots", "(III)I"⟩
abbrev cX5_image : ByteArray := prog_1_method_31_code
def yX5_image : MethodName := ⟨RX5, "image", "()I"⟩
abbrev cX5_on : ByteArray := prog_1_method_32_code
def yX5_on : MethodName := ⟨RX5, "on", "()I"⟩
abbrev cX5_count : ByteArray := prog_1_method_33_code
def yX5_count : MethodName := ⟨RX5, "count", "(I)I"⟩
abbrev cX5_refuse : ByteArray := prog_1_method_34_code
def yX5_refuse : MethodName := ⟨RX5, "refuse", "(I)I"⟩
abbrev cX5_refuseLong : ByteArray := prog_1_method_35_code
def yX5_refuseLong : MethodName := ⟨RX5, "refuseLong", "(I)J"⟩
abbrev cX5_isRoom : ByteArray := prog_1_method_36_code
def yX5_isRoom : MethodName := ⟨RX5, "isRoom", "(I)Z"⟩
abbrev cX5_isPerson : ByteArray := prog_1_method_37_code
def yX5_isPerson : MethodName := ⟨RX5, "isPerson", "(I)Z"⟩
abbrev cX5_isSpeaker : ByteArray := prog_1_method_38_code
def yX5_isSpeaker : MethodName := ⟨RX5, "isSpeaker", "(I)Z"⟩
abbrev cX5_burnAsNow : ByteArray := prog_1_method_39_code
def yX5_burnAsNow : MethodName := ⟨RX5, "burnAsNow", "(II)V"⟩
abbrev cX5_worthIn : ByteArray := prog_1_method_40_code
def yX5_worthIn : MethodName := ⟨RX5, "worthIn", "(LFoughtFromMemory$House;I)I"⟩
abbrev cX5_worthBy : ByteArray := prog_1_method_41_code
def yX5_worthBy : MethodName := ⟨RX5, "worthBy", "(II)I"⟩
abbrev cX5_worthWithOnly : ByteArray := prog_1_method_42_code
def yX5_worthWithOnly : MethodName := ⟨RX5, "worthWithOnly", "(II)I"⟩
abbrev cX5_bestAgainst : ByteArray := prog_1_method_43_code
def yX5_bestAgainst : MethodName := ⟨RX5, "bestAgainst", "(II)I"⟩
abbrev cX5_slipsWithin : ByteArray := prog_1_method_44_code
def yX5_slipsWithin : MethodName := ⟨RX5, "slipsWithin", "(IIII)J"⟩
abbrev cX5_power : ByteArray := prog_1_method_45_code
def yX5_power : MethodName := ⟨RX5, "power", "(II)J"⟩
abbrev cX5_commonDivisor : ByteArray := prog_1_method_46_code
def yX5_commonDivisor : MethodName := ⟨RX5, "commonDivisor", "(JJ)J"⟩
abbrev cX5_burnsAsRowTells : ByteArray := prog_1_method_47_code
def yX5_burnsAsRowTells : MethodName := ⟨RX5, "burnsAsRowTells", "(I)Z"⟩
abbrev cX5_firstOf : ByteArray := prog_1_method_48_code
def yX5_firstOf : MethodName := ⟨RX5, "firstOf", "(I)I"⟩
abbrev cX5_asRowTells : ByteArray := prog_1_method_49_code
def yX5_asRowTells : MethodName := ⟨RX5, "asRowTells", "(I)I"⟩
abbrev cX5_seedAfter : ByteArray := prog_1_method_50_code
def yX5_seedAfter : MethodName := ⟨RX5, "seedAfter", "(I)I"⟩
abbrev cX5_drawn : ByteArray := prog_1_method_51_code
def yX5_drawn : MethodName := ⟨RX5, "drawn", "(II)I"⟩
def RX6 : String := "FoughtFromMemoryModel"
def TX6 : u_T := fun k => match k with
  | 0 => ("FoughtFromMemoryModel", "s", "[I", true)
  | 1 => ("FoughtFromMemoryModel", "m", "[I", true)
  | 2 => ("FoughtFromMemoryModel", "image", "[I", true)
  | 3 => ("FoughtFromMemoryModel", "was", "[I", true)
  | 4 => ("FoughtFromMemoryModel", "hasImage", "Z", false)
  | 5 => ("FoughtFromMemoryModel", "letters", "[I", true)
  | 6 => ("FoughtFromMemoryModel", "row", "[I", true)
  | 7 => ("FoughtFromMemoryModel", "refused", "[I", true)
  | 8 => ("FoughtFromMemoryModel", "letterMany", "I", false)
  | 9 => ("FoughtFromMemoryModel", "rowMany", "I", false)
  | 10 => ("FoughtFromMemoryModel", "burnt", "[I", true)
  | 11 => ("FoughtFromMemoryModel", "soonest", "[I", true)
  | 12 => ("FoughtFromMemoryModel", "saidIn", "[I", true)
  | 13 => ("FoughtFromMemoryModel", "saidBy", "[I", true)
  | 14 => ("FoughtFromMemoryModel", "turns", "[I", true)
  | 15 => ("FoughtFromMemoryModel", "turnMany", "I", false)
  | 16 => ("FoughtFromMemoryModel", "silent", "I", false)
  | 17 => ("FoughtFromMemoryModel", "place", "I", false)
  | 18 => ("FoughtFromMemoryModel", "numbers", "[I", true)
  | _ => ("FoughtFromMemoryModel", "seed", "I", false)
def tyX6 : Nat → FieldType := fun k => match k with
  | 0 => .array .int
  | 1 => .array .int
  | 2 => .array .int
  | 3 => .array .int
  | 4 => .boolean
  | 5 => .array .int
  | 6 => .array .int
  | 7 => .array .int
  | 8 => .int
  | 9 => .int
  | 10 => .array .int
  | 11 => .array .int
  | 12 => .array .int
  | 13 => .array .int
  | 14 => .array .int
  | 15 => .int
  | 16 => .int
  | 17 => .int
  | 18 => .array .int
  | _ => .int
abbrev wsX60 : List Cond := u_ws RX6 TX6 20
theorem nmX6 : ∀ a, a < 20 → ∀ b, b < 20 → a ≠ b → (TX6 a).2.1 ≠ (TX6 b).2.1 := by decide +kernel
theorem tyX6_ok : ∀ k, k < 20 → parseFieldDescriptor (TX6 k).2.2.1 = some (tyX6 k) := by decide +kernel
abbrev cX6_init : ByteArray := prog_8_method_1_code
def yX6_init : MethodName := ⟨RX6, "<init>", "()V"⟩
abbrev cX6_isIn : ByteArray := prog_8_method_2_code
def yX6_isIn : MethodName := ⟨RX6, "isIn", "(III)Z"⟩
abbrev cX6_most : ByteArray := prog_8_method_3_code
def yX6_most : MethodName := ⟨RX6, "most", "(II)I"⟩
abbrev cX6_lays : ByteArray := prog_8_method_4_code
def yX6_lays : MethodName := ⟨RX6, "lays", "([I[I)V"⟩
abbrev cX6_no : ByteArray := prog_8_method_5_code
def yX6_no : MethodName := ⟨RX6, "no", "(I)I"⟩
abbrev cX6_noWide : ByteArray := prog_8_method_6_code
def yX6_noWide : MethodName := ⟨RX6, "noWide", "(I)J"⟩
abbrev cX6_isRoom : ByteArray := prog_8_method_7_code
def yX6_isRoom : MethodName := ⟨RX6, "isRoom", "(I)Z"⟩
abbrev cX6_isPerson : ByteArray := prog_8_method_8_code
def yX6_isPerson : MethodName := ⟨RX6, "isPerson", "(I)Z"⟩
abbrev cX6_isSpeaker : ByteArray := prog_8_method_9_code
def yX6_isSpeaker : MethodName := ⟨RX6, "isSpeaker", "(I)Z"⟩
abbrev cX6_known : ByteArray := prog_8_method_10_code
def yX6_known : MethodName := ⟨RX6, "known", "(II)I"⟩
abbrev cX6_needs : ByteArray := prog_8_method_11_code
def yX6_needs : MethodName := ⟨RX6, "needs", "([II)I"⟩
abbrev cX6_catches : ByteArray := prog_8_method_12_code
def yX6_catches : MethodName := ⟨RX6, "catches", "([II)I"⟩
abbrev cX6_worth : ByteArray := prog_8_method_13_code
def yX6_worth : MethodName := ⟨RX6, "worth", "([II)I"⟩
abbrev cX6_isKnown : ByteArray := prog_8_method_14_code
def yX6_isKnown : MethodName := ⟨RX6, "isKnown", "([III)Z"⟩
abbrev cX6_beside : ByteArray := prog_8_method_15_code
def yX6_beside : MethodName := ⟨RX6, "beside", "(II)I"⟩
abbrev cX6_night : ByteArray := prog_8_method_16_code
def yX6_night : MethodName := ⟨RX6, "night", "([I)V"⟩
abbrev cX6_findsSoonest : ByteArray := prog_8_method_17_code
def yX6_findsSoonest : MethodName := ⟨RX6, "findsSoonest", "([I)V"⟩
abbrev cX6_isGoingOn : ByteArray := prog_8_method_18_code
def yX6_isGoingOn : MethodName := ⟨RX6, "isGoingOn", "()Z"⟩
abbrev cX6_toSay : ByteArray := prog_8_method_19_code
def yX6_toSay : MethodName := ⟨RX6, "toSay", "([II)I"⟩
abbrev cX6_burns : ByteArray := prog_8_method_20_code
def yX6_burns : MethodName := ⟨RX6, "burns", "([II)V"⟩
abbrev cX6_turnsFrom : ByteArray := prog_8_method_21_code
def yX6_turnsFrom : MethodName := ⟨RX6, "turnsFrom", "([III)V"⟩
abbrev cX6_burntMany : ByteArray := prog_8_method_22_code
def yX6_burntMany : MethodName := ⟨RX6, "burntMany", "()I"⟩
abbrev cX6_burntWorth : ByteArray := prog_8_method_23_code
def yX6_burntWorth : MethodName := ⟨RX6, "burntWorth", "([I)I"⟩
abbrev cX6_worthBy : ByteArray := prog_8_method_24_code
def yX6_worthBy : MethodName := ⟨RX6, "worthBy", "([III)I"⟩
abbrev cX6_letter : ByteArray := prog_8_method_25_code
def yX6_letter : MethodName := ⟨RX6, "letter", "(I)I"⟩
abbrev cX6_here : ByteArray := prog_8_method_26_code
def yX6_here : MethodName := ⟨RX6, "here", "()I"⟩
abbrev cX6_readsNumber : ByteArray := prog_8_method_27_code
def yX6_readsNumber : MethodName := ⟨RX6, "readsNumber", "(II)Z"⟩
abbrev cX6_kindBy : ByteArray := prog_8_method_28_code
def yX6_kindBy : MethodName := ⟨RX6, "kindBy", "(I)I"⟩
abbrev cX6_readsKind : ByteArray := prog_8_method_29_code
def yX6_readsKind : MethodName := ⟨RX6, "readsKind", "()Z"⟩
abbrev cX6_readsStatement : ByteArray := prog_8_method_30_code
def yX6_readsStatement : MethodName := ⟨RX6, "readsStatement", "()Z"⟩
abbrev cX6_isDone : ByteArray := prog_8_method_31_code
def yX6_isDone : MethodName := ⟨RX6, "isDone", "(I)Z"⟩
abbrev cX6_house : ByteArray := prog_8_method_32_code
def yX6_house : MethodName := ⟨RX6, "house", "()I"⟩
abbrev cX6_room : ByteArray := prog_8_method_33_code
def yX6_room : MethodName := ⟨RX6, "room", "(II)I"⟩
abbrev cX6_person : ByteArray := prog_8_method_34_code
def yX6_person : MethodName := ⟨RX6, "person", "(II)I"⟩
abbrev cX6_turn : ByteArray := prog_8_method_35_code
def yX6_turn : MethodName := ⟨RX6, "turn", "(III)I"⟩
abbrev cX6_sharp : ByteArray := prog_8_method_36_code
def yX6_sharp : MethodName := ⟨RX6, "sharp", "(II)I"⟩
abbrev cX6_visit : ByteArray := prog_8_method_37_code
def yX6_visit : MethodName := ⟨RX6, "visit", "(III)I"⟩
abbrev cX6_knownMany : ByteArray := prog_8_method_38_code
def yX6_knownMany : MethodName := ⟨RX6, "knownMany", "(Z)I"⟩
abbrev cX6_nights : ByteArray := prog_8_method_39_code
def yX6_nights : MethodName := ⟨RX6, "nights", "(I)I"⟩
abbrev cX6_isFire : ByteArray := prog_8_method_40_code
def yX6_isFire : MethodName := ⟨RX6, "isFire", "(II)Z"⟩
abbrev cX6_burnsBy : ByteArray := prog_8_method_41_code
def yX6_burnsBy : MethodName := ⟨RX6, "burnsBy", "(II)V"⟩
abbrev cX6_fire : ByteArray := prog_8_method_42_code
def yX6_fire : MethodName := ⟨RX6, "fire", "(III)I"⟩
abbrev cX6_burns_ : ByteArray := prog_8_method_43_code
def yX6_burns_ : MethodName := ⟨RX6, "burns", "(III)I"⟩
abbrev cX6_said : ByteArray := prog_8_method_44_code
def yX6_said : MethodName := ⟨RX6, "said", "(IIII)I"⟩
abbrev cX6_talker : ByteArray := prog_8_method_45_code
def yX6_talker : MethodName := ⟨RX6, "talker", "(II)I"⟩
abbrev cX6_alone : ByteArray := prog_8_method_46_code
def yX6_alone : MethodName := ⟨RX6, "alone", "(I)I"⟩
abbrev cX6_bestSpeaker : ByteArray := prog_8_method_47_code
def yX6_bestSpeaker : MethodName := ⟨RX6, "bestSpeaker", "(I)I"⟩
abbrev cX6_worstRoom : ByteArray := prog_8_method_48_code
def yX6_worstRoom : MethodName := ⟨RX6, "worstRoom", "()I"⟩
abbrev cX6_show : ByteArray := prog_8_method_49_code
def yX6_show : MethodName := ⟨RX6, "show", "(II)I"⟩
abbrev cX6_mayWait : ByteArray := prog_8_method_50_code
def yX6_mayWait : MethodName := ⟨RX6, "mayWait", "(I)I"⟩
abbrev cX6_leftOut : ByteArray := prog_8_method_51_code
def yX6_leftOut : MethodName := ⟨RX6, "leftOut", "(I)I"⟩
abbrev cX6_bits : ByteArray := prog_8_method_52_code
def yX6_bits : MethodName := ⟨RX6, "bits", "(I)I"⟩
abbrev cX6_enough : ByteArray := prog_8_method_53_code
def yX6_enough : MethodName := ⟨RX6, "enough", "(I)I"⟩
abbrev cX6_wall : ByteArray := prog_8_method_54_code
def yX6_wall : MethodName := ⟨RX6, "wall", "(I)I"⟩
abbrev cX6_captain : ByteArray := prog_8_method_55_code
def yX6_captain : MethodName := ⟨RX6, "captain", "(III)I"⟩
abbrev cX6_unlike : ByteArray := prog_8_method_56_code
def yX6_unlike : MethodName := ⟨RX6, "unlike", "(III)I"⟩
abbrev cX6_sure : ByteArray := prog_8_method_57_code
def yX6_sure : MethodName := ⟨RX6, "sure", "(I)I"⟩
abbrev cX6_gcd : ByteArray := prog_8_method_58_code
def yX6_gcd : MethodName := ⟨RX6, "gcd", "(JJ)J"⟩
abbrev cX6_partOf : ByteArray := prog_8_method_59_code
def yX6_partOf : MethodName := ⟨RX6, "partOf", "(JJI)J"⟩
abbrev cX6_slip : ByteArray := prog_8_method_60_code
def yX6_slip : MethodName := ⟨RX6, "slip", "(IIIII)J"⟩
abbrev cX6_whatWas : ByteArray := prog_8_method_61_code
def yX6_whatWas : MethodName := ⟨RX6, "whatWas", "(III)I"⟩
abbrev cX6_row : ByteArray := prog_8_method_62_code
def yX6_row : MethodName := ⟨RX6, "row", "(I)I"⟩
abbrev cX6_judge : ByteArray := prog_8_method_63_code
def yX6_judge : MethodName := ⟨RX6, "judge", "(I)I"⟩
abbrev cX6_clear : ByteArray := prog_8_method_64_code
def yX6_clear : MethodName := ⟨RX6, "clear", "()I"⟩
abbrev cX6_drawn : ByteArray := prog_8_method_65_code
def yX6_drawn : MethodName := ⟨RX6, "drawn", "(I)I"⟩
abbrev cX6_lots : ByteArray := prog_8_method_66_code
def yX6_lots : MethodName := ⟨RX6, "lots", "(III)I"⟩
abbrev cX6_image : ByteArray := prog_8_method_67_code
def yX6_image : MethodName := ⟨RX6, "image", "()I"⟩
abbrev cX6_on : ByteArray := prog_8_method_68_code
def yX6_on : MethodName := ⟨RX6, "on", "()I"⟩
abbrev cX6_count : ByteArray := prog_8_method_69_code
def yX6_count : MethodName := ⟨RX6, "count", "(I)I"⟩
def RJ6 : String := "java/lang/Integer"
def TJ6 : u_T := fun k => match k with
  | _ => ("", "", "", false)
def tyJ6 : Nat → FieldType := fun k => match k with
  | _ => .int
abbrev wsJ60 : List Cond := u_ws RJ6 TJ6 0
theorem nmJ6 : ∀ a, a < 0 → ∀ b, b < 0 → a ≠ b → (TJ6 a).2.1 ≠ (TJ6 b).2.1 := by decide +kernel
theorem tyJ6_ok : ∀ k, k < 0 → parseFieldDescriptor (TJ6 k).2.2.1 = some (tyJ6 k) := by decide +kernel
abbrev cJ6_bitCount_0f7a4 : ByteArray := prog_9_method_49_code
def yJ6_bitCount_0f7a4 : MethodName := ⟨RJ6, "bitCount", "(I)I"⟩
def RJ9 : String := "java/lang/Math"
def TJ9 : u_T := fun k => match k with
  | _ => ("", "", "", false)
def tyJ9 : Nat → FieldType := fun k => match k with
  | _ => .int
abbrev wsJ90 : List Cond := u_ws RJ9 TJ9 0
theorem nmJ9 : ∀ a, a < 0 → ∀ b, b < 0 → a ≠ b → (TJ9 a).2.1 ≠ (TJ9 b).2.1 := by decide +kernel
theorem tyJ9_ok : ∀ k, k < 0 → parseFieldDescriptor (TJ9 k).2.2.1 = some (tyJ9 k) := by decide +kernel
abbrev cJ9_floorMod_7cf53 : ByteArray := prog_10_method_50_code
def yJ9_floorMod_7cf53 : MethodName := ⟨RJ9, "floorMod", "(II)I"⟩
abbrev cJ9_max_7cf53 : ByteArray := prog_10_method_65_code
def yJ9_max_7cf53 : MethodName := ⟨RJ9, "max", "(II)I"⟩
abbrev cJ9_min_7cf53 : ByteArray := prog_10_method_69_code
def yJ9_min_7cf53 : MethodName := ⟨RJ9, "min", "(II)I"⟩
def RJ0 : String := "java/lang/String"
def TJ0 : u_T := fun k => match k with
  | _ => ("", "", "", false)
def tyJ0 : Nat → FieldType := fun k => match k with
  | _ => .int
abbrev wsJ00 : List Cond := u_ws RJ0 TJ0 0
theorem nmJ0 : ∀ a, a < 0 → ∀ b, b < 0 → a ≠ b → (TJ0 a).2.1 ≠ (TJ0 b).2.1 := by decide +kernel
theorem tyJ0_ok : ∀ k, k < 0 → parseFieldDescriptor (TJ0 k).2.2.1 = some (tyJ0 k) := by decide +kernel
abbrev cJ0_length_8abf5 : ByteArray := prog_11_method_54_code
def yJ0_length_8abf5 : MethodName := ⟨RJ0, "length", "()I"⟩
abbrev cJ0_isEmpty_aae02 : ByteArray := prog_11_method_55_code
def yJ0_isEmpty_aae02 : MethodName := ⟨RJ0, "isEmpty", "()Z"⟩
abbrev cJ0_charAt_5068e : ByteArray := prog_11_method_56_code
def yJ0_charAt_5068e : MethodName := ⟨RJ0, "charAt", "(I)C"⟩
abbrev cJ0_coder_7d493 : ByteArray := prog_11_method_152_code
def yJ0_coder_7d493 : MethodName := ⟨RJ0, "coder", "()B"⟩
abbrev cJ0_isLatin1_aae02 : ByteArray := prog_11_method_154_code
def yJ0_isLatin1_aae02 : MethodName := ⟨RJ0, "isLatin1", "()Z"⟩
abbrev cJ0_checkIndex_df160 : ByteArray := prog_11_method_155_code
def yJ0_checkIndex_df160 : MethodName := ⟨RJ0, "checkIndex", "(II)V"⟩
def RJ1 : String := "java/lang/StringLatin1"
def TJ1 : u_T := fun k => match k with
  | _ => ("", "", "", false)
def tyJ1 : Nat → FieldType := fun k => match k with
  | _ => .int
abbrev wsJ10 : List Cond := u_ws RJ1 TJ1 0
theorem nmJ1 : ∀ a, a < 0 → ∀ b, b < 0 → a ≠ b → (TJ1 a).2.1 ≠ (TJ1 b).2.1 := by decide +kernel
theorem tyJ1_ok : ∀ k, k < 0 → parseFieldDescriptor (TJ1 k).2.2.1 = some (tyJ1 k) := by decide +kernel
abbrev cJ1_charAt_3b067 : ByteArray := prog_12_method_2_code
def yJ1_charAt_3b067 : MethodName := ⟨RJ1, "charAt", "([BI)C"⟩
def RJ2 : String := "java/lang/StringUTF16"
def TJ2 : u_T := fun k => match k with
  | _ => ("", "", "", false)
def tyJ2 : Nat → FieldType := fun k => match k with
  | _ => .int
abbrev wsJ20 : List Cond := u_ws RJ2 TJ2 0
theorem nmJ2 : ∀ a, a < 0 → ∀ b, b < 0 → a ≠ b → (TJ2 a).2.1 ≠ (TJ2 b).2.1 := by decide +kernel
theorem tyJ2_ok : ∀ k, k < 0 → parseFieldDescriptor (TJ2 k).2.2.1 = some (tyJ2 k) := by decide +kernel
abbrev cJ2_getChar_3b067 : ByteArray := prog_13_method_5_code
def yJ2_getChar_3b067 : MethodName := ⟨RJ2, "getChar", "([BI)C"⟩
abbrev cJ2_length_9d52b : ByteArray := prog_13_method_6_code
def yJ2_length_9d52b : MethodName := ⟨RJ2, "length", "([B)I"⟩
abbrev cJ2_charAt_3b067 : ByteArray := prog_13_method_83_code
def yJ2_charAt_3b067 : MethodName := ⟨RJ2, "charAt", "([BI)C"⟩
abbrev cJ2_checkIndex_2214a : ByteArray := prog_13_method_91_code
def yJ2_checkIndex_2214a : MethodName := ⟨RJ2, "checkIndex", "(I[B)V"⟩
def RJ10 : String := "java/lang/System"
def TJ10 : u_T := fun k => match k with
  | _ => ("", "", "", false)
def tyJ10 : Nat → FieldType := fun k => match k with
  | _ => .int
abbrev wsJ100 : List Cond := u_ws RJ10 TJ10 0
theorem nmJ10 : ∀ a, a < 0 → ∀ b, b < 0 → a ≠ b → (TJ10 a).2.1 ≠ (TJ10 b).2.1 := by decide +kernel
theorem tyJ10_ok : ∀ k, k < 0 → parseFieldDescriptor (TJ10 k).2.2.1 = some (tyJ10 k) := by decide +kernel
def RJ3 : String := "jdk/internal/util/Preconditions"
def TJ3 : u_T := fun k => match k with
  | _ => ("", "", "", false)
def tyJ3 : Nat → FieldType := fun k => match k with
  | _ => .int
abbrev wsJ30 : List Cond := u_ws RJ3 TJ3 0
theorem nmJ3 : ∀ a, a < 0 → ∀ b, b < 0 → a ≠ b → (TJ3 a).2.1 ≠ (TJ3 b).2.1 := by decide +kernel
theorem tyJ3_ok : ∀ k, k < 0 → parseFieldDescriptor (TJ3 k).2.2.1 = some (tyJ3 k) := by decide +kernel
abbrev cJ3_checkIndex_8e157 : ByteArray := prog_15_method_11_code
def yJ3_checkIndex_8e157 : MethodName := ⟨RJ3, "checkIndex", "(IILjava/util/function/BiFunction;)I"⟩
def RL : String := "FoughtFromMemoryLaw"
abbrev cL_law : ByteArray := code
def yL_law : MethodName := ⟨RL, "law", "([I)Z"⟩
abbrev vwCl : List vw_C := [(RX0, TX0, 13), (RX1, TX1, 6), (RX3, TX3, 2), (RX4, TX4, 1), (RX5, TX5, 8), (RX6, TX6, 20)]
