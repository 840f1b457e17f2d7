section
-- ===== PART A: goes FIRST, ahead of the names: the tables' words, and 'selects' of the private methods out of them =====
/-- a private method of a class that the tables say can be made, by its rows of tables_1 -/
def lw_okq (q : MethodName × Nat) : Prop := (q.1.cls ≠ "java/lang/invoke/MethodHandle" ∧ q.1.cls ≠ "java/lang/invoke/VarHandle") ∧ Cond.instantiable q.1.cls q.2 ∈ tables_1 ∧ Cond.privateMethod q.1 ∈ tables_1 ∧ Cond.instanceMethod q.1 ∈ tables_1
theorem lw_p0 : lw_okq (⟨"FoughtFromMemory", "refuse", "(I)I"⟩, 8) := ⟨⟨by decide +kernel, by decide +kernel⟩, List.mem_of_getElem? (i := 16) (by decide +kernel), List.mem_of_getElem? (i := 162) (by decide +kernel), List.mem_of_getElem? (i := 163) (by decide +kernel)⟩
theorem lw_p1 : lw_okq (⟨"FoughtFromMemory$Telling", "firstStray", "()I"⟩, 1) := ⟨⟨by decide +kernel, by decide +kernel⟩, List.mem_of_getElem? (i := 102) (by decide +kernel), List.mem_of_getElem? (i := 189) (by decide +kernel), List.mem_of_getElem? (i := 190) (by decide +kernel)⟩
theorem lw_p2 : lw_okq (⟨"FoughtFromMemory$Telling", "fittingLetters", "(Ljava/lang/String;I)I"⟩, 1) := ⟨⟨by decide +kernel, by decide +kernel⟩, List.mem_of_getElem? (i := 102) (by decide +kernel), List.mem_of_getElem? (i := 206) (by decide +kernel), List.mem_of_getElem? (i := 207) (by decide +kernel)⟩
theorem lw_p3 : lw_okq (⟨"FoughtFromMemory$Telling", "tellStatement", "(ILFoughtFromMemory$House;)Z"⟩, 1) := ⟨⟨by decide +kernel, by decide +kernel⟩, List.mem_of_getElem? (i := 102) (by decide +kernel), List.mem_of_getElem? (i := 269) (by decide +kernel), List.mem_of_getElem? (i := 270) (by decide +kernel)⟩
theorem lw_p4 : lw_okq (⟨"FoughtFromMemory$Telling", "pairAt", "(I)I"⟩, 1) := ⟨⟨by decide +kernel, by decide +kernel⟩, List.mem_of_getElem? (i := 102) (by decide +kernel), List.mem_of_getElem? (i := 273) (by decide +kernel), List.mem_of_getElem? (i := 274) (by decide +kernel)⟩
theorem lw_p5 : lw_okq (⟨"FoughtFromMemory$Telling", "digitAt", "(I)I"⟩, 1) := ⟨⟨by decide +kernel, by decide +kernel⟩, List.mem_of_getElem? (i := 102) (by decide +kernel), List.mem_of_getElem? (i := 277) (by decide +kernel), List.mem_of_getElem? (i := 278) (by decide +kernel)⟩
theorem lw_p6 : lw_okq (⟨"FoughtFromMemory$Telling", "tellThings", "(IIILFoughtFromMemory$House;)Z"⟩, 1) := ⟨⟨by decide +kernel, by decide +kernel⟩, List.mem_of_getElem? (i := 102) (by decide +kernel), List.mem_of_getElem? (i := 281) (by decide +kernel), List.mem_of_getElem? (i := 282) (by decide +kernel)⟩
theorem lw_p7 : lw_okq (⟨"FoughtFromMemory$Telling", "tellKnown", "(ILFoughtFromMemory$House;)Z"⟩, 1) := ⟨⟨by decide +kernel, by decide +kernel⟩, List.mem_of_getElem? (i := 102) (by decide +kernel), List.mem_of_getElem? (i := 308) (by decide +kernel), List.mem_of_getElem? (i := 309) (by decide +kernel)⟩
theorem lw_p8 : lw_okq (⟨"FoughtFromMemory$House", "forgetSome", "(I)V"⟩, 6) := ⟨⟨by decide +kernel, by decide +kernel⟩, List.mem_of_getElem? (i := 24) (by decide +kernel), List.mem_of_getElem? (i := 325) (by decide +kernel), List.mem_of_getElem? (i := 326) (by decide +kernel)⟩
theorem lw_p9 : lw_okq (⟨"FoughtFromMemory", "isPerson", "(I)Z"⟩, 8) := ⟨⟨by decide +kernel, by decide +kernel⟩, List.mem_of_getElem? (i := 16) (by decide +kernel), List.mem_of_getElem? (i := 375) (by decide +kernel), List.mem_of_getElem? (i := 376) (by decide +kernel)⟩
theorem lw_p10 : lw_okq (⟨"FoughtFromMemory", "isSpeaker", "(I)Z"⟩, 8) := ⟨⟨by decide +kernel, by decide +kernel⟩, List.mem_of_getElem? (i := 16) (by decide +kernel), List.mem_of_getElem? (i := 424) (by decide +kernel), List.mem_of_getElem? (i := 425) (by decide +kernel)⟩
theorem lw_p11 : lw_okq (⟨"FoughtFromMemory", "burnAsNow", "(II)V"⟩, 8) := ⟨⟨by decide +kernel, by decide +kernel⟩, List.mem_of_getElem? (i := 16) (by decide +kernel), List.mem_of_getElem? (i := 428) (by decide +kernel), List.mem_of_getElem? (i := 429) (by decide +kernel)⟩
theorem lw_p12 : lw_okq (⟨"FoughtFromMemory$Blaze", "spreadFrom", "(I)V"⟩, 13) := ⟨⟨by decide +kernel, by decide +kernel⟩, List.mem_of_getElem? (i := 56) (by decide +kernel), List.mem_of_getElem? (i := 463) (by decide +kernel), List.mem_of_getElem? (i := 464) (by decide +kernel)⟩
theorem lw_p13 : lw_okq (⟨"FoughtFromMemory$Blaze", "caughtIn", "(I)I"⟩, 13) := ⟨⟨by decide +kernel, by decide +kernel⟩, List.mem_of_getElem? (i := 56) (by decide +kernel), List.mem_of_getElem? (i := 467) (by decide +kernel), List.mem_of_getElem? (i := 468) (by decide +kernel)⟩
theorem lw_p14 : lw_okq (⟨"FoughtFromMemory$Blaze", "speak", "(I)I"⟩, 13) := ⟨⟨by decide +kernel, by decide +kernel⟩, List.mem_of_getElem? (i := 56) (by decide +kernel), List.mem_of_getElem? (i := 471) (by decide +kernel), List.mem_of_getElem? (i := 472) (by decide +kernel)⟩
theorem lw_p15 : lw_okq (⟨"FoughtFromMemory$Blaze", "sayableBy", "(I)I"⟩, 13) := ⟨⟨by decide +kernel, by decide +kernel⟩, List.mem_of_getElem? (i := 56) (by decide +kernel), List.mem_of_getElem? (i := 479) (by decide +kernel), List.mem_of_getElem? (i := 480) (by decide +kernel)⟩
def lw_privs_1 : List (MethodName × Nat) := [(⟨"FoughtFromMemory", "refuse", "(I)I"⟩, 8), (⟨"FoughtFromMemory$Telling", "firstStray", "()I"⟩, 1), (⟨"FoughtFromMemory$Telling", "fittingLetters", "(Ljava/lang/String;I)I"⟩, 1), (⟨"FoughtFromMemory$Telling", "tellStatement", "(ILFoughtFromMemory$House;)Z"⟩, 1), (⟨"FoughtFromMemory$Telling", "pairAt", "(I)I"⟩, 1), (⟨"FoughtFromMemory$Telling", "digitAt", "(I)I"⟩, 1), (⟨"FoughtFromMemory$Telling", "tellThings", "(IIILFoughtFromMemory$House;)Z"⟩, 1), (⟨"FoughtFromMemory$Telling", "tellKnown", "(ILFoughtFromMemory$House;)Z"⟩, 1), (⟨"FoughtFromMemory$House", "forgetSome", "(I)V"⟩, 6), (⟨"FoughtFromMemory", "isPerson", "(I)Z"⟩, 8), (⟨"FoughtFromMemory", "isSpeaker", "(I)Z"⟩, 8), (⟨"FoughtFromMemory", "burnAsNow", "(II)V"⟩, 8), (⟨"FoughtFromMemory$Blaze", "spreadFrom", "(I)V"⟩, 13), (⟨"FoughtFromMemory$Blaze", "caughtIn", "(I)I"⟩, 13), (⟨"FoughtFromMemory$Blaze", "speak", "(I)I"⟩, 13), (⟨"FoughtFromMemory$Blaze", "sayableBy", "(I)I"⟩, 13)]
theorem lw_r1 : ∀ q ∈ lw_privs_1, lw_okq q := List.forall_mem_cons.mpr ⟨lw_p0, List.forall_mem_cons.mpr ⟨lw_p1, List.forall_mem_cons.mpr ⟨lw_p2, List.forall_mem_cons.mpr ⟨lw_p3, List.forall_mem_cons.mpr ⟨lw_p4, List.forall_mem_cons.mpr ⟨lw_p5, List.forall_mem_cons.mpr ⟨lw_p6, List.forall_mem_cons.mpr ⟨lw_p7, List.forall_mem_cons.mpr ⟨lw_p8, List.forall_mem_cons.mpr ⟨lw_p9, List.forall_mem_cons.mpr ⟨lw_p10, List.forall_mem_cons.mpr ⟨lw_p11, List.forall_mem_cons.mpr ⟨lw_p12, List.forall_mem_cons.mpr ⟨lw_p13, List.forall_mem_cons.mpr ⟨lw_p14, List.forall_mem_cons.mpr ⟨lw_p15, fun _ h => absurd h List.not_mem_nil⟩⟩⟩⟩⟩⟩⟩⟩⟩⟩⟩⟩⟩⟩⟩⟩
theorem lw_p16 : lw_okq (⟨"FoughtFromMemory$Blaze", "dearest", "(I)I"⟩, 13) := ⟨⟨by decide +kernel, by decide +kernel⟩, List.mem_of_getElem? (i := 56) (by decide +kernel), List.mem_of_getElem? (i := 483) (by decide +kernel), List.mem_of_getElem? (i := 484) (by decide +kernel)⟩
theorem lw_p17 : lw_okq (⟨"FoughtFromMemory$Blaze", "burnt", "()I"⟩, 13) := ⟨⟨by decide +kernel, by decide +kernel⟩, List.mem_of_getElem? (i := 56) (by decide +kernel), List.mem_of_getElem? (i := 491) (by decide +kernel), List.mem_of_getElem? (i := 492) (by decide +kernel)⟩
theorem lw_p18 : lw_okq (⟨"FoughtFromMemory", "worthWithOnly", "(II)I"⟩, 8) := ⟨⟨by decide +kernel, by decide +kernel⟩, List.mem_of_getElem? (i := 16) (by decide +kernel), List.mem_of_getElem? (i := 533) (by decide +kernel), List.mem_of_getElem? (i := 534) (by decide +kernel)⟩
theorem lw_p19 : lw_okq (⟨"FoughtFromMemory", "bestAgainst", "(II)I"⟩, 8) := ⟨⟨by decide +kernel, by decide +kernel⟩, List.mem_of_getElem? (i := 16) (by decide +kernel), List.mem_of_getElem? (i := 542) (by decide +kernel), List.mem_of_getElem? (i := 543) (by decide +kernel)⟩
theorem lw_p20 : lw_okq (⟨"FoughtFromMemory", "worthBy", "(II)I"⟩, 8) := ⟨⟨by decide +kernel, by decide +kernel⟩, List.mem_of_getElem? (i := 16) (by decide +kernel), List.mem_of_getElem? (i := 546) (by decide +kernel), List.mem_of_getElem? (i := 547) (by decide +kernel)⟩
theorem lw_p21 : lw_okq (⟨"FoughtFromMemory", "worthIn", "(LFoughtFromMemory$House;I)I"⟩, 8) := ⟨⟨by decide +kernel, by decide +kernel⟩, List.mem_of_getElem? (i := 16) (by decide +kernel), List.mem_of_getElem? (i := 559) (by decide +kernel), List.mem_of_getElem? (i := 560) (by decide +kernel)⟩
theorem lw_p22 : lw_okq (⟨"FoughtFromMemory", "refuseLong", "(I)J"⟩, 8) := ⟨⟨by decide +kernel, by decide +kernel⟩, List.mem_of_getElem? (i := 16) (by decide +kernel), List.mem_of_getElem? (i := 604) (by decide +kernel), List.mem_of_getElem? (i := 605) (by decide +kernel)⟩
theorem lw_p23 : lw_okq (⟨"FoughtFromMemory", "slipsWithin", "(IIII)J"⟩, 8) := ⟨⟨by decide +kernel, by decide +kernel⟩, List.mem_of_getElem? (i := 16) (by decide +kernel), List.mem_of_getElem? (i := 609) (by decide +kernel), List.mem_of_getElem? (i := 610) (by decide +kernel)⟩
theorem lw_p24 : lw_okq (⟨"FoughtFromMemory", "burnsAsRowTells", "(I)Z"⟩, 8) := ⟨⟨by decide +kernel, by decide +kernel⟩, List.mem_of_getElem? (i := 16) (by decide +kernel), List.mem_of_getElem? (i := 623) (by decide +kernel), List.mem_of_getElem? (i := 624) (by decide +kernel)⟩
theorem lw_p25 : lw_okq (⟨"FoughtFromMemoryModel", "no", "(I)I"⟩, 20) := ⟨⟨by decide +kernel, by decide +kernel⟩, List.mem_of_getElem? (i := 686) (by decide +kernel), List.mem_of_getElem? (i := 757) (by decide +kernel), List.mem_of_getElem? (i := 758) (by decide +kernel)⟩
theorem lw_p26 : lw_okq (⟨"FoughtFromMemoryModel", "readsStatement", "()Z"⟩, 20) := ⟨⟨by decide +kernel, by decide +kernel⟩, List.mem_of_getElem? (i := 686) (by decide +kernel), List.mem_of_getElem? (i := 765) (by decide +kernel), List.mem_of_getElem? (i := 766) (by decide +kernel)⟩
theorem lw_p27 : lw_okq (⟨"FoughtFromMemoryModel", "here", "()I"⟩, 20) := ⟨⟨by decide +kernel, by decide +kernel⟩, List.mem_of_getElem? (i := 686) (by decide +kernel), List.mem_of_getElem? (i := 769) (by decide +kernel), List.mem_of_getElem? (i := 770) (by decide +kernel)⟩
theorem lw_p28 : lw_okq (⟨"FoughtFromMemoryModel", "readsKind", "()Z"⟩, 20) := ⟨⟨by decide +kernel, by decide +kernel⟩, List.mem_of_getElem? (i := 686) (by decide +kernel), List.mem_of_getElem? (i := 773) (by decide +kernel), List.mem_of_getElem? (i := 774) (by decide +kernel)⟩
theorem lw_p29 : lw_okq (⟨"FoughtFromMemoryModel", "readsNumber", "(II)Z"⟩, 20) := ⟨⟨by decide +kernel, by decide +kernel⟩, List.mem_of_getElem? (i := 686) (by decide +kernel), List.mem_of_getElem? (i := 780) (by decide +kernel), List.mem_of_getElem? (i := 781) (by decide +kernel)⟩
theorem lw_p30 : lw_okq (⟨"FoughtFromMemoryModel", "isDone", "(I)Z"⟩, 20) := ⟨⟨by decide +kernel, by decide +kernel⟩, List.mem_of_getElem? (i := 686) (by decide +kernel), List.mem_of_getElem? (i := 790) (by decide +kernel), List.mem_of_getElem? (i := 791) (by decide +kernel)⟩
theorem lw_p31 : lw_okq (⟨"FoughtFromMemoryModel", "isPerson", "(I)Z"⟩, 20) := ⟨⟨by decide +kernel, by decide +kernel⟩, List.mem_of_getElem? (i := 686) (by decide +kernel), List.mem_of_getElem? (i := 800) (by decide +kernel), List.mem_of_getElem? (i := 801) (by decide +kernel)⟩
def lw_privs_2 : List (MethodName × Nat) := [(⟨"FoughtFromMemory$Blaze", "dearest", "(I)I"⟩, 13), (⟨"FoughtFromMemory$Blaze", "burnt", "()I"⟩, 13), (⟨"FoughtFromMemory", "worthWithOnly", "(II)I"⟩, 8), (⟨"FoughtFromMemory", "bestAgainst", "(II)I"⟩, 8), (⟨"FoughtFromMemory", "worthBy", "(II)I"⟩, 8), (⟨"FoughtFromMemory", "worthIn", "(LFoughtFromMemory$House;I)I"⟩, 8), (⟨"FoughtFromMemory", "refuseLong", "(I)J"⟩, 8), (⟨"FoughtFromMemory", "slipsWithin", "(IIII)J"⟩, 8), (⟨"FoughtFromMemory", "burnsAsRowTells", "(I)Z"⟩, 8), (⟨"FoughtFromMemoryModel", "no", "(I)I"⟩, 20), (⟨"FoughtFromMemoryModel", "readsStatement", "()Z"⟩, 20), (⟨"FoughtFromMemoryModel", "here", "()I"⟩, 20), (⟨"FoughtFromMemoryModel", "readsKind", "()Z"⟩, 20), (⟨"FoughtFromMemoryModel", "readsNumber", "(II)Z"⟩, 20), (⟨"FoughtFromMemoryModel", "isDone", "(I)Z"⟩, 20), (⟨"FoughtFromMemoryModel", "isPerson", "(I)Z"⟩, 20)]
theorem lw_r2 : ∀ q ∈ lw_privs_2, lw_okq q := List.forall_mem_cons.mpr ⟨lw_p16, List.forall_mem_cons.mpr ⟨lw_p17, List.forall_mem_cons.mpr ⟨lw_p18, List.forall_mem_cons.mpr ⟨lw_p19, List.forall_mem_cons.mpr ⟨lw_p20, List.forall_mem_cons.mpr ⟨lw_p21, List.forall_mem_cons.mpr ⟨lw_p22, List.forall_mem_cons.mpr ⟨lw_p23, List.forall_mem_cons.mpr ⟨lw_p24, List.forall_mem_cons.mpr ⟨lw_p25, List.forall_mem_cons.mpr ⟨lw_p26, List.forall_mem_cons.mpr ⟨lw_p27, List.forall_mem_cons.mpr ⟨lw_p28, List.forall_mem_cons.mpr ⟨lw_p29, List.forall_mem_cons.mpr ⟨lw_p30, List.forall_mem_cons.mpr ⟨lw_p31, fun _ h => absurd h List.not_mem_nil⟩⟩⟩⟩⟩⟩⟩⟩⟩⟩⟩⟩⟩⟩⟩⟩
theorem lw_p32 : lw_okq (⟨"FoughtFromMemoryModel", "knownMany", "(Z)I"⟩, 20) := ⟨⟨by decide +kernel, by decide +kernel⟩, List.mem_of_getElem? (i := 686) (by decide +kernel), List.mem_of_getElem? (i := 844) (by decide +kernel), List.mem_of_getElem? (i := 845) (by decide +kernel)⟩
theorem lw_p33 : lw_okq (⟨"FoughtFromMemoryModel", "isFire", "(II)Z"⟩, 20) := ⟨⟨by decide +kernel, by decide +kernel⟩, List.mem_of_getElem? (i := 686) (by decide +kernel), List.mem_of_getElem? (i := 855) (by decide +kernel), List.mem_of_getElem? (i := 856) (by decide +kernel)⟩
theorem lw_p34 : lw_okq (⟨"FoughtFromMemoryModel", "isSpeaker", "(I)Z"⟩, 20) := ⟨⟨by decide +kernel, by decide +kernel⟩, List.mem_of_getElem? (i := 686) (by decide +kernel), List.mem_of_getElem? (i := 859) (by decide +kernel), List.mem_of_getElem? (i := 860) (by decide +kernel)⟩
theorem lw_p35 : lw_okq (⟨"FoughtFromMemoryModel", "burnsBy", "(II)V"⟩, 20) := ⟨⟨by decide +kernel, by decide +kernel⟩, List.mem_of_getElem? (i := 686) (by decide +kernel), List.mem_of_getElem? (i := 863) (by decide +kernel), List.mem_of_getElem? (i := 864) (by decide +kernel)⟩
theorem lw_p36 : lw_okq (⟨"FoughtFromMemoryModel", "turnsFrom", "([III)V"⟩, 20) := ⟨⟨by decide +kernel, by decide +kernel⟩, List.mem_of_getElem? (i := 686) (by decide +kernel), List.mem_of_getElem? (i := 867) (by decide +kernel), List.mem_of_getElem? (i := 868) (by decide +kernel)⟩
theorem lw_p37 : lw_okq (⟨"FoughtFromMemoryModel", "burns", "([II)V"⟩, 20) := ⟨⟨by decide +kernel, by decide +kernel⟩, List.mem_of_getElem? (i := 686) (by decide +kernel), List.mem_of_getElem? (i := 871) (by decide +kernel), List.mem_of_getElem? (i := 872) (by decide +kernel)⟩
theorem lw_p38 : lw_okq (⟨"FoughtFromMemoryModel", "findsSoonest", "([I)V"⟩, 20) := ⟨⟨by decide +kernel, by decide +kernel⟩, List.mem_of_getElem? (i := 686) (by decide +kernel), List.mem_of_getElem? (i := 875) (by decide +kernel), List.mem_of_getElem? (i := 876) (by decide +kernel)⟩
theorem lw_p39 : lw_okq (⟨"FoughtFromMemoryModel", "isGoingOn", "()Z"⟩, 20) := ⟨⟨by decide +kernel, by decide +kernel⟩, List.mem_of_getElem? (i := 686) (by decide +kernel), List.mem_of_getElem? (i := 882) (by decide +kernel), List.mem_of_getElem? (i := 883) (by decide +kernel)⟩
theorem lw_p40 : lw_okq (⟨"FoughtFromMemoryModel", "toSay", "([II)I"⟩, 20) := ⟨⟨by decide +kernel, by decide +kernel⟩, List.mem_of_getElem? (i := 686) (by decide +kernel), List.mem_of_getElem? (i := 886) (by decide +kernel), List.mem_of_getElem? (i := 887) (by decide +kernel)⟩
theorem lw_p41 : lw_okq (⟨"FoughtFromMemoryModel", "burntMany", "()I"⟩, 20) := ⟨⟨by decide +kernel, by decide +kernel⟩, List.mem_of_getElem? (i := 686) (by decide +kernel), List.mem_of_getElem? (i := 890) (by decide +kernel), List.mem_of_getElem? (i := 891) (by decide +kernel)⟩
theorem lw_p42 : lw_okq (⟨"FoughtFromMemoryModel", "burntWorth", "([I)I"⟩, 20) := ⟨⟨by decide +kernel, by decide +kernel⟩, List.mem_of_getElem? (i := 686) (by decide +kernel), List.mem_of_getElem? (i := 894) (by decide +kernel), List.mem_of_getElem? (i := 895) (by decide +kernel)⟩
theorem lw_p43 : lw_okq (⟨"FoughtFromMemoryModel", "worthBy", "([III)I"⟩, 20) := ⟨⟨by decide +kernel, by decide +kernel⟩, List.mem_of_getElem? (i := 686) (by decide +kernel), List.mem_of_getElem? (i := 918) (by decide +kernel), List.mem_of_getElem? (i := 919) (by decide +kernel)⟩
theorem lw_p44 : lw_okq (⟨"FoughtFromMemoryModel", "noWide", "(I)J"⟩, 20) := ⟨⟨by decide +kernel, by decide +kernel⟩, List.mem_of_getElem? (i := 686) (by decide +kernel), List.mem_of_getElem? (i := 965) (by decide +kernel), List.mem_of_getElem? (i := 966) (by decide +kernel)⟩
theorem lw_p45 : lw_okq (⟨"FoughtFromMemoryModel", "drawn", "(I)I"⟩, 20) := ⟨⟨by decide +kernel, by decide +kernel⟩, List.mem_of_getElem? (i := 686) (by decide +kernel), List.mem_of_getElem? (i := 996) (by decide +kernel), List.mem_of_getElem? (i := 997) (by decide +kernel)⟩
def lw_privs_3 : List (MethodName × Nat) := [(⟨"FoughtFromMemoryModel", "knownMany", "(Z)I"⟩, 20), (⟨"FoughtFromMemoryModel", "isFire", "(II)Z"⟩, 20), (⟨"FoughtFromMemoryModel", "isSpeaker", "(I)Z"⟩, 20), (⟨"FoughtFromMemoryModel", "burnsBy", "(II)V"⟩, 20), (⟨"FoughtFromMemoryModel", "turnsFrom", "([III)V"⟩, 20), (⟨"FoughtFromMemoryModel", "burns", "([II)V"⟩, 20), (⟨"FoughtFromMemoryModel", "findsSoonest", "([I)V"⟩, 20), (⟨"FoughtFromMemoryModel", "isGoingOn", "()Z"⟩, 20), (⟨"FoughtFromMemoryModel", "toSay", "([II)I"⟩, 20), (⟨"FoughtFromMemoryModel", "burntMany", "()I"⟩, 20), (⟨"FoughtFromMemoryModel", "burntWorth", "([I)I"⟩, 20), (⟨"FoughtFromMemoryModel", "worthBy", "([III)I"⟩, 20), (⟨"FoughtFromMemoryModel", "noWide", "(I)J"⟩, 20), (⟨"FoughtFromMemoryModel", "drawn", "(I)I"⟩, 20)]
theorem lw_r3 : ∀ q ∈ lw_privs_3, lw_okq q := List.forall_mem_cons.mpr ⟨lw_p32, List.forall_mem_cons.mpr ⟨lw_p33, List.forall_mem_cons.mpr ⟨lw_p34, List.forall_mem_cons.mpr ⟨lw_p35, List.forall_mem_cons.mpr ⟨lw_p36, List.forall_mem_cons.mpr ⟨lw_p37, List.forall_mem_cons.mpr ⟨lw_p38, List.forall_mem_cons.mpr ⟨lw_p39, List.forall_mem_cons.mpr ⟨lw_p40, List.forall_mem_cons.mpr ⟨lw_p41, List.forall_mem_cons.mpr ⟨lw_p42, List.forall_mem_cons.mpr ⟨lw_p43, List.forall_mem_cons.mpr ⟨lw_p44, List.forall_mem_cons.mpr ⟨lw_p45, fun _ h => absurd h List.not_mem_nil⟩⟩⟩⟩⟩⟩⟩⟩⟩⟩⟩⟩⟩⟩
def lw_privs : List (MethodName × Nat) := lw_privs_1 ++ (lw_privs_2 ++ (lw_privs_3))
def lw_tbl : List Cond := k2_sels lw_privs ++ tables_1
theorem lw_privs_ok : ∀ q ∈ lw_privs, lw_okq q := by
  show ∀ q ∈ lw_privs_1 ++ (lw_privs_2 ++ (lw_privs_3)), lw_okq q
  exact List.forall_mem_append.mpr ⟨lw_r1, List.forall_mem_append.mpr ⟨lw_r2, lw_r3⟩⟩
def RX0 : String := "FoughtFromMemory$Blaze"
def TX0 : u_T := fun k => match k with
  | 0 => ("FoughtFromMemory$Blaze", "catching", "[I", true)
  | 1 => ("FoughtFromMemory$Blaze", "worths", "[I", true)
  | 2 => ("FoughtFromMemory$Blaze", "sayable", "[I", true)
  | 3 => ("FoughtFromMemory$Blaze", "order", "[I", true)
  | 4 => ("FoughtFromMemory$Blaze", "fresh", "[I", true)
  | 5 => ("FoughtFromMemory$Blaze", "burning", "[I", true)
  | 6 => ("FoughtFromMemory$Blaze", "beside", "[I", true)
  | 7 => ("FoughtFromMemory$Blaze", "saidIn", "[I", true)
  | 8 => ("FoughtFromMemory$Blaze", "people", "I", false)
  | 9 => ("FoughtFromMemory$Blaze", "speakers", "I", false)
  | 10 => ("FoughtFromMemory$Blaze", "saidRooms", "I", false)
  | 11 => ("FoughtFromMemory$Blaze", "lastFresh", "I", false)
  | _ => ("FoughtFromMemory$Blaze", "spokenMinutes", "I", false)
def tyX0 : Nat → FieldType := fun k => match k with
  | 0 => .array .int
  | 1 => .array .int
  | 2 => .array .int
  | 3 => .array .int
  | 4 => .array .int
  | 5 => .array .int
  | 6 => .array .int
  | 7 => .array .int
  | 8 => .int
  | 9 => .int
  | 10 => .int
  | 11 => .int
  | _ => .int
abbrev wsX00 : List Cond := u_ws RX0 TX0 13
theorem nmX0 : ∀ a, a < 13 → ∀ b, b < 13 → a ≠ b → (TX0 a).2.1 ≠ (TX0 b).2.1 := by decide +kernel
theorem tyX0_ok : ∀ k, k < 13 → parseFieldDescriptor (TX0 k).2.2.1 = some (tyX0 k) := by decide +kernel
abbrev cX0_init : ByteArray := prog_2_method_1_code
def yX0_init : MethodName := ⟨RX0, "<init>", "()V"⟩
abbrev cX0_lookAt : ByteArray := prog_2_method_2_code
def yX0_lookAt : MethodName := ⟨RX0, "lookAt", "(LFoughtFromMemory$House;)V"⟩
abbrev cX0_letAllSpeak : ByteArray := prog_2_method_3_code
def yX0_letAllSpeak : MethodName := ⟨RX0, "letAllSpeak", "(I)V"⟩
abbrev cX0_letSpeak : ByteArray := prog_2_method_4_code
def yX0_letSpeak : MethodName := ⟨RX0, "letSpeak", "(II)V"⟩
abbrev cX0_burn : ByteArray := prog_2_method_5_code
def yX0_burn : MethodName := ⟨RX0, "burn", "(II)V"⟩
abbrev cX0_speak : ByteArray := prog_2_method_6_code
def yX0_speak : MethodName := ⟨RX0, "speak", "(I)I"⟩
abbrev cX0_sayableBy : ByteArray := prog_2_method_7_code
def yX0_sayableBy : MethodName := ⟨RX0, "sayableBy", "(I)I"⟩
abbrev cX0_dearest : ByteArray := prog_2_method_8_code
def yX0_dearest : MethodName := ⟨RX0, "dearest", "(I)I"⟩
abbrev cX0_spreadFrom : ByteArray := prog_2_method_9_code
def yX0_spreadFrom : MethodName := ⟨RX0, "spreadFrom", "(I)V"⟩
abbrev cX0_caughtIn : ByteArray := prog_2_method_10_code
def yX0_caughtIn : MethodName := ⟨RX0, "caughtIn", "(I)I"⟩
abbrev cX0_allBeside : ByteArray := prog_2_method_11_code
def yX0_allBeside : MethodName := ⟨RX0, "allBeside", "(I)I"⟩
abbrev cX0_roomsBurnt : ByteArray := prog_2_method_12_code
def yX0_roomsBurnt : MethodName := ⟨RX0, "roomsBurnt", "()I"⟩
abbrev cX0_worthBurnt : ByteArray := prog_2_method_13_code
def yX0_worthBurnt : MethodName := ⟨RX0, "worthBurnt", "()I"⟩
abbrev cX0_burnt : ByteArray := prog_2_method_14_code
def yX0_burnt : MethodName := ⟨RX0, "burnt", "()I"⟩
abbrev cX0_lastMinute : ByteArray := prog_2_method_15_code
def yX0_lastMinute : MethodName := ⟨RX0, "lastMinute", "()I"⟩
abbrev cX0_minuteBurnt : ByteArray := prog_2_method_16_code
def yX0_minuteBurnt : MethodName := ⟨RX0, "minuteBurnt", "(I)I"⟩
abbrev cX0_roomSaidIn : ByteArray := prog_2_method_17_code
def yX0_roomSaidIn : MethodName := ⟨RX0, "roomSaidIn", "(I)I"⟩
abbrev cX0_minuteSaid : ByteArray := prog_2_method_18_code
def yX0_minuteSaid : MethodName := ⟨RX0, "minuteSaid", "(I)I"⟩
abbrev cX0_speakerIn : ByteArray := prog_2_method_19_code
def yX0_speakerIn : MethodName := ⟨RX0, "speakerIn", "(I)I"⟩
abbrev cX0_timesSpoken : ByteArray := prog_2_method_20_code
def yX0_timesSpoken : MethodName := ⟨RX0, "timesSpoken", "(I)I"⟩
def RX1 : String := "FoughtFromMemory$House"
def TX1 : u_T := fun k => match k with
  | 0 => ("FoughtFromMemory$House", "kinds", "[I", true)
  | 1 => ("FoughtFromMemory$House", "figures", "[I", true)
  | 2 => ("FoughtFromMemory$House", "sharps", "[I", true)
  | 3 => ("FoughtFromMemory$House", "known", "[I", true)
  | 4 => ("FoughtFromMemory$House", "people", "I", false)
  | _ => ("FoughtFromMemory$House", "night", "I", false)
def tyX1 : Nat → FieldType := fun k => match k with
  | 0 => .array .int
  | 1 => .array .int
  | 2 => .array .int
  | 3 => .array .int
  | 4 => .int
  | _ => .int
abbrev wsX10 : List Cond := u_ws RX1 TX1 6
theorem nmX1 : ∀ a, a < 6 → ∀ b, b < 6 → a ≠ b → (TX1 a).2.1 ≠ (TX1 b).2.1 := by decide +kernel
theorem tyX1_ok : ∀ k, k < 6 → parseFieldDescriptor (TX1 k).2.2.1 = some (tyX1 k) := by decide +kernel
abbrev cX1_init : ByteArray := prog_3_method_1_code
def yX1_init : MethodName := ⟨RX1, "<init>", "()V"⟩
abbrev cX1_become : ByteArray := prog_3_method_2_code
def yX1_become : MethodName := ⟨RX1, "become", "(LFoughtFromMemory$House;)V"⟩
abbrev cX1_hasPerson : ByteArray := prog_3_method_3_code
def yX1_hasPerson : MethodName := ⟨RX1, "hasPerson", "(I)Z"⟩
abbrev cX1_kindOf : ByteArray := prog_3_method_4_code
def yX1_kindOf : MethodName := ⟨RX1, "kindOf", "(I)I"⟩
abbrev cX1_figureOf : ByteArray := prog_3_method_5_code
def yX1_figureOf : MethodName := ⟨RX1, "figureOf", "(I)I"⟩
abbrev cX1_needsOf : ByteArray := prog_3_method_6_code
def yX1_needsOf : MethodName := ⟨RX1, "needsOf", "(I)I"⟩
abbrev cX1_catchesOf : ByteArray := prog_3_method_7_code
def yX1_catchesOf : MethodName := ⟨RX1, "catchesOf", "(I)I"⟩
abbrev cX1_worthOf : ByteArray := prog_3_method_8_code
def yX1_worthOf : MethodName := ⟨RX1, "worthOf", "(I)I"⟩
abbrev cX1_sharpOf : ByteArray := prog_3_method_9_code
def yX1_sharpOf : MethodName := ⟨RX1, "sharpOf", "(I)I"⟩
abbrev cX1_knownBy : ByteArray := prog_3_method_10_code
def yX1_knownBy : MethodName := ⟨RX1, "knownBy", "(II)I"⟩
abbrev cX1_put : ByteArray := prog_3_method_11_code
def yX1_put : MethodName := ⟨RX1, "put", "(III)V"⟩
abbrev cX1_sharpen : ByteArray := prog_3_method_12_code
def yX1_sharpen : MethodName := ⟨RX1, "sharpen", "(II)V"⟩
abbrev cX1_learn : ByteArray := prog_3_method_13_code
def yX1_learn : MethodName := ⟨RX1, "learn", "(III)V"⟩
abbrev cX1_takeIn : ByteArray := prog_3_method_14_code
def yX1_takeIn : MethodName := ⟨RX1, "takeIn", "(I)Z"⟩
abbrev cX1_passNights : ByteArray := prog_3_method_15_code
def yX1_passNights : MethodName := ⟨RX1, "passNights", "(I)V"⟩
abbrev cX1_forgetSome : ByteArray := prog_3_method_16_code
def yX1_forgetSome : MethodName := ⟨RX1, "forgetSome", "(I)V"⟩
abbrev cX1_roomsSayableBy : ByteArray := prog_3_method_17_code
def yX1_roomsSayableBy : MethodName := ⟨RX1, "roomsSayableBy", "(I)I"⟩
abbrev cX1_sureRooms : ByteArray := prog_3_method_18_code
def yX1_sureRooms : MethodName := ⟨RX1, "sureRooms", "()I"⟩
abbrev cX1_somebodysRooms : ByteArray := prog_3_method_19_code
def yX1_somebodysRooms : MethodName := ⟨RX1, "somebodysRooms", "()I"⟩
abbrev cX1_allWorth : ByteArray := prog_3_method_20_code
def yX1_allWorth : MethodName := ⟨RX1, "allWorth", "()I"⟩
abbrev cX1_walls : ByteArray := prog_3_method_21_code
def yX1_walls : MethodName := ⟨RX1, "walls", "()I"⟩
abbrev cX1_allKnown : ByteArray := prog_3_method_22_code
def yX1_allKnown : MethodName := ⟨RX1, "allKnown", "()I"⟩
def RX2 : String := "FoughtFromMemory$Kinds"
def TX2 : u_T := fun k => match k with
  | _ => ("", "", "", false)
def tyX2 : Nat → FieldType := fun k => match k with
  | _ => .int
abbrev wsX20 : List Cond := u_ws RX2 TX2 0
theorem nmX2 : ∀ a, a < 0 → ∀ b, b < 0 → a ≠ b → (TX2 a).2.1 ≠ (TX2 b).2.1 := by decide +kernel
theorem tyX2_ok : ∀ k, k < 0 → parseFieldDescriptor (TX2 k).2.2.1 = some (tyX2 k) := by decide +kernel
abbrev cX2_needs : ByteArray := prog_4_method_2_code
def yX2_needs : MethodName := ⟨RX2, "needs", "(I)I"⟩
abbrev cX2_catches : ByteArray := prog_4_method_3_code
def yX2_catches : MethodName := ⟨RX2, "catches", "(I)I"⟩
abbrev cX2_worth : ByteArray := prog_4_method_4_code
def yX2_worth : MethodName := ⟨RX2, "worth", "(II)I"⟩
def RX3 : String := "FoughtFromMemory$Numbers"
def TX3 : u_T := fun k => match k with
  | 0 => ("FoughtFromMemory$Numbers", "numbers", "[I", true)
  | _ => ("FoughtFromMemory$Numbers", "told", "I", false)
def tyX3 : Nat → FieldType := fun k => match k with
  | 0 => .array .int
  | _ => .int
abbrev wsX30 : List Cond := u_ws RX3 TX3 2
theorem nmX3 : ∀ a, a < 2 → ∀ b, b < 2 → a ≠ b → (TX3 a).2.1 ≠ (TX3 b).2.1 := by decide +kernel
theorem tyX3_ok : ∀ k, k < 2 → parseFieldDescriptor (TX3 k).2.2.1 = some (tyX3 k) := by decide +kernel
abbrev cX3_init : ByteArray := prog_5_method_1_code
def yX3_init : MethodName := ⟨RX3, "<init>", "(I)V"⟩
abbrev cX3_isFull : ByteArray := prog_5_method_2_code
def yX3_isFull : MethodName := ⟨RX3, "isFull", "()Z"⟩
abbrev cX3_add : ByteArray := prog_5_method_3_code
def yX3_add : MethodName := ⟨RX3, "add", "(I)I"⟩
abbrev cX3_at : ByteArray := prog_5_method_4_code
def yX3_at : MethodName := ⟨RX3, "at", "(I)I"⟩
abbrev cX3_forget : ByteArray := prog_5_method_5_code
def yX3_forget : MethodName := ⟨RX3, "forget", "()V"⟩
def RX4 : String := "FoughtFromMemory$Telling"
def TX4 : u_T := fun k => match k with
  | _ => ("FoughtFromMemory$Telling", "letters", "LFoughtFromMemory$Numbers;", true)
def tyX4 : Nat → FieldType := fun k => match k with
  | _ => .object "FoughtFromMemory$Numbers"
abbrev wsX40 : List Cond := u_ws RX4 TX4 1
theorem nmX4 : ∀ a, a < 1 → ∀ b, b < 1 → a ≠ b → (TX4 a).2.1 ≠ (TX4 b).2.1 := by decide +kernel
theorem tyX4_ok : ∀ k, k < 1 → parseFieldDescriptor (TX4 k).2.2.1 = some (tyX4 k) := by decide +kernel
abbrev cX4_init : ByteArray := prog_6_method_1_code
def yX4_init : MethodName := ⟨RX4, "<init>", "()V"⟩
abbrev cX4_tellTo : ByteArray := prog_6_method_2_code
def yX4_tellTo : MethodName := ⟨RX4, "tellTo", "(LFoughtFromMemory$House;)I"⟩
abbrev cX4_firstStray : ByteArray := prog_6_method_3_code
def yX4_firstStray : MethodName := ⟨RX4, "firstStray", "()I"⟩
abbrev cX4_fittingLetters : ByteArray := prog_6_method_4_code
def yX4_fittingLetters : MethodName := ⟨RX4, "fittingLetters", "(Ljava/lang/String;I)I"⟩
abbrev cX4_fits : ByteArray := prog_6_method_5_code
def yX4_fits : MethodName := ⟨RX4, "fits", "(IC)Z"⟩
abbrev cX4_formOf : ByteArray := prog_6_method_6_code
def yX4_formOf : MethodName := ⟨RX4, "formOf", "(I)Ljava/lang/String;"⟩
abbrev cX4_tellStatement : ByteArray := prog_6_method_7_code
def yX4_tellStatement : MethodName := ⟨RX4, "tellStatement", "(ILFoughtFromMemory$House;)Z"⟩
abbrev cX4_tellThings : ByteArray := prog_6_method_8_code
def yX4_tellThings : MethodName := ⟨RX4, "tellThings", "(IIILFoughtFromMemory$House;)Z"⟩
abbrev cX4_tellKnown : ByteArray := prog_6_method_9_code
def yX4_tellKnown : MethodName := ⟨RX4, "tellKnown", "(ILFoughtFromMemory$House;)Z"⟩
abbrev cX4_tellNights : ByteArray := prog_6_method_10_code
def yX4_tellNights : MethodName := ⟨RX4, "tellNights", "(ILFoughtFromMemory$House;)Z"⟩
abbrev cX4_kindOfLetter : ByteArray := prog_6_method_11_code
def yX4_kindOfLetter : MethodName := ⟨RX4, "kindOfLetter", "(I)I"⟩
abbrev cX4_digitAt : ByteArray := prog_6_method_12_code
def yX4_digitAt : MethodName := ⟨RX4, "digitAt", "(I)I"⟩
abbrev cX4_pairAt : ByteArray := prog_6_method_13_code
def yX4_pairAt : MethodName := ⟨RX4, "pairAt", "(I)I"⟩
def RX5 : String := "FoughtFromMemory"
def TX5 : u_T := fun k => match k with
  | 0 => ("FoughtFromMemory", "house", "LFoughtFromMemory$House;", true)
  | 1 => ("FoughtFromMemory", "kept", "LFoughtFromMemory$House;", true)
  | 2 => ("FoughtFromMemory", "trial", "LFoughtFromMemory$House;", true)
  | 3 => ("FoughtFromMemory", "blaze", "LFoughtFromMemory$Blaze;", true)
  | 4 => ("FoughtFromMemory", "telling", "LFoughtFromMemory$Telling;", true)
  | 5 => ("FoughtFromMemory", "row", "LFoughtFromMemory$Numbers;", true)
  | 6 => ("FoughtFromMemory", "refusals", "[I", true)
  | _ => ("FoughtFromMemory", "imageTaken", "Z", false)
def tyX5 : Nat → FieldType := fun k => match k with
  | 0 => .object "FoughtFromMemory$House"
  | 1 => .object "FoughtFromMemory$House"
  | 2 => .object "FoughtFromMemory$House"
  | 3 => .object "FoughtFromMemory$Blaze"
  | 4 => .object "FoughtFromMemory$Telling"
  | 5 => .object "FoughtFromMemory$Numbers"
  | 6 => .array .int
  | _ => .boolean
abbrev wsX50 : List Cond := u_ws RX5 TX5 8
theorem nmX5 : ∀ a, a < 8 → ∀ b, b < 8 → a ≠ b → (TX5 a).2.1 ≠ (TX5 b).2.1 := by decide +kernel
theorem tyX5_ok : ∀ k, k < 8 → parseFieldDescriptor (TX5 k).2.2.1 = some (tyX5 k) := by decide +kernel
abbrev cX5_init : ByteArray := prog_1_method_1_code
def yX5_init : MethodName := ⟨RX5, "<init>", "()V"⟩
abbrev cX5_letter : ByteArray := prog_1_method_2_code
def yX5_letter : MethodName := ⟨RX5, "letter", "(I)I"⟩
abbrev cX5_house : ByteArray := prog_1_method_3_code
def yX5_house : MethodName := ⟨RX5, "house", "()I"⟩
abbrev cX5_room : ByteArray := prog_1_method_4_code
def yX5_room : MethodName := ⟨RX5, "room", "(II)I"⟩
abbrev cX5_person : ByteArray := prog_1_method_5_code
def yX5_person : MethodName := ⟨RX5, "person", "(II)I"⟩
abbrev cX5_turn : ByteArray := prog_1_method_6_code
def yX5_turn : MethodName := ⟨RX5, "turn", "(III)I"⟩
abbrev cX5_sharp : ByteArray := prog_1_method_7_code
def yX5_sharp : MethodName := ⟨RX5, "sharp", "(II)I"⟩
abbrev cX5_visit : ByteArray := prog_1_method_8_code
def yX5_visit : MethodName := ⟨RX5, "visit", "(III)I"⟩
abbrev cX5_nights : ByteArray := prog_1_method_9_code
def yX5_nights : MethodName := ⟨RX5, "nights", "(I)I"⟩
abbrev cX5_fire : ByteArray := prog_1_method_10_code
def yX5_fire : MethodName := ⟨RX5, "fire", "(III)I"⟩
abbrev cX5_burns : ByteArray := prog_1_method_11_code
def yX5_burns : MethodName := ⟨RX5, "burns", "(III)I"⟩
abbrev cX5_said : ByteArray := prog_1_method_12_code
def yX5_said : MethodName := ⟨RX5, "said", "(IIII)I"⟩
abbrev cX5_talker : ByteArray := prog_1_method_13_code
def yX5_talker : MethodName := ⟨RX5, "talker", "(II)I"⟩
abbrev cX5_alone : ByteArray := prog_1_method_14_code
def yX5_alone : MethodName := ⟨RX5, "alone", "(I)I"⟩
abbrev cX5_bestSpeaker : ByteArray := prog_1_method_15_code
def yX5_bestSpeaker : MethodName := ⟨RX5, "bestSpeaker", "(I)I"⟩
abbrev cX5_worstRoom : ByteArray := prog_1_method_16_code
def yX5_worstRoom : MethodName := ⟨RX5, "worstRoom", "()I"⟩
abbrev cX5_show : ByteArray := prog_1_method_17_code
def yX5_show : MethodName := ⟨RX5, "show", "(II)I"⟩
abbrev cX5_mayWait : ByteArray := prog_1_method_18_code
def yX5_mayWait : MethodName := ⟨RX5, "mayWait", "(I)I"⟩
abbrev cX5_leftOut : ByteArray := prog_1_method_19_code
def yX5_leftOut : MethodName := ⟨RX5, "leftOut", "(I)I"⟩
abbrev cX5_enough : ByteArray := prog_1_method_20_code
def yX5_enough : MethodName := ⟨RX5, "enough", "(I)I"⟩
abbrev cX5_wall : ByteArray := prog_1_method_21_code
def yX5_wall : MethodName := ⟨RX5, "wall", "(I)I"⟩
abbrev cX5_captain : ByteArray := prog_1_method_22_code
def yX5_captain : MethodName := ⟨RX5, "captain", "(III)I"⟩
abbrev cX5_unlike : ByteArray := prog_1_method_23_code
def yX5_unlike : MethodName := ⟨RX5, "unlike", "(III)I"⟩
abbrev cX5_sure : ByteArray := prog_1_method_24_code
def yX5_sure : MethodName := ⟨RX5, "sure", "(I)I"⟩
abbrev cX5_slip : ByteArray := prog_1_method_25_code
def yX5_slip : MethodName := ⟨RX5, "slip", "(IIIII)J"⟩
abbrev cX5_whatWas : ByteArray := prog_1_method_26_code
def yX5_whatWas : MethodName := ⟨RX5, "whatWas", "(III)I"⟩
abbrev cX5_row : ByteArray := prog_1_method_27_code
def yX5_row : MethodName := ⟨RX5, "row", "(I)I"⟩
abbrev cX5_judge : ByteArray := prog_1_method_28_code
def yX5_judge : MethodName := ⟨RX5, "judge", "(I)I"⟩
abbrev cX5_clear : ByteArray := prog_1_method_29_code
def yX5_clear : MethodName := ⟨RX5, "clear", "()I"⟩
abbrev cX5_lots : ByteArray := prog_1_method_30_code
def yX5_lots : MethodName := ⟨RX5, "lots", "(III)I"⟩
abbrev cX5_image : ByteArray := prog_1_method_31_code
def yX5_image : MethodName := ⟨RX5, "image", "()I"⟩
abbrev cX5_on : ByteArray := prog_1_method_32_code
def yX5_on : MethodName := ⟨RX5, "on", "()I"⟩
abbrev cX5_count : ByteArray := prog_1_method_33_code
def yX5_count : MethodName := ⟨RX5, "count", "(I)I"⟩
abbrev cX5_refuse : ByteArray := prog_1_method_34_code
def yX5_refuse : MethodName := ⟨RX5, "refuse", "(I)I"⟩
abbrev cX5_refuseLong : ByteArray := prog_1_method_35_code
def yX5_refuseLong : MethodName := ⟨RX5, "refuseLong", "(I)J"⟩
abbrev cX5_isRoom : ByteArray := prog_1_method_36_code
def yX5_isRoom : MethodName := ⟨RX5, "isRoom", "(I)Z"⟩
abbrev cX5_isPerson : ByteArray := prog_1_method_37_code
def yX5_isPerson : MethodName := ⟨RX5, "isPerson", "(I)Z"⟩
abbrev cX5_isSpeaker : ByteArray := prog_1_method_38_code
def yX5_isSpeaker : MethodName := ⟨RX5, "isSpeaker", "(I)Z"⟩
abbrev cX5_burnAsNow : ByteArray := prog_1_method_39_code
def yX5_burnAsNow : MethodName := ⟨RX5, "burnAsNow", "(II)V"⟩
abbrev cX5_worthIn : ByteArray := prog_1_method_40_code
def yX5_worthIn : MethodName := ⟨RX5, "worthIn", "(LFoughtFromMemory$House;I)I"⟩
abbrev cX5_worthBy : ByteArray := prog_1_method_41_code
def yX5_worthBy : MethodName := ⟨RX5, "worthBy", "(II)I"⟩
abbrev cX5_worthWithOnly : ByteArray := prog_1_method_42_code
def yX5_worthWithOnly : MethodName := ⟨RX5, "worthWithOnly", "(II)I"⟩
abbrev cX5_bestAgainst : ByteArray := prog_1_method_43_code
def yX5_bestAgainst : MethodName := ⟨RX5, "bestAgainst", "(II)I"⟩
abbrev cX5_slipsWithin : ByteArray := prog_1_method_44_code
def yX5_slipsWithin : MethodName := ⟨RX5, "slipsWithin", "(IIII)J"⟩
abbrev cX5_power : ByteArray := prog_1_method_45_code
def yX5_power : MethodName := ⟨RX5, "power", "(II)J"⟩
abbrev cX5_commonDivisor : ByteArray := prog_1_method_46_code
def yX5_commonDivisor : MethodName := ⟨RX5, "commonDivisor", "(JJ)J"⟩
abbrev cX5_burnsAsRowTells : ByteArray := prog_1_method_47_code
def yX5_burnsAsRowTells : MethodName := ⟨RX5, "burnsAsRowTells", "(I)Z"⟩
abbrev cX5_firstOf : ByteArray := prog_1_method_48_code
def yX5_firstOf : MethodName := ⟨RX5, "firstOf", "(I)I"⟩
abbrev cX5_asRowTells : ByteArray := prog_1_method_49_code
def yX5_asRowTells : MethodName := ⟨RX5, "asRowTells", "(I)I"⟩
abbrev cX5_seedAfter : ByteArray := prog_1_method_50_code
def yX5_seedAfter : MethodName := ⟨RX5, "seedAfter", "(I)I"⟩
abbrev cX5_drawn : ByteArray := prog_1_method_51_code
def yX5_drawn : MethodName := ⟨RX5, "drawn", "(II)I"⟩
def RX6 : String := "FoughtFromMemoryModel"
def TX6 : u_T := fun k => match k with
  | 0 => ("FoughtFromMemoryModel", "s", "[I", true)
  | 1 => ("FoughtFromMemoryModel", "m", "[I", true)
  | 2 => ("FoughtFromMemoryModel", "image", "[I", true)
  | 3 => ("FoughtFromMemoryModel", "was", "[I", true)
  | 4 => ("FoughtFromMemoryModel", "hasImage", "Z", false)
  | 5 => ("FoughtFromMemoryModel", "letters", "[I", true)
  | 6 => ("FoughtFromMemoryModel", "row", "[I", true)
  | 7 => ("FoughtFromMemoryModel", "refused", "[I", true)
  | 8 => ("FoughtFromMemoryModel", "letterMany", "I", false)
  | 9 => ("FoughtFromMemoryModel", "rowMany", "I", false)
  | 10 => ("FoughtFromMemoryModel", "burnt", "[I", true)
  | 11 => ("FoughtFromMemoryModel", "soonest", "[I", true)
  | 12 => ("FoughtFromMemoryModel", "saidIn", "[I", true)
  | 13 => ("FoughtFromMemoryModel", "saidBy", "[I", true)
  | 14 => ("FoughtFromMemoryModel", "turns", "[I", true)
  | 15 => ("FoughtFromMemoryModel", "turnMany", "I", false)
  | 16 => ("FoughtFromMemoryModel", "silent", "I", false)
  | 17 => ("FoughtFromMemoryModel", "place", "I", false)
  | 18 => ("FoughtFromMemoryModel", "numbers", "[I", true)
  | _ => ("FoughtFromMemoryModel", "seed", "I", false)
def tyX6 : Nat → FieldType := fun k => match k with
  | 0 => .array .int
  | 1 => .array .int
  | 2 => .array .int
  | 3 => .array .int
  | 4 => .boolean
  | 5 => .array .int
  | 6 => .array .int
  | 7 => .array .int
  | 8 => .int
  | 9 => .int
  | 10 => .array .int
  | 11 => .array .int
  | 12 => .array .int
  | 13 => .array .int
  | 14 => .array .int
  | 15 => .int
  | 16 => .int
  | 17 => .int
  | 18 => .array .int
  | _ => .int
abbrev wsX60 : List Cond := u_ws RX6 TX6 20
theorem nmX6 : ∀ a, a < 20 → ∀ b, b < 20 → a ≠ b → (TX6 a).2.1 ≠ (TX6 b).2.1 := by decide +kernel
theorem tyX6_ok : ∀ k, k < 20 → parseFieldDescriptor (TX6 k).2.2.1 = some (tyX6 k) := by decide +kernel
abbrev cX6_init : ByteArray := prog_8_method_1_code
def yX6_init : MethodName := ⟨RX6, "<init>", "()V"⟩
abbrev cX6_isIn : ByteArray := prog_8_method_2_code
def yX6_isIn : MethodName := ⟨RX6, "isIn", "(III)Z"⟩
abbrev cX6_most : ByteArray := prog_8_method_3_code
def yX6_most : MethodName := ⟨RX6, "most", "(II)I"⟩
abbrev cX6_lays : ByteArray := prog_8_method_4_code
def yX6_lays : MethodName := ⟨RX6, "lays", "([I[I)V"⟩
abbrev cX6_no : ByteArray := prog_8_method_5_code
def yX6_no : MethodName := ⟨RX6, "no", "(I)I"⟩
abbrev cX6_noWide : ByteArray := prog_8_method_6_code
def yX6_noWide : MethodName := ⟨RX6, "noWide", "(I)J"⟩
abbrev cX6_isRoom : ByteArray := prog_8_method_7_code
def yX6_isRoom : MethodName := ⟨RX6, "isRoom", "(I)Z"⟩
abbrev cX6_isPerson : ByteArray := prog_8_method_8_code
def yX6_isPerson : MethodName := ⟨RX6, "isPerson", "(I)Z"⟩
abbrev cX6_isSpeaker : ByteArray := prog_8_method_9_code
def yX6_isSpeaker : MethodName := ⟨RX6, "isSpeaker", "(I)Z"⟩
abbrev cX6_known : ByteArray := prog_8_method_10_code
def yX6_known : MethodName := ⟨RX6, "known", "(II)I"⟩
abbrev cX6_needs : ByteArray := prog_8_method_11_code
def yX6_needs : MethodName := ⟨RX6, "needs", "([II)I"⟩
abbrev cX6_catches : ByteArray := prog_8_method_12_code
def yX6_catches : MethodName := ⟨RX6, "catches", "([II)I"⟩
abbrev cX6_worth : ByteArray := prog_8_method_13_code
def yX6_worth : MethodName := ⟨RX6, "worth", "([II)I"⟩
abbrev cX6_isKnown : ByteArray := prog_8_method_14_code
def yX6_isKnown : MethodName := ⟨RX6, "isKnown", "([III)Z"⟩
abbrev cX6_beside : ByteArray := prog_8_method_15_code
def yX6_beside : MethodName := ⟨RX6, "beside", "(II)I"⟩
abbrev cX6_night : ByteArray := prog_8_method_16_code
def yX6_night : MethodName := ⟨RX6, "night", "([I)V"⟩
abbrev cX6_findsSoonest : ByteArray := prog_8_method_17_code
def yX6_findsSoonest : MethodName := ⟨RX6, "findsSoonest", "([I)V"⟩
abbrev cX6_isGoingOn : ByteArray := prog_8_method_18_code
def yX6_isGoingOn : MethodName := ⟨RX6, "isGoingOn", "()Z"⟩
abbrev cX6_toSay : ByteArray := prog_8_method_19_code
def yX6_toSay : MethodName := ⟨RX6, "toSay", "([II)I"⟩
abbrev cX6_burns : ByteArray := prog_8_method_20_code
def yX6_burns : MethodName := ⟨RX6, "burns", "([II)V"⟩
abbrev cX6_turnsFrom : ByteArray := prog_8_method_21_code
def yX6_turnsFrom : MethodName := ⟨RX6, "turnsFrom", "([III)V"⟩
abbrev cX6_burntMany : ByteArray := prog_8_method_22_code
def yX6_burntMany : MethodName := ⟨RX6, "burntMany", "()I"⟩
abbrev cX6_burntWorth : ByteArray := prog_8_method_23_code
def yX6_burntWorth : MethodName := ⟨RX6, "burntWorth", "([I)I"⟩
abbrev cX6_worthBy : ByteArray := prog_8_method_24_code
def yX6_worthBy : MethodName := ⟨RX6, "worthBy", "([III)I"⟩
abbrev cX6_letter : ByteArray := prog_8_method_25_code
def yX6_letter : MethodName := ⟨RX6, "letter", "(I)I"⟩
abbrev cX6_here : ByteArray := prog_8_method_26_code
def yX6_here : MethodName := ⟨RX6, "here", "()I"⟩
abbrev cX6_readsNumber : ByteArray := prog_8_method_27_code
def yX6_readsNumber : MethodName := ⟨RX6, "readsNumber", "(II)Z"⟩
abbrev cX6_kindBy : ByteArray := prog_8_method_28_code
def yX6_kindBy : MethodName := ⟨RX6, "kindBy", "(I)I"⟩
abbrev cX6_readsKind : ByteArray := prog_8_method_29_code
def yX6_readsKind : MethodName := ⟨RX6, "readsKind", "()Z"⟩
abbrev cX6_readsStatement : ByteArray := prog_8_method_30_code
def yX6_readsStatement : MethodName := ⟨RX6, "readsStatement", "()Z"⟩
abbrev cX6_isDone : ByteArray := prog_8_method_31_code
def yX6_isDone : MethodName := ⟨RX6, "isDone", "(I)Z"⟩
abbrev cX6_house : ByteArray := prog_8_method_32_code
def yX6_house : MethodName := ⟨RX6, "house", "()I"⟩
abbrev cX6_room : ByteArray := prog_8_method_33_code
def yX6_room : MethodName := ⟨RX6, "room", "(II)I"⟩
abbrev cX6_person : ByteArray := prog_8_method_34_code
def yX6_person : MethodName := ⟨RX6, "person", "(II)I"⟩
abbrev cX6_turn : ByteArray := prog_8_method_35_code
def yX6_turn : MethodName := ⟨RX6, "turn", "(III)I"⟩
abbrev cX6_sharp : ByteArray := prog_8_method_36_code
def yX6_sharp : MethodName := ⟨RX6, "sharp", "(II)I"⟩
abbrev cX6_visit : ByteArray := prog_8_method_37_code
def yX6_visit : MethodName := ⟨RX6, "visit", "(III)I"⟩
abbrev cX6_knownMany : ByteArray := prog_8_method_38_code
def yX6_knownMany : MethodName := ⟨RX6, "knownMany", "(Z)I"⟩
abbrev cX6_nights : ByteArray := prog_8_method_39_code
def yX6_nights : MethodName := ⟨RX6, "nights", "(I)I"⟩
abbrev cX6_isFire : ByteArray := prog_8_method_40_code
def yX6_isFire : MethodName := ⟨RX6, "isFire", "(II)Z"⟩
abbrev cX6_burnsBy : ByteArray := prog_8_method_41_code
def yX6_burnsBy : MethodName := ⟨RX6, "burnsBy", "(II)V"⟩
abbrev cX6_fire : ByteArray := prog_8_method_42_code
def yX6_fire : MethodName := ⟨RX6, "fire", "(III)I"⟩
abbrev cX6_burns_ : ByteArray := prog_8_method_43_code
def yX6_burns_ : MethodName := ⟨RX6, "burns", "(III)I"⟩
abbrev cX6_said : ByteArray := prog_8_method_44_code
def yX6_said : MethodName := ⟨RX6, "said", "(IIII)I"⟩
abbrev cX6_talker : ByteArray := prog_8_method_45_code
def yX6_talker : MethodName := ⟨RX6, "talker", "(II)I"⟩
abbrev cX6_alone : ByteArray := prog_8_method_46_code
def yX6_alone : MethodName := ⟨RX6, "alone", "(I)I"⟩
abbrev cX6_bestSpeaker : ByteArray := prog_8_method_47_code
def yX6_bestSpeaker : MethodName := ⟨RX6, "bestSpeaker", "(I)I"⟩
abbrev cX6_worstRoom : ByteArray := prog_8_method_48_code
def yX6_worstRoom : MethodName := ⟨RX6, "worstRoom", "()I"⟩
abbrev cX6_show : ByteArray := prog_8_method_49_code
def yX6_show : MethodName := ⟨RX6, "show", "(II)I"⟩
abbrev cX6_mayWait : ByteArray := prog_8_method_50_code
def yX6_mayWait : MethodName := ⟨RX6, "mayWait", "(I)I"⟩
abbrev cX6_leftOut : ByteArray := prog_8_method_51_code
def yX6_leftOut : MethodName := ⟨RX6, "leftOut", "(I)I"⟩
abbrev cX6_bits : ByteArray := prog_8_method_52_code
def yX6_bits : MethodName := ⟨RX6, "bits", "(I)I"⟩
abbrev cX6_enough : ByteArray := prog_8_method_53_code
def yX6_enough : MethodName := ⟨RX6, "enough", "(I)I"⟩
abbrev cX6_wall : ByteArray := prog_8_method_54_code
def yX6_wall : MethodName := ⟨RX6, "wall", "(I)I"⟩
abbrev cX6_captain : ByteArray := prog_8_method_55_code
def yX6_captain : MethodName := ⟨RX6, "captain", "(III)I"⟩
abbrev cX6_unlike : ByteArray := prog_8_method_56_code
def yX6_unlike : MethodName := ⟨RX6, "unlike", "(III)I"⟩
abbrev cX6_sure : ByteArray := prog_8_method_57_code
def yX6_sure : MethodName := ⟨RX6, "sure", "(I)I"⟩
abbrev cX6_gcd : ByteArray := prog_8_method_58_code
def yX6_gcd : MethodName := ⟨RX6, "gcd", "(JJ)J"⟩
abbrev cX6_partOf : ByteArray := prog_8_method_59_code
def yX6_partOf : MethodName := ⟨RX6, "partOf", "(JJI)J"⟩
abbrev cX6_slip : ByteArray := prog_8_method_60_code
def yX6_slip : MethodName := ⟨RX6, "slip", "(IIIII)J"⟩
abbrev cX6_whatWas : ByteArray := prog_8_method_61_code
def yX6_whatWas : MethodName := ⟨RX6, "whatWas", "(III)I"⟩
abbrev cX6_row : ByteArray := prog_8_method_62_code
def yX6_row : MethodName := ⟨RX6, "row", "(I)I"⟩
abbrev cX6_judge : ByteArray := prog_8_method_63_code
def yX6_judge : MethodName := ⟨RX6, "judge", "(I)I"⟩
abbrev cX6_clear : ByteArray := prog_8_method_64_code
def yX6_clear : MethodName := ⟨RX6, "clear", "()I"⟩
abbrev cX6_drawn : ByteArray := prog_8_method_65_code
def yX6_drawn : MethodName := ⟨RX6, "drawn", "(I)I"⟩
abbrev cX6_lots : ByteArray := prog_8_method_66_code
def yX6_lots : MethodName := ⟨RX6, "lots", "(III)I"⟩
abbrev cX6_image : ByteArray := prog_8_method_67_code
def yX6_image : MethodName := ⟨RX6, "image", "()I"⟩
abbrev cX6_on : ByteArray := prog_8_method_68_code
def yX6_on : MethodName := ⟨RX6, "on", "()I"⟩
abbrev cX6_count : ByteArray := prog_8_method_69_code
def yX6_count : MethodName := ⟨RX6, "count", "(I)I"⟩
def RJ6 : String := "java/lang/Integer"
def TJ6 : u_T := fun k => match k with
  | _ => ("", "", "", false)
def tyJ6 : Nat → FieldType := fun k => match k with
  | _ => .int
abbrev wsJ60 : List Cond := u_ws RJ6 TJ6 0
theorem nmJ6 : ∀ a, a < 0 → ∀ b, b < 0 → a ≠ b → (TJ6 a).2.1 ≠ (TJ6 b).2.1 := by decide +kernel
theorem tyJ6_ok : ∀ k, k < 0 → parseFieldDescriptor (TJ6 k).2.2.1 = some (tyJ6 k) := by decide +kernel
abbrev cJ6_bitCount_0f7a4 : ByteArray := prog_9_method_49_code
def yJ6_bitCount_0f7a4 : MethodName := ⟨RJ6, "bitCount", "(I)I"⟩
def RJ9 : String := "java/lang/Math"
def TJ9 : u_T := fun k => match k with
  | _ => ("", "", "", false)
def tyJ9 : Nat → FieldType := fun k => match k with
  | _ => .int
abbrev wsJ90 : List Cond := u_ws RJ9 TJ9 0
theorem nmJ9 : ∀ a, a < 0 → ∀ b, b < 0 → a ≠ b → (TJ9 a).2.1 ≠ (TJ9 b).2.1 := by decide +kernel
theorem tyJ9_ok : ∀ k, k < 0 → parseFieldDescriptor (TJ9 k).2.2.1 = some (tyJ9 k) := by decide +kernel
abbrev cJ9_floorMod_7cf53 : ByteArray := prog_10_method_50_code
def yJ9_floorMod_7cf53 : MethodName := ⟨RJ9, "floorMod", "(II)I"⟩
abbrev cJ9_max_7cf53 : ByteArray := prog_10_method_65_code
def yJ9_max_7cf53 : MethodName := ⟨RJ9, "max", "(II)I"⟩
abbrev cJ9_min_7cf53 : ByteArray := prog_10_method_69_code
def yJ9_min_7cf53 : MethodName := ⟨RJ9, "min", "(II)I"⟩
def RJ0 : String := "java/lang/String"
def TJ0 : u_T := fun k => match k with
  | _ => ("", "", "", false)
def tyJ0 : Nat → FieldType := fun k => match k with
  | _ => .int
abbrev wsJ00 : List Cond := u_ws RJ0 TJ0 0
theorem nmJ0 : ∀ a, a < 0 → ∀ b, b < 0 → a ≠ b → (TJ0 a).2.1 ≠ (TJ0 b).2.1 := by decide +kernel
theorem tyJ0_ok : ∀ k, k < 0 → parseFieldDescriptor (TJ0 k).2.2.1 = some (tyJ0 k) := by decide +kernel
abbrev cJ0_length_8abf5 : ByteArray := prog_11_method_54_code
def yJ0_length_8abf5 : MethodName := ⟨RJ0, "length", "()I"⟩
abbrev cJ0_isEmpty_aae02 : ByteArray := prog_11_method_55_code
def yJ0_isEmpty_aae02 : MethodName := ⟨RJ0, "isEmpty", "()Z"⟩
abbrev cJ0_charAt_5068e : ByteArray := prog_11_method_56_code
def yJ0_charAt_5068e : MethodName := ⟨RJ0, "charAt", "(I)C"⟩
abbrev cJ0_coder_7d493 : ByteArray := prog_11_method_152_code
def yJ0_coder_7d493 : MethodName := ⟨RJ0, "coder", "()B"⟩
abbrev cJ0_isLatin1_aae02 : ByteArray := prog_11_method_154_code
def yJ0_isLatin1_aae02 : MethodName := ⟨RJ0, "isLatin1", "()Z"⟩
abbrev cJ0_checkIndex_df160 : ByteArray := prog_11_method_155_code
def yJ0_checkIndex_df160 : MethodName := ⟨RJ0, "checkIndex", "(II)V"⟩
def RJ1 : String := "java/lang/StringLatin1"
def TJ1 : u_T := fun k => match k with
  | _ => ("", "", "", false)
def tyJ1 : Nat → FieldType := fun k => match k with
  | _ => .int
abbrev wsJ10 : List Cond := u_ws RJ1 TJ1 0
theorem nmJ1 : ∀ a, a < 0 → ∀ b, b < 0 → a ≠ b → (TJ1 a).2.1 ≠ (TJ1 b).2.1 := by decide +kernel
theorem tyJ1_ok : ∀ k, k < 0 → parseFieldDescriptor (TJ1 k).2.2.1 = some (tyJ1 k) := by decide +kernel
abbrev cJ1_charAt_3b067 : ByteArray := prog_12_method_2_code
def yJ1_charAt_3b067 : MethodName := ⟨RJ1, "charAt", "([BI)C"⟩
def RJ2 : String := "java/lang/StringUTF16"
def TJ2 : u_T := fun k => match k with
  | _ => ("", "", "", false)
def tyJ2 : Nat → FieldType := fun k => match k with
  | _ => .int
abbrev wsJ20 : List Cond := u_ws RJ2 TJ2 0
theorem nmJ2 : ∀ a, a < 0 → ∀ b, b < 0 → a ≠ b → (TJ2 a).2.1 ≠ (TJ2 b).2.1 := by decide +kernel
theorem tyJ2_ok : ∀ k, k < 0 → parseFieldDescriptor (TJ2 k).2.2.1 = some (tyJ2 k) := by decide +kernel
abbrev cJ2_getChar_3b067 : ByteArray := prog_13_method_5_code
def yJ2_getChar_3b067 : MethodName := ⟨RJ2, "getChar", "([BI)C"⟩
abbrev cJ2_length_9d52b : ByteArray := prog_13_method_6_code
def yJ2_length_9d52b : MethodName := ⟨RJ2, "length", "([B)I"⟩
abbrev cJ2_charAt_3b067 : ByteArray := prog_13_method_83_code
def yJ2_charAt_3b067 : MethodName := ⟨RJ2, "charAt", "([BI)C"⟩
abbrev cJ2_checkIndex_2214a : ByteArray := prog_13_method_91_code
def yJ2_checkIndex_2214a : MethodName := ⟨RJ2, "checkIndex", "(I[B)V"⟩
def RJ10 : String := "java/lang/System"
def TJ10 : u_T := fun k => match k with
  | _ => ("", "", "", false)
def tyJ10 : Nat → FieldType := fun k => match k with
  | _ => .int
abbrev wsJ100 : List Cond := u_ws RJ10 TJ10 0
theorem nmJ10 : ∀ a, a < 0 → ∀ b, b < 0 → a ≠ b → (TJ10 a).2.1 ≠ (TJ10 b).2.1 := by decide +kernel
theorem tyJ10_ok : ∀ k, k < 0 → parseFieldDescriptor (TJ10 k).2.2.1 = some (tyJ10 k) := by decide +kernel
def RJ3 : String := "jdk/internal/util/Preconditions"
def TJ3 : u_T := fun k => match k with
  | _ => ("", "", "", false)
def tyJ3 : Nat → FieldType := fun k => match k with
  | _ => .int
abbrev wsJ30 : List Cond := u_ws RJ3 TJ3 0
theorem nmJ3 : ∀ a, a < 0 → ∀ b, b < 0 → a ≠ b → (TJ3 a).2.1 ≠ (TJ3 b).2.1 := by decide +kernel
theorem tyJ3_ok : ∀ k, k < 0 → parseFieldDescriptor (TJ3 k).2.2.1 = some (tyJ3 k) := by decide +kernel
abbrev cJ3_checkIndex_8e157 : ByteArray := prog_15_method_11_code
def yJ3_checkIndex_8e157 : MethodName := ⟨RJ3, "checkIndex", "(IILjava/util/function/BiFunction;)I"⟩
def RL : String := "FoughtFromMemoryLaw"
abbrev cL_law : ByteArray := code
def yL_law : MethodName := ⟨RL, "law", "([I)Z"⟩
abbrev vwCl : List vw_C := [(RX0, TX0, 13), (RX1, TX1, 6), (RX3, TX3, 2), (RX4, TX4, 1), (RX5, TX5, 8), (RX6, TX6, 20)]
end
section
theorem dJ6_bitCount_0f7a4_0 : decode cJ6_bitCount_0f7a4 0 = .ok (.iload_n 0, 1) := by decide +kernel
theorem dJ6_bitCount_0f7a4_1 : decode cJ6_bitCount_0f7a4 1 = .ok (.iload_n 0, 1) := by decide +kernel
theorem dJ6_bitCount_0f7a4_2 : decode cJ6_bitCount_0f7a4 2 = .ok (.iconst 1, 1) := by decide +kernel
theorem dJ6_bitCount_0f7a4_3 : decode cJ6_bitCount_0f7a4 3 = .ok (.iushr, 1) := by decide +kernel
theorem dJ6_bitCount_0f7a4_4 : decode cJ6_bitCount_0f7a4 4 = .ok (.ldc_w 265, 3) := by decide +kernel
theorem dJ6_bitCount_0f7a4_7 : decode cJ6_bitCount_0f7a4 7 = .ok (.iand, 1) := by decide +kernel
theorem dJ6_bitCount_0f7a4_8 : decode cJ6_bitCount_0f7a4 8 = .ok (.isub, 1) := by decide +kernel
theorem dJ6_bitCount_0f7a4_9 : decode cJ6_bitCount_0f7a4 9 = .ok (.istore_n 0, 1) := by decide +kernel
theorem dJ6_bitCount_0f7a4_10 : decode cJ6_bitCount_0f7a4 10 = .ok (.iload_n 0, 1) := by decide +kernel
theorem dJ6_bitCount_0f7a4_11 : decode cJ6_bitCount_0f7a4 11 = .ok (.ldc_w 266, 3) := by decide +kernel
theorem dJ6_bitCount_0f7a4_14 : decode cJ6_bitCount_0f7a4 14 = .ok (.iand, 1) := by decide +kernel
theorem dJ6_bitCount_0f7a4_15 : decode cJ6_bitCount_0f7a4 15 = .ok (.iload_n 0, 1) := by decide +kernel
theorem dJ6_bitCount_0f7a4_16 : decode cJ6_bitCount_0f7a4 16 = .ok (.iconst 2, 1) := by decide +kernel
theorem dJ6_bitCount_0f7a4_17 : decode cJ6_bitCount_0f7a4 17 = .ok (.iushr, 1) := by decide +kernel
theorem dJ6_bitCount_0f7a4_18 : decode cJ6_bitCount_0f7a4 18 = .ok (.ldc_w 266, 3) := by decide +kernel
theorem dJ6_bitCount_0f7a4_21 : decode cJ6_bitCount_0f7a4 21 = .ok (.iand, 1) := by decide +kernel
theorem dJ6_bitCount_0f7a4_22 : decode cJ6_bitCount_0f7a4 22 = .ok (.iadd, 1) := by decide +kernel
theorem dJ6_bitCount_0f7a4_23 : decode cJ6_bitCount_0f7a4 23 = .ok (.istore_n 0, 1) := by decide +kernel
theorem dJ6_bitCount_0f7a4_24 : decode cJ6_bitCount_0f7a4 24 = .ok (.iload_n 0, 1) := by decide +kernel
theorem dJ6_bitCount_0f7a4_25 : decode cJ6_bitCount_0f7a4 25 = .ok (.iload_n 0, 1) := by decide +kernel
theorem dJ6_bitCount_0f7a4_26 : decode cJ6_bitCount_0f7a4 26 = .ok (.iconst 4, 1) := by decide +kernel
theorem dJ6_bitCount_0f7a4_27 : decode cJ6_bitCount_0f7a4 27 = .ok (.iushr, 1) := by decide +kernel
theorem dJ6_bitCount_0f7a4_28 : decode cJ6_bitCount_0f7a4 28 = .ok (.iadd, 1) := by decide +kernel
theorem dJ6_bitCount_0f7a4_29 : decode cJ6_bitCount_0f7a4 29 = .ok (.ldc_w 267, 3) := by decide +kernel
theorem dJ6_bitCount_0f7a4_32 : decode cJ6_bitCount_0f7a4 32 = .ok (.iand, 1) := by decide +kernel
theorem dJ6_bitCount_0f7a4_33 : decode cJ6_bitCount_0f7a4 33 = .ok (.istore_n 0, 1) := by decide +kernel
theorem dJ6_bitCount_0f7a4_34 : decode cJ6_bitCount_0f7a4 34 = .ok (.iload_n 0, 1) := by decide +kernel
theorem dJ6_bitCount_0f7a4_35 : decode cJ6_bitCount_0f7a4 35 = .ok (.iload_n 0, 1) := by decide +kernel
theorem dJ6_bitCount_0f7a4_36 : decode cJ6_bitCount_0f7a4 36 = .ok (.bipush 8, 2) := by decide +kernel
theorem dJ6_bitCount_0f7a4_38 : decode cJ6_bitCount_0f7a4 38 = .ok (.iushr, 1) := by decide +kernel
theorem dJ6_bitCount_0f7a4_39 : decode cJ6_bitCount_0f7a4 39 = .ok (.iadd, 1) := by decide +kernel
theorem dJ6_bitCount_0f7a4_40 : decode cJ6_bitCount_0f7a4 40 = .ok (.istore_n 0, 1) := by decide +kernel
theorem dJ6_bitCount_0f7a4_41 : decode cJ6_bitCount_0f7a4 41 = .ok (.iload_n 0, 1) := by decide +kernel
theorem dJ6_bitCount_0f7a4_42 : decode cJ6_bitCount_0f7a4 42 = .ok (.iload_n 0, 1) := by decide +kernel
theorem dJ6_bitCount_0f7a4_43 : decode cJ6_bitCount_0f7a4 43 = .ok (.bipush 16, 2) := by decide +kernel
theorem dJ6_bitCount_0f7a4_45 : decode cJ6_bitCount_0f7a4 45 = .ok (.iushr, 1) := by decide +kernel
theorem dJ6_bitCount_0f7a4_46 : decode cJ6_bitCount_0f7a4 46 = .ok (.iadd, 1) := by decide +kernel
theorem dJ6_bitCount_0f7a4_47 : decode cJ6_bitCount_0f7a4 47 = .ok (.istore_n 0, 1) := by decide +kernel
theorem dJ6_bitCount_0f7a4_48 : decode cJ6_bitCount_0f7a4 48 = .ok (.iload_n 0, 1) := by decide +kernel
theorem dJ6_bitCount_0f7a4_49 : decode cJ6_bitCount_0f7a4 49 = .ok (.bipush 63, 2) := by decide +kernel
theorem dJ6_bitCount_0f7a4_51 : decode cJ6_bitCount_0f7a4 51 = .ok (.iand, 1) := by decide +kernel
theorem dJ6_bitCount_0f7a4_52 : decode cJ6_bitCount_0f7a4 52 = .ok (.ireturn, 1) := by decide +kernel
theorem dJ9_floorMod_7cf53_0 : decode cJ9_floorMod_7cf53 0 = .ok (.iload_n 0, 1) := by decide +kernel
theorem dJ9_floorMod_7cf53_1 : decode cJ9_floorMod_7cf53 1 = .ok (.iload_n 1, 1) := by decide +kernel
theorem dJ9_floorMod_7cf53_2 : decode cJ9_floorMod_7cf53 2 = .ok (.irem, 1) := by decide +kernel
theorem dJ9_floorMod_7cf53_3 : decode cJ9_floorMod_7cf53 3 = .ok (.istore_n 2, 1) := by decide +kernel
theorem dJ9_floorMod_7cf53_4 : decode cJ9_floorMod_7cf53 4 = .ok (.iload_n 0, 1) := by decide +kernel
theorem dJ9_floorMod_7cf53_5 : decode cJ9_floorMod_7cf53 5 = .ok (.iload_n 1, 1) := by decide +kernel
theorem dJ9_floorMod_7cf53_6 : decode cJ9_floorMod_7cf53 6 = .ok (.ixor, 1) := by decide +kernel
theorem dJ9_floorMod_7cf53_7 : decode cJ9_floorMod_7cf53 7 = .ok (.ifCond .ge 11, 3) := by decide +kernel
theorem dJ9_floorMod_7cf53_10 : decode cJ9_floorMod_7cf53 10 = .ok (.iload_n 2, 1) := by decide +kernel
theorem dJ9_floorMod_7cf53_11 : decode cJ9_floorMod_7cf53 11 = .ok (.ifCond .eq 7, 3) := by decide +kernel
theorem dJ9_floorMod_7cf53_14 : decode cJ9_floorMod_7cf53 14 = .ok (.iload_n 2, 1) := by decide +kernel
theorem dJ9_floorMod_7cf53_15 : decode cJ9_floorMod_7cf53 15 = .ok (.iload_n 1, 1) := by decide +kernel
theorem dJ9_floorMod_7cf53_16 : decode cJ9_floorMod_7cf53 16 = .ok (.iadd, 1) := by decide +kernel
theorem dJ9_floorMod_7cf53_17 : decode cJ9_floorMod_7cf53 17 = .ok (.ireturn, 1) := by decide +kernel
theorem dJ9_floorMod_7cf53_18 : decode cJ9_floorMod_7cf53 18 = .ok (.iload_n 2, 1) := by decide +kernel
theorem dJ9_floorMod_7cf53_19 : decode cJ9_floorMod_7cf53 19 = .ok (.ireturn, 1) := by decide +kernel
theorem dJ9_max_7cf53_0 : decode cJ9_max_7cf53 0 = .ok (.iload_n 0, 1) := by decide +kernel
theorem dJ9_max_7cf53_1 : decode cJ9_max_7cf53 1 = .ok (.iload_n 1, 1) := by decide +kernel
theorem dJ9_max_7cf53_2 : decode cJ9_max_7cf53 2 = .ok (.if_icmp .lt 7, 3) := by decide +kernel
theorem dJ9_max_7cf53_5 : decode cJ9_max_7cf53 5 = .ok (.iload_n 0, 1) := by decide +kernel
theorem dJ9_max_7cf53_6 : decode cJ9_max_7cf53 6 = .ok (.goto 4, 3) := by decide +kernel
theorem dJ9_max_7cf53_9 : decode cJ9_max_7cf53 9 = .ok (.iload_n 1, 1) := by decide +kernel
theorem dJ9_max_7cf53_10 : decode cJ9_max_7cf53 10 = .ok (.ireturn, 1) := by decide +kernel
theorem dJ9_min_7cf53_0 : decode cJ9_min_7cf53 0 = .ok (.iload_n 0, 1) := by decide +kernel
theorem dJ9_min_7cf53_1 : decode cJ9_min_7cf53 1 = .ok (.iload_n 1, 1) := by decide +kernel
theorem dJ9_min_7cf53_2 : decode cJ9_min_7cf53 2 = .ok (.if_icmp .gt 7, 3) := by decide +kernel
theorem dJ9_min_7cf53_5 : decode cJ9_min_7cf53 5 = .ok (.iload_n 0, 1) := by decide +kernel
theorem dJ9_min_7cf53_6 : decode cJ9_min_7cf53 6 = .ok (.goto 4, 3) := by decide +kernel
theorem dJ9_min_7cf53_9 : decode cJ9_min_7cf53 9 = .ok (.iload_n 1, 1) := by decide +kernel
theorem dJ9_min_7cf53_10 : decode cJ9_min_7cf53 10 = .ok (.ireturn, 1) := by decide +kernel
theorem dJ0_length_8abf5_0 : decode cJ0_length_8abf5 0 = .ok (.aload_n 0, 1) := by decide +kernel
theorem dJ0_length_8abf5_1 : decode cJ0_length_8abf5 1 = .ok (.getfield 9, 3) := by decide +kernel
theorem dJ0_length_8abf5_4 : decode cJ0_length_8abf5 4 = .ok (.arraylength, 1) := by decide +kernel
theorem dJ0_length_8abf5_5 : decode cJ0_length_8abf5 5 = .ok (.aload_n 0, 1) := by decide +kernel
theorem dJ0_length_8abf5_6 : decode cJ0_length_8abf5 6 = .ok (.invokevirtual 335, 3) := by decide +kernel
theorem dJ0_length_8abf5_9 : decode cJ0_length_8abf5 9 = .ok (.ishr, 1) := by decide +kernel
theorem dJ0_length_8abf5_10 : decode cJ0_length_8abf5 10 = .ok (.ireturn, 1) := by decide +kernel
theorem dJ0_isEmpty_aae02_0 : decode cJ0_isEmpty_aae02 0 = .ok (.aload_n 0, 1) := by decide +kernel
theorem dJ0_isEmpty_aae02_1 : decode cJ0_isEmpty_aae02 1 = .ok (.getfield 9, 3) := by decide +kernel
theorem dJ0_isEmpty_aae02_4 : decode cJ0_isEmpty_aae02 4 = .ok (.arraylength, 1) := by decide +kernel
theorem dJ0_isEmpty_aae02_5 : decode cJ0_isEmpty_aae02 5 = .ok (.ifCond .ne 7, 3) := by decide +kernel
theorem dJ0_isEmpty_aae02_8 : decode cJ0_isEmpty_aae02 8 = .ok (.iconst 1, 1) := by decide +kernel
theorem dJ0_isEmpty_aae02_9 : decode cJ0_isEmpty_aae02 9 = .ok (.goto 4, 3) := by decide +kernel
theorem dJ0_isEmpty_aae02_12 : decode cJ0_isEmpty_aae02 12 = .ok (.iconst 0, 1) := by decide +kernel
theorem dJ0_isEmpty_aae02_13 : decode cJ0_isEmpty_aae02 13 = .ok (.ireturn, 1) := by decide +kernel
theorem dJ0_charAt_5068e_0 : decode cJ0_charAt_5068e 0 = .ok (.aload_n 0, 1) := by decide +kernel
theorem dJ0_charAt_5068e_1 : decode cJ0_charAt_5068e 1 = .ok (.invokevirtual 492, 3) := by decide +kernel
theorem dJ0_charAt_5068e_4 : decode cJ0_charAt_5068e 4 = .ok (.ifCond .eq 12, 3) := by decide +kernel
theorem dJ0_charAt_5068e_7 : decode cJ0_charAt_5068e 7 = .ok (.aload_n 0, 1) := by decide +kernel
theorem dJ0_charAt_5068e_8 : decode cJ0_charAt_5068e 8 = .ok (.getfield 9, 3) := by decide +kernel
theorem dJ0_charAt_5068e_11 : decode cJ0_charAt_5068e 11 = .ok (.iload_n 1, 1) := by decide +kernel
theorem dJ0_charAt_5068e_12 : decode cJ0_charAt_5068e 12 = .ok (.invokestatic 495, 3) := by decide +kernel
theorem dJ0_charAt_5068e_15 : decode cJ0_charAt_5068e 15 = .ok (.ireturn, 1) := by decide +kernel
theorem dJ0_charAt_5068e_16 : decode cJ0_charAt_5068e 16 = .ok (.aload_n 0, 1) := by decide +kernel
theorem dJ0_charAt_5068e_17 : decode cJ0_charAt_5068e 17 = .ok (.getfield 9, 3) := by decide +kernel
theorem dJ0_charAt_5068e_20 : decode cJ0_charAt_5068e 20 = .ok (.iload_n 1, 1) := by decide +kernel
theorem dJ0_charAt_5068e_21 : decode cJ0_charAt_5068e 21 = .ok (.invokestatic 498, 3) := by decide +kernel
theorem dJ0_charAt_5068e_24 : decode cJ0_charAt_5068e 24 = .ok (.ireturn, 1) := by decide +kernel
theorem dJ0_coder_7d493_0 : decode cJ0_coder_7d493 0 = .ok (.getstatic 38, 3) := by decide +kernel
theorem dJ0_coder_7d493_3 : decode cJ0_coder_7d493 3 = .ok (.ifCond .eq 10, 3) := by decide +kernel
theorem dJ0_coder_7d493_6 : decode cJ0_coder_7d493 6 = .ok (.aload_n 0, 1) := by decide +kernel
theorem dJ0_coder_7d493_7 : decode cJ0_coder_7d493 7 = .ok (.getfield 15, 3) := by decide +kernel
theorem dJ0_coder_7d493_10 : decode cJ0_coder_7d493 10 = .ok (.goto 4, 3) := by decide +kernel
theorem dJ0_coder_7d493_13 : decode cJ0_coder_7d493 13 = .ok (.iconst 1, 1) := by decide +kernel
theorem dJ0_coder_7d493_14 : decode cJ0_coder_7d493 14 = .ok (.ireturn, 1) := by decide +kernel
theorem dJ0_isLatin1_aae02_0 : decode cJ0_isLatin1_aae02 0 = .ok (.getstatic 38, 3) := by decide +kernel
theorem dJ0_isLatin1_aae02_3 : decode cJ0_isLatin1_aae02 3 = .ok (.ifCond .eq 14, 3) := by decide +kernel
theorem dJ0_isLatin1_aae02_6 : decode cJ0_isLatin1_aae02 6 = .ok (.aload_n 0, 1) := by decide +kernel
theorem dJ0_isLatin1_aae02_7 : decode cJ0_isLatin1_aae02 7 = .ok (.getfield 15, 3) := by decide +kernel
theorem dJ0_isLatin1_aae02_10 : decode cJ0_isLatin1_aae02 10 = .ok (.ifCond .ne 7, 3) := by decide +kernel
theorem dJ0_isLatin1_aae02_13 : decode cJ0_isLatin1_aae02 13 = .ok (.iconst 1, 1) := by decide +kernel
theorem dJ0_isLatin1_aae02_14 : decode cJ0_isLatin1_aae02 14 = .ok (.goto 4, 3) := by decide +kernel
theorem dJ0_isLatin1_aae02_17 : decode cJ0_isLatin1_aae02 17 = .ok (.iconst 0, 1) := by decide +kernel
theorem dJ0_isLatin1_aae02_18 : decode cJ0_isLatin1_aae02 18 = .ok (.ireturn, 1) := by decide +kernel
theorem dJ0_checkIndex_df160_0 : decode cJ0_checkIndex_df160 0 = .ok (.iload_n 0, 1) := by decide +kernel
theorem dJ0_checkIndex_df160_1 : decode cJ0_checkIndex_df160 1 = .ok (.iload_n 1, 1) := by decide +kernel
theorem dJ0_checkIndex_df160_2 : decode cJ0_checkIndex_df160 2 = .ok (.getstatic 1053, 3) := by decide +kernel
theorem dJ0_checkIndex_df160_5 : decode cJ0_checkIndex_df160 5 = .ok (.invokestatic 1059, 3) := by decide +kernel
theorem dJ0_checkIndex_df160_8 : decode cJ0_checkIndex_df160 8 = .ok (.pop, 1) := by decide +kernel
theorem dJ0_checkIndex_df160_9 : decode cJ0_checkIndex_df160 9 = .ok (.return_, 1) := by decide +kernel
theorem dJ1_charAt_3b067_0 : decode cJ1_charAt_3b067 0 = .ok (.iload_n 1, 1) := by decide +kernel
theorem dJ1_charAt_3b067_1 : decode cJ1_charAt_3b067 1 = .ok (.aload_n 0, 1) := by decide +kernel
theorem dJ1_charAt_3b067_2 : decode cJ1_charAt_3b067 2 = .ok (.arraylength, 1) := by decide +kernel
theorem dJ1_charAt_3b067_3 : decode cJ1_charAt_3b067 3 = .ok (.invokestatic 9, 3) := by decide +kernel
theorem dJ1_charAt_3b067_6 : decode cJ1_charAt_3b067 6 = .ok (.aload_n 0, 1) := by decide +kernel
theorem dJ1_charAt_3b067_7 : decode cJ1_charAt_3b067 7 = .ok (.iload_n 1, 1) := by decide +kernel
theorem dJ1_charAt_3b067_8 : decode cJ1_charAt_3b067 8 = .ok (.baload, 1) := by decide +kernel
theorem dJ1_charAt_3b067_9 : decode cJ1_charAt_3b067 9 = .ok (.sipush 255, 3) := by decide +kernel
theorem dJ1_charAt_3b067_12 : decode cJ1_charAt_3b067 12 = .ok (.iand, 1) := by decide +kernel
theorem dJ1_charAt_3b067_13 : decode cJ1_charAt_3b067 13 = .ok (.i2c, 1) := by decide +kernel
theorem dJ1_charAt_3b067_14 : decode cJ1_charAt_3b067 14 = .ok (.ireturn, 1) := by decide +kernel
theorem dJ2_getChar_3b067_0 : decode cJ2_getChar_3b067 0 = .ok (.getstatic 44, 3) := by decide +kernel
theorem dJ2_getChar_3b067_3 : decode cJ2_getChar_3b067 3 = .ok (.ifCond .ne 25, 3) := by decide +kernel
theorem dJ2_getChar_3b067_6 : decode cJ2_getChar_3b067 6 = .ok (.iload_n 1, 1) := by decide +kernel
theorem dJ2_getChar_3b067_7 : decode cJ2_getChar_3b067 7 = .ok (.ifCond .lt 11, 3) := by decide +kernel
theorem dJ2_getChar_3b067_10 : decode cJ2_getChar_3b067 10 = .ok (.iload_n 1, 1) := by decide +kernel
theorem dJ2_getChar_3b067_11 : decode cJ2_getChar_3b067 11 = .ok (.aload_n 0, 1) := by decide +kernel
theorem dJ2_getChar_3b067_12 : decode cJ2_getChar_3b067 12 = .ok (.invokestatic 48, 3) := by decide +kernel
theorem dJ2_getChar_3b067_15 : decode cJ2_getChar_3b067 15 = .ok (.if_icmp .lt 13, 3) := by decide +kernel
theorem dJ2_getChar_3b067_18 : decode cJ2_getChar_3b067 18 = .ok (.new 52, 3) := by decide +kernel
theorem dJ2_getChar_3b067_21 : decode cJ2_getChar_3b067 21 = .ok (.dup, 1) := by decide +kernel
theorem dJ2_getChar_3b067_22 : decode cJ2_getChar_3b067 22 = .ok (.ldc 54, 2) := by decide +kernel
theorem dJ2_getChar_3b067_24 : decode cJ2_getChar_3b067 24 = .ok (.invokespecial 56, 3) := by decide +kernel
theorem dJ2_getChar_3b067_27 : decode cJ2_getChar_3b067 27 = .ok (.athrow, 1) := by decide +kernel
theorem dJ2_getChar_3b067_28 : decode cJ2_getChar_3b067 28 = .ok (.iload_n 1, 1) := by decide +kernel
theorem dJ2_getChar_3b067_29 : decode cJ2_getChar_3b067 29 = .ok (.iconst 1, 1) := by decide +kernel
theorem dJ2_getChar_3b067_30 : decode cJ2_getChar_3b067 30 = .ok (.ishl, 1) := by decide +kernel
theorem dJ2_getChar_3b067_31 : decode cJ2_getChar_3b067 31 = .ok (.istore_n 1, 1) := by decide +kernel
theorem dJ2_getChar_3b067_32 : decode cJ2_getChar_3b067 32 = .ok (.aload_n 0, 1) := by decide +kernel
theorem dJ2_getChar_3b067_33 : decode cJ2_getChar_3b067 33 = .ok (.iload_n 1, 1) := by decide +kernel
theorem dJ2_getChar_3b067_34 : decode cJ2_getChar_3b067 34 = .ok (.iinc 1 1, 3) := by decide +kernel
theorem dJ2_getChar_3b067_37 : decode cJ2_getChar_3b067 37 = .ok (.baload, 1) := by decide +kernel
theorem dJ2_getChar_3b067_38 : decode cJ2_getChar_3b067 38 = .ok (.sipush 255, 3) := by decide +kernel
theorem dJ2_getChar_3b067_41 : decode cJ2_getChar_3b067 41 = .ok (.iand, 1) := by decide +kernel
theorem dJ2_getChar_3b067_42 : decode cJ2_getChar_3b067 42 = .ok (.getstatic 59, 3) := by decide +kernel
theorem dJ2_getChar_3b067_45 : decode cJ2_getChar_3b067 45 = .ok (.ishl, 1) := by decide +kernel
theorem dJ2_getChar_3b067_46 : decode cJ2_getChar_3b067 46 = .ok (.aload_n 0, 1) := by decide +kernel
theorem dJ2_getChar_3b067_47 : decode cJ2_getChar_3b067 47 = .ok (.iload_n 1, 1) := by decide +kernel
theorem dJ2_getChar_3b067_48 : decode cJ2_getChar_3b067 48 = .ok (.baload, 1) := by decide +kernel
theorem dJ2_getChar_3b067_49 : decode cJ2_getChar_3b067 49 = .ok (.sipush 255, 3) := by decide +kernel
theorem dJ2_getChar_3b067_52 : decode cJ2_getChar_3b067 52 = .ok (.iand, 1) := by decide +kernel
theorem dJ2_getChar_3b067_53 : decode cJ2_getChar_3b067 53 = .ok (.getstatic 63, 3) := by decide +kernel
theorem dJ2_getChar_3b067_56 : decode cJ2_getChar_3b067 56 = .ok (.ishl, 1) := by decide +kernel
theorem dJ2_getChar_3b067_57 : decode cJ2_getChar_3b067 57 = .ok (.ior, 1) := by decide +kernel
theorem dJ2_getChar_3b067_58 : decode cJ2_getChar_3b067 58 = .ok (.i2c, 1) := by decide +kernel
theorem dJ2_getChar_3b067_59 : decode cJ2_getChar_3b067 59 = .ok (.ireturn, 1) := by decide +kernel
theorem dJ2_length_9d52b_0 : decode cJ2_length_9d52b 0 = .ok (.aload_n 0, 1) := by decide +kernel
theorem dJ2_length_9d52b_1 : decode cJ2_length_9d52b 1 = .ok (.arraylength, 1) := by decide +kernel
theorem dJ2_length_9d52b_2 : decode cJ2_length_9d52b 2 = .ok (.iconst 1, 1) := by decide +kernel
theorem dJ2_length_9d52b_3 : decode cJ2_length_9d52b 3 = .ok (.ishr, 1) := by decide +kernel
theorem dJ2_length_9d52b_4 : decode cJ2_length_9d52b 4 = .ok (.ireturn, 1) := by decide +kernel
theorem dJ2_charAt_3b067_0 : decode cJ2_charAt_3b067 0 = .ok (.iload_n 1, 1) := by decide +kernel
theorem dJ2_charAt_3b067_1 : decode cJ2_charAt_3b067 1 = .ok (.aload_n 0, 1) := by decide +kernel
theorem dJ2_charAt_3b067_2 : decode cJ2_charAt_3b067 2 = .ok (.invokestatic 67, 3) := by decide +kernel
theorem dJ2_charAt_3b067_5 : decode cJ2_charAt_3b067 5 = .ok (.aload_n 0, 1) := by decide +kernel
theorem dJ2_charAt_3b067_6 : decode cJ2_charAt_3b067 6 = .ok (.iload_n 1, 1) := by decide +kernel
theorem dJ2_charAt_3b067_7 : decode cJ2_charAt_3b067 7 = .ok (.invokestatic 71, 3) := by decide +kernel
theorem dJ2_charAt_3b067_10 : decode cJ2_charAt_3b067 10 = .ok (.ireturn, 1) := by decide +kernel
theorem dJ2_checkIndex_2214a_0 : decode cJ2_checkIndex_2214a 0 = .ok (.iload_n 0, 1) := by decide +kernel
theorem dJ2_checkIndex_2214a_1 : decode cJ2_checkIndex_2214a 1 = .ok (.aload_n 1, 1) := by decide +kernel
theorem dJ2_checkIndex_2214a_2 : decode cJ2_checkIndex_2214a 2 = .ok (.invokestatic 48, 3) := by decide +kernel
theorem dJ2_checkIndex_2214a_5 : decode cJ2_checkIndex_2214a 5 = .ok (.invokestatic 414, 3) := by decide +kernel
theorem dJ2_checkIndex_2214a_8 : decode cJ2_checkIndex_2214a 8 = .ok (.return_, 1) := by decide +kernel
theorem dJ3_checkIndex_8e157_0 : decode cJ3_checkIndex_8e157 0 = .ok (.iload_n 0, 1) := by decide +kernel
theorem dJ3_checkIndex_8e157_1 : decode cJ3_checkIndex_8e157 1 = .ok (.ifCond .lt 8, 3) := by decide +kernel
theorem dJ3_checkIndex_8e157_4 : decode cJ3_checkIndex_8e157 4 = .ok (.iload_n 0, 1) := by decide +kernel
theorem dJ3_checkIndex_8e157_5 : decode cJ3_checkIndex_8e157 5 = .ok (.iload_n 1, 1) := by decide +kernel
theorem dJ3_checkIndex_8e157_6 : decode cJ3_checkIndex_8e157 6 = .ok (.if_icmp .lt 10, 3) := by decide +kernel
theorem dJ3_checkIndex_8e157_9 : decode cJ3_checkIndex_8e157 9 = .ok (.aload_n 2, 1) := by decide +kernel
theorem dJ3_checkIndex_8e157_10 : decode cJ3_checkIndex_8e157 10 = .ok (.iload_n 0, 1) := by decide +kernel
theorem dJ3_checkIndex_8e157_11 : decode cJ3_checkIndex_8e157 11 = .ok (.iload_n 1, 1) := by decide +kernel
theorem dJ3_checkIndex_8e157_12 : decode cJ3_checkIndex_8e157 12 = .ok (.invokestatic 95, 3) := by decide +kernel
theorem dJ3_checkIndex_8e157_15 : decode cJ3_checkIndex_8e157 15 = .ok (.athrow, 1) := by decide +kernel
theorem dJ3_checkIndex_8e157_16 : decode cJ3_checkIndex_8e157 16 = .ok (.iload_n 0, 1) := by decide +kernel
theorem dJ3_checkIndex_8e157_17 : decode cJ3_checkIndex_8e157 17 = .ok (.ireturn, 1) := by decide +kernel
theorem dX0_init_0 : decode cX0_init 0 = .ok (.aload_n 0, 1) := by decide +kernel
theorem dX0_init_1 : decode cX0_init 1 = .ok (.invokespecial 5, 3) := by decide +kernel
theorem dX0_init_4 : decode cX0_init 4 = .ok (.aload_n 0, 1) := by decide +kernel
theorem dX0_init_5 : decode cX0_init 5 = .ok (.iconst 5, 1) := by decide +kernel
theorem dX0_init_6 : decode cX0_init 6 = .ok (.newarray .int, 2) := by decide +kernel
theorem dX0_init_8 : decode cX0_init 8 = .ok (.putfield 11, 3) := by decide +kernel
theorem dX0_init_11 : decode cX0_init 11 = .ok (.aload_n 0, 1) := by decide +kernel
theorem dX0_init_12 : decode cX0_init 12 = .ok (.bipush 25, 2) := by decide +kernel
theorem dX0_init_14 : decode cX0_init 14 = .ok (.newarray .int, 2) := by decide +kernel
theorem dX0_init_16 : decode cX0_init 16 = .ok (.putfield 15, 3) := by decide +kernel
theorem dX0_init_19 : decode cX0_init 19 = .ok (.aload_n 0, 1) := by decide +kernel
theorem dX0_init_20 : decode cX0_init 20 = .ok (.iconst 5, 1) := by decide +kernel
theorem dX0_init_21 : decode cX0_init 21 = .ok (.newarray .int, 2) := by decide +kernel
theorem dX0_init_23 : decode cX0_init 23 = .ok (.putfield 18, 3) := by decide +kernel
theorem dX0_init_26 : decode cX0_init 26 = .ok (.aload_n 0, 1) := by decide +kernel
theorem dX0_init_27 : decode cX0_init 27 = .ok (.iconst 5, 1) := by decide +kernel
theorem dX0_init_28 : decode cX0_init 28 = .ok (.newarray .int, 2) := by decide +kernel
theorem dX0_init_30 : decode cX0_init 30 = .ok (.putfield 21, 3) := by decide +kernel
theorem dX0_init_33 : decode cX0_init 33 = .ok (.aload_n 0, 1) := by decide +kernel
theorem dX0_init_34 : decode cX0_init 34 = .ok (.bipush 101, 2) := by decide +kernel
theorem dX0_init_36 : decode cX0_init 36 = .ok (.newarray .int, 2) := by decide +kernel
theorem dX0_init_38 : decode cX0_init 38 = .ok (.putfield 24, 3) := by decide +kernel
theorem dX0_init_41 : decode cX0_init 41 = .ok (.aload_n 0, 1) := by decide +kernel
theorem dX0_init_42 : decode cX0_init 42 = .ok (.bipush 101, 2) := by decide +kernel
theorem dX0_init_44 : decode cX0_init 44 = .ok (.newarray .int, 2) := by decide +kernel
theorem dX0_init_46 : decode cX0_init 46 = .ok (.putfield 27, 3) := by decide +kernel
theorem dX0_init_49 : decode cX0_init 49 = .ok (.aload_n 0, 1) := by decide +kernel
theorem dX0_init_50 : decode cX0_init 50 = .ok (.bipush 101, 2) := by decide +kernel
theorem dX0_init_52 : decode cX0_init 52 = .ok (.newarray .int, 2) := by decide +kernel
theorem dX0_init_54 : decode cX0_init 54 = .ok (.putfield 30, 3) := by decide +kernel
theorem dX0_init_57 : decode cX0_init 57 = .ok (.aload_n 0, 1) := by decide +kernel
theorem dX0_init_58 : decode cX0_init 58 = .ok (.bipush 101, 2) := by decide +kernel
theorem dX0_init_60 : decode cX0_init 60 = .ok (.newarray .int, 2) := by decide +kernel
theorem dX0_init_62 : decode cX0_init 62 = .ok (.putfield 33, 3) := by decide +kernel
theorem dX0_init_65 : decode cX0_init 65 = .ok (.return_, 1) := by decide +kernel
theorem dX0_lookAt_0 : decode cX0_lookAt 0 = .ok (.iconst 0, 1) := by decide +kernel
theorem dX0_lookAt_1 : decode cX0_lookAt 1 = .ok (.istore_n 2, 1) := by decide +kernel
theorem dX0_lookAt_2 : decode cX0_lookAt 2 = .ok (.iload_n 2, 1) := by decide +kernel
theorem dX0_lookAt_3 : decode cX0_lookAt 3 = .ok (.iconst 4, 1) := by decide +kernel
theorem dX0_lookAt_4 : decode cX0_lookAt 4 = .ok (.if_icmp .gt 16, 3) := by decide +kernel
theorem dX0_lookAt_7 : decode cX0_lookAt 7 = .ok (.aload_n 0, 1) := by decide +kernel
theorem dX0_lookAt_8 : decode cX0_lookAt 8 = .ok (.getfield 11, 3) := by decide +kernel
theorem dX0_lookAt_11 : decode cX0_lookAt 11 = .ok (.iload_n 2, 1) := by decide +kernel
theorem dX0_lookAt_12 : decode cX0_lookAt 12 = .ok (.iconst 0, 1) := by decide +kernel
theorem dX0_lookAt_13 : decode cX0_lookAt 13 = .ok (.iastore, 1) := by decide +kernel
theorem dX0_lookAt_14 : decode cX0_lookAt 14 = .ok (.iinc 2 1, 3) := by decide +kernel
theorem dX0_lookAt_17 : decode cX0_lookAt 17 = .ok (.goto (-15), 3) := by decide +kernel
theorem dX0_lookAt_20 : decode cX0_lookAt 20 = .ok (.iconst 0, 1) := by decide +kernel
theorem dX0_lookAt_21 : decode cX0_lookAt 21 = .ok (.istore_n 2, 1) := by decide +kernel
theorem dX0_lookAt_22 : decode cX0_lookAt 22 = .ok (.iload_n 2, 1) := by decide +kernel
theorem dX0_lookAt_23 : decode cX0_lookAt 23 = .ok (.bipush 25, 2) := by decide +kernel
theorem dX0_lookAt_25 : decode cX0_lookAt 25 = .ok (.if_icmp .ge 62, 3) := by decide +kernel
theorem dX0_lookAt_28 : decode cX0_lookAt 28 = .ok (.aload_n 1, 1) := by decide +kernel
theorem dX0_lookAt_29 : decode cX0_lookAt 29 = .ok (.getfield 36, 3) := by decide +kernel
theorem dX0_lookAt_32 : decode cX0_lookAt 32 = .ok (.iload_n 2, 1) := by decide +kernel
theorem dX0_lookAt_33 : decode cX0_lookAt 33 = .ok (.iaload, 1) := by decide +kernel
theorem dX0_lookAt_34 : decode cX0_lookAt 34 = .ok (.istore_n 3, 1) := by decide +kernel
theorem dX0_lookAt_35 : decode cX0_lookAt 35 = .ok (.aload_n 0, 1) := by decide +kernel
theorem dX0_lookAt_36 : decode cX0_lookAt 36 = .ok (.getfield 15, 3) := by decide +kernel
theorem dX0_lookAt_39 : decode cX0_lookAt 39 = .ok (.iload_n 2, 1) := by decide +kernel
theorem dX0_lookAt_40 : decode cX0_lookAt 40 = .ok (.iload_n 3, 1) := by decide +kernel
theorem dX0_lookAt_41 : decode cX0_lookAt 41 = .ok (.aload_n 1, 1) := by decide +kernel
theorem dX0_lookAt_42 : decode cX0_lookAt 42 = .ok (.getfield 41, 3) := by decide +kernel
theorem dX0_lookAt_45 : decode cX0_lookAt 45 = .ok (.iload_n 2, 1) := by decide +kernel
theorem dX0_lookAt_46 : decode cX0_lookAt 46 = .ok (.iaload, 1) := by decide +kernel
theorem dX0_lookAt_47 : decode cX0_lookAt 47 = .ok (.invokestatic 44, 3) := by decide +kernel
theorem dX0_lookAt_50 : decode cX0_lookAt 50 = .ok (.iastore, 1) := by decide +kernel
theorem dX0_lookAt_51 : decode cX0_lookAt 51 = .ok (.iload_n 3, 1) := by decide +kernel
theorem dX0_lookAt_52 : decode cX0_lookAt 52 = .ok (.invokestatic 50, 3) := by decide +kernel
theorem dX0_lookAt_55 : decode cX0_lookAt 55 = .ok (.istore 4, 2) := by decide +kernel
theorem dX0_lookAt_57 : decode cX0_lookAt 57 = .ok (.iload 4, 2) := by decide +kernel
theorem dX0_lookAt_59 : decode cX0_lookAt 59 = .ok (.ifCond .le 22, 3) := by decide +kernel
theorem dX0_lookAt_62 : decode cX0_lookAt 62 = .ok (.iload 4, 2) := by decide +kernel
theorem dX0_lookAt_64 : decode cX0_lookAt 64 = .ok (.iconst 4, 1) := by decide +kernel
theorem dX0_lookAt_65 : decode cX0_lookAt 65 = .ok (.if_icmp .gt 16, 3) := by decide +kernel
theorem dX0_lookAt_68 : decode cX0_lookAt 68 = .ok (.aload_n 0, 1) := by decide +kernel
theorem dX0_lookAt_69 : decode cX0_lookAt 69 = .ok (.getfield 11, 3) := by decide +kernel
theorem dX0_lookAt_72 : decode cX0_lookAt 72 = .ok (.iload 4, 2) := by decide +kernel
theorem dX0_lookAt_74 : decode cX0_lookAt 74 = .ok (.dup2, 1) := by decide +kernel
theorem dX0_lookAt_75 : decode cX0_lookAt 75 = .ok (.iaload, 1) := by decide +kernel
theorem dX0_lookAt_76 : decode cX0_lookAt 76 = .ok (.iconst 1, 1) := by decide +kernel
theorem dX0_lookAt_77 : decode cX0_lookAt 77 = .ok (.iload_n 2, 1) := by decide +kernel
theorem dX0_lookAt_78 : decode cX0_lookAt 78 = .ok (.ishl, 1) := by decide +kernel
theorem dX0_lookAt_79 : decode cX0_lookAt 79 = .ok (.ior, 1) := by decide +kernel
theorem dX0_lookAt_80 : decode cX0_lookAt 80 = .ok (.iastore, 1) := by decide +kernel
theorem dX0_lookAt_81 : decode cX0_lookAt 81 = .ok (.iinc 2 1, 3) := by decide +kernel
theorem dX0_lookAt_84 : decode cX0_lookAt 84 = .ok (.goto (-62), 3) := by decide +kernel
theorem dX0_lookAt_87 : decode cX0_lookAt 87 = .ok (.aload_n 0, 1) := by decide +kernel
theorem dX0_lookAt_88 : decode cX0_lookAt 88 = .ok (.aload_n 1, 1) := by decide +kernel
theorem dX0_lookAt_89 : decode cX0_lookAt 89 = .ok (.getfield 54, 3) := by decide +kernel
theorem dX0_lookAt_92 : decode cX0_lookAt 92 = .ok (.iconst 5, 1) := by decide +kernel
theorem dX0_lookAt_93 : decode cX0_lookAt 93 = .ok (.invokestatic 58, 3) := by decide +kernel
theorem dX0_lookAt_96 : decode cX0_lookAt 96 = .ok (.putfield 63, 3) := by decide +kernel
theorem dX0_lookAt_99 : decode cX0_lookAt 99 = .ok (.iconst 0, 1) := by decide +kernel
theorem dX0_lookAt_100 : decode cX0_lookAt 100 = .ok (.istore_n 2, 1) := by decide +kernel
theorem dX0_lookAt_101 : decode cX0_lookAt 101 = .ok (.iload_n 2, 1) := by decide +kernel
theorem dX0_lookAt_102 : decode cX0_lookAt 102 = .ok (.aload_n 0, 1) := by decide +kernel
theorem dX0_lookAt_103 : decode cX0_lookAt 103 = .ok (.getfield 63, 3) := by decide +kernel
theorem dX0_lookAt_106 : decode cX0_lookAt 106 = .ok (.if_icmp .ge 20, 3) := by decide +kernel
theorem dX0_lookAt_109 : decode cX0_lookAt 109 = .ok (.aload_n 0, 1) := by decide +kernel
theorem dX0_lookAt_110 : decode cX0_lookAt 110 = .ok (.getfield 18, 3) := by decide +kernel
theorem dX0_lookAt_113 : decode cX0_lookAt 113 = .ok (.iload_n 2, 1) := by decide +kernel
theorem dX0_lookAt_114 : decode cX0_lookAt 114 = .ok (.aload_n 1, 1) := by decide +kernel
theorem dX0_lookAt_115 : decode cX0_lookAt 115 = .ok (.iload_n 2, 1) := by decide +kernel
theorem dX0_lookAt_116 : decode cX0_lookAt 116 = .ok (.invokevirtual 64, 3) := by decide +kernel
theorem dX0_lookAt_119 : decode cX0_lookAt 119 = .ok (.iastore, 1) := by decide +kernel
theorem dX0_lookAt_120 : decode cX0_lookAt 120 = .ok (.iinc 2 1, 3) := by decide +kernel
theorem dX0_lookAt_123 : decode cX0_lookAt 123 = .ok (.goto (-22), 3) := by decide +kernel
theorem dX0_lookAt_126 : decode cX0_lookAt 126 = .ok (.return_, 1) := by decide +kernel
theorem dX0_letAllSpeak_0 : decode cX0_letAllSpeak 0 = .ok (.aload_n 0, 1) := by decide +kernel
theorem dX0_letAllSpeak_1 : decode cX0_letAllSpeak 1 = .ok (.iload_n 1, 1) := by decide +kernel
theorem dX0_letAllSpeak_2 : decode cX0_letAllSpeak 2 = .ok (.iconst 1, 1) := by decide +kernel
theorem dX0_letAllSpeak_3 : decode cX0_letAllSpeak 3 = .ok (.aload_n 0, 1) := by decide +kernel
theorem dX0_letAllSpeak_4 : decode cX0_letAllSpeak 4 = .ok (.getfield 63, 3) := by decide +kernel
theorem dX0_letAllSpeak_7 : decode cX0_letAllSpeak 7 = .ok (.ishl, 1) := by decide +kernel
theorem dX0_letAllSpeak_8 : decode cX0_letAllSpeak 8 = .ok (.iconst 1, 1) := by decide +kernel
theorem dX0_letAllSpeak_9 : decode cX0_letAllSpeak 9 = .ok (.isub, 1) := by decide +kernel
theorem dX0_letAllSpeak_10 : decode cX0_letAllSpeak 10 = .ok (.invokevirtual 67, 3) := by decide +kernel
theorem dX0_letAllSpeak_13 : decode cX0_letAllSpeak 13 = .ok (.return_, 1) := by decide +kernel
theorem dX0_letSpeak_0 : decode cX0_letSpeak 0 = .ok (.aload_n 0, 1) := by decide +kernel
theorem dX0_letSpeak_1 : decode cX0_letSpeak 1 = .ok (.iconst 0, 1) := by decide +kernel
theorem dX0_letSpeak_2 : decode cX0_letSpeak 2 = .ok (.putfield 71, 3) := by decide +kernel
theorem dX0_letSpeak_5 : decode cX0_letSpeak 5 = .ok (.iconst 0, 1) := by decide +kernel
theorem dX0_letSpeak_6 : decode cX0_letSpeak 6 = .ok (.istore_n 3, 1) := by decide +kernel
theorem dX0_letSpeak_7 : decode cX0_letSpeak 7 = .ok (.iload_n 3, 1) := by decide +kernel
theorem dX0_letSpeak_8 : decode cX0_letSpeak 8 = .ok (.aload_n 0, 1) := by decide +kernel
theorem dX0_letSpeak_9 : decode cX0_letSpeak 9 = .ok (.getfield 63, 3) := by decide +kernel
theorem dX0_letSpeak_12 : decode cX0_letSpeak 12 = .ok (.if_icmp .ge 52, 3) := by decide +kernel
theorem dX0_letSpeak_15 : decode cX0_letSpeak 15 = .ok (.iload_n 1, 1) := by decide +kernel
theorem dX0_letSpeak_16 : decode cX0_letSpeak 16 = .ok (.iload_n 3, 1) := by decide +kernel
theorem dX0_letSpeak_17 : decode cX0_letSpeak 17 = .ok (.iadd, 1) := by decide +kernel
theorem dX0_letSpeak_18 : decode cX0_letSpeak 18 = .ok (.aload_n 0, 1) := by decide +kernel
theorem dX0_letSpeak_19 : decode cX0_letSpeak 19 = .ok (.getfield 63, 3) := by decide +kernel
theorem dX0_letSpeak_22 : decode cX0_letSpeak 22 = .ok (.invokestatic 74, 3) := by decide +kernel
theorem dX0_letSpeak_25 : decode cX0_letSpeak 25 = .ok (.istore 4, 2) := by decide +kernel
theorem dX0_letSpeak_27 : decode cX0_letSpeak 27 = .ok (.iload_n 2, 1) := by decide +kernel
theorem dX0_letSpeak_28 : decode cX0_letSpeak 28 = .ok (.iload 4, 2) := by decide +kernel
theorem dX0_letSpeak_30 : decode cX0_letSpeak 30 = .ok (.ishr, 1) := by decide +kernel
theorem dX0_letSpeak_31 : decode cX0_letSpeak 31 = .ok (.iconst 1, 1) := by decide +kernel
theorem dX0_letSpeak_32 : decode cX0_letSpeak 32 = .ok (.iand, 1) := by decide +kernel
theorem dX0_letSpeak_33 : decode cX0_letSpeak 33 = .ok (.iconst 1, 1) := by decide +kernel
theorem dX0_letSpeak_34 : decode cX0_letSpeak 34 = .ok (.if_icmp .ne 24, 3) := by decide +kernel
theorem dX0_letSpeak_37 : decode cX0_letSpeak 37 = .ok (.aload_n 0, 1) := by decide +kernel
theorem dX0_letSpeak_38 : decode cX0_letSpeak 38 = .ok (.getfield 21, 3) := by decide +kernel
theorem dX0_letSpeak_41 : decode cX0_letSpeak 41 = .ok (.aload_n 0, 1) := by decide +kernel
theorem dX0_letSpeak_42 : decode cX0_letSpeak 42 = .ok (.getfield 71, 3) := by decide +kernel
theorem dX0_letSpeak_45 : decode cX0_letSpeak 45 = .ok (.iload 4, 2) := by decide +kernel
theorem dX0_letSpeak_47 : decode cX0_letSpeak 47 = .ok (.iastore, 1) := by decide +kernel
theorem dX0_letSpeak_48 : decode cX0_letSpeak 48 = .ok (.aload_n 0, 1) := by decide +kernel
theorem dX0_letSpeak_49 : decode cX0_letSpeak 49 = .ok (.dup, 1) := by decide +kernel
theorem dX0_letSpeak_50 : decode cX0_letSpeak 50 = .ok (.getfield 71, 3) := by decide +kernel
theorem dX0_letSpeak_53 : decode cX0_letSpeak 53 = .ok (.iconst 1, 1) := by decide +kernel
theorem dX0_letSpeak_54 : decode cX0_letSpeak 54 = .ok (.iadd, 1) := by decide +kernel
theorem dX0_letSpeak_55 : decode cX0_letSpeak 55 = .ok (.putfield 71, 3) := by decide +kernel
theorem dX0_letSpeak_58 : decode cX0_letSpeak 58 = .ok (.iinc 3 1, 3) := by decide +kernel
theorem dX0_letSpeak_61 : decode cX0_letSpeak 61 = .ok (.goto (-54), 3) := by decide +kernel
theorem dX0_letSpeak_64 : decode cX0_letSpeak 64 = .ok (.return_, 1) := by decide +kernel
theorem dX0_burn_0 : decode cX0_burn 0 = .ok (.aload_n 0, 1) := by decide +kernel
theorem dX0_burn_1 : decode cX0_burn 1 = .ok (.iconst 0, 1) := by decide +kernel
theorem dX0_burn_2 : decode cX0_burn 2 = .ok (.putfield 77, 3) := by decide +kernel
theorem dX0_burn_5 : decode cX0_burn 5 = .ok (.aload_n 0, 1) := by decide +kernel
theorem dX0_burn_6 : decode cX0_burn 6 = .ok (.getfield 24, 3) := by decide +kernel
theorem dX0_burn_9 : decode cX0_burn 9 = .ok (.iconst 0, 1) := by decide +kernel
theorem dX0_burn_10 : decode cX0_burn 10 = .ok (.iconst 1, 1) := by decide +kernel
theorem dX0_burn_11 : decode cX0_burn 11 = .ok (.iload_n 1, 1) := by decide +kernel
theorem dX0_burn_12 : decode cX0_burn 12 = .ok (.ishl, 1) := by decide +kernel
theorem dX0_burn_13 : decode cX0_burn 13 = .ok (.iastore, 1) := by decide +kernel
theorem dX0_burn_14 : decode cX0_burn 14 = .ok (.aload_n 0, 1) := by decide +kernel
theorem dX0_burn_15 : decode cX0_burn 15 = .ok (.getfield 27, 3) := by decide +kernel
theorem dX0_burn_18 : decode cX0_burn 18 = .ok (.iconst 0, 1) := by decide +kernel
theorem dX0_burn_19 : decode cX0_burn 19 = .ok (.aload_n 0, 1) := by decide +kernel
theorem dX0_burn_20 : decode cX0_burn 20 = .ok (.getfield 24, 3) := by decide +kernel
theorem dX0_burn_23 : decode cX0_burn 23 = .ok (.iconst 0, 1) := by decide +kernel
theorem dX0_burn_24 : decode cX0_burn 24 = .ok (.iaload, 1) := by decide +kernel
theorem dX0_burn_25 : decode cX0_burn 25 = .ok (.iastore, 1) := by decide +kernel
theorem dX0_burn_26 : decode cX0_burn 26 = .ok (.aload_n 0, 1) := by decide +kernel
theorem dX0_burn_27 : decode cX0_burn 27 = .ok (.getfield 30, 3) := by decide +kernel
theorem dX0_burn_30 : decode cX0_burn 30 = .ok (.iconst 0, 1) := by decide +kernel
theorem dX0_burn_31 : decode cX0_burn 31 = .ok (.aload_n 0, 1) := by decide +kernel
theorem dX0_burn_32 : decode cX0_burn 32 = .ok (.getfield 27, 3) := by decide +kernel
theorem dX0_burn_35 : decode cX0_burn 35 = .ok (.iconst 0, 1) := by decide +kernel
theorem dX0_burn_36 : decode cX0_burn 36 = .ok (.iaload, 1) := by decide +kernel
theorem dX0_burn_37 : decode cX0_burn 37 = .ok (.invokestatic 80, 3) := by decide +kernel
theorem dX0_burn_40 : decode cX0_burn 40 = .ok (.iastore, 1) := by decide +kernel
theorem dX0_burn_41 : decode cX0_burn 41 = .ok (.aload_n 0, 1) := by decide +kernel
theorem dX0_burn_42 : decode cX0_burn 42 = .ok (.iconst 1, 1) := by decide +kernel
theorem dX0_burn_43 : decode cX0_burn 43 = .ok (.invokevirtual 83, 3) := by decide +kernel
theorem dX0_burn_46 : decode cX0_burn 46 = .ok (.iconst 1, 1) := by decide +kernel
theorem dX0_burn_47 : decode cX0_burn 47 = .ok (.istore_n 3, 1) := by decide +kernel
theorem dX0_burn_48 : decode cX0_burn 48 = .ok (.iload_n 3, 1) := by decide +kernel
theorem dX0_burn_49 : decode cX0_burn 49 = .ok (.bipush 101, 2) := by decide +kernel
theorem dX0_burn_51 : decode cX0_burn 51 = .ok (.if_icmp .ge 62, 3) := by decide +kernel
theorem dX0_burn_54 : decode cX0_burn 54 = .ok (.iload_n 3, 1) := by decide +kernel
theorem dX0_burn_55 : decode cX0_burn 55 = .ok (.aload_n 0, 1) := by decide +kernel
theorem dX0_burn_56 : decode cX0_burn 56 = .ok (.getfield 87, 3) := by decide +kernel
theorem dX0_burn_59 : decode cX0_burn 59 = .ok (.if_icmp .gt 54, 3) := by decide +kernel
theorem dX0_burn_62 : decode cX0_burn 62 = .ok (.iload_n 3, 1) := by decide +kernel
theorem dX0_burn_63 : decode cX0_burn 63 = .ok (.bipush 7, 2) := by decide +kernel
theorem dX0_burn_65 : decode cX0_burn 65 = .ok (.if_icmp .gt 18, 3) := by decide +kernel
theorem dX0_burn_68 : decode cX0_burn 68 = .ok (.iload_n 2, 1) := by decide +kernel
theorem dX0_burn_69 : decode cX0_burn 69 = .ok (.iload_n 3, 1) := by decide +kernel
theorem dX0_burn_70 : decode cX0_burn 70 = .ok (.iconst 1, 1) := by decide +kernel
theorem dX0_burn_71 : decode cX0_burn 71 = .ok (.isub, 1) := by decide +kernel
theorem dX0_burn_72 : decode cX0_burn 72 = .ok (.ishr, 1) := by decide +kernel
theorem dX0_burn_73 : decode cX0_burn 73 = .ok (.iconst 1, 1) := by decide +kernel
theorem dX0_burn_74 : decode cX0_burn 74 = .ok (.iand, 1) := by decide +kernel
theorem dX0_burn_75 : decode cX0_burn 75 = .ok (.iconst 1, 1) := by decide +kernel
theorem dX0_burn_76 : decode cX0_burn 76 = .ok (.if_icmp .ne 7, 3) := by decide +kernel
theorem dX0_burn_79 : decode cX0_burn 79 = .ok (.iconst 1, 1) := by decide +kernel
theorem dX0_burn_80 : decode cX0_burn 80 = .ok (.goto 4, 3) := by decide +kernel
theorem dX0_burn_83 : decode cX0_burn 83 = .ok (.iconst 0, 1) := by decide +kernel
theorem dX0_burn_84 : decode cX0_burn 84 = .ok (.istore 4, 2) := by decide +kernel
theorem dX0_burn_86 : decode cX0_burn 86 = .ok (.aload_n 0, 1) := by decide +kernel
theorem dX0_burn_87 : decode cX0_burn 87 = .ok (.getfield 33, 3) := by decide +kernel
theorem dX0_burn_90 : decode cX0_burn 90 = .ok (.iload_n 3, 1) := by decide +kernel
theorem dX0_burn_91 : decode cX0_burn 91 = .ok (.iload 4, 2) := by decide +kernel
theorem dX0_burn_93 : decode cX0_burn 93 = .ok (.ifCond .eq 8, 3) := by decide +kernel
theorem dX0_burn_96 : decode cX0_burn 96 = .ok (.bipush (-9), 2) := by decide +kernel
theorem dX0_burn_98 : decode cX0_burn 98 = .ok (.goto 8, 3) := by decide +kernel
theorem dX0_burn_101 : decode cX0_burn 101 = .ok (.aload_n 0, 1) := by decide +kernel
theorem dX0_burn_102 : decode cX0_burn 102 = .ok (.iload_n 3, 1) := by decide +kernel
theorem dX0_burn_103 : decode cX0_burn 103 = .ok (.invokevirtual 90, 3) := by decide +kernel
theorem dX0_burn_106 : decode cX0_burn 106 = .ok (.iastore, 1) := by decide +kernel
theorem dX0_burn_107 : decode cX0_burn 107 = .ok (.iinc 3 1, 3) := by decide +kernel
theorem dX0_burn_110 : decode cX0_burn 110 = .ok (.goto (-62), 3) := by decide +kernel
theorem dX0_burn_113 : decode cX0_burn 113 = .ok (.aload_n 0, 1) := by decide +kernel
theorem dX0_burn_114 : decode cX0_burn 114 = .ok (.iload_n 3, 1) := by decide +kernel
theorem dX0_burn_115 : decode cX0_burn 115 = .ok (.iconst 1, 1) := by decide +kernel
theorem dX0_burn_116 : decode cX0_burn 116 = .ok (.isub, 1) := by decide +kernel
theorem dX0_burn_117 : decode cX0_burn 117 = .ok (.putfield 93, 3) := by decide +kernel
theorem dX0_burn_120 : decode cX0_burn 120 = .ok (.return_, 1) := by decide +kernel
theorem dX0_speak_0 : decode cX0_speak 0 = .ok (.aload_n 0, 1) := by decide +kernel
theorem dX0_speak_1 : decode cX0_speak 1 = .ok (.aload_n 0, 1) := by decide +kernel
theorem dX0_speak_2 : decode cX0_speak 2 = .ok (.iload_n 1, 1) := by decide +kernel
theorem dX0_speak_3 : decode cX0_speak 3 = .ok (.invokevirtual 96, 3) := by decide +kernel
theorem dX0_speak_6 : decode cX0_speak 6 = .ok (.invokevirtual 99, 3) := by decide +kernel
theorem dX0_speak_9 : decode cX0_speak 9 = .ok (.istore_n 2, 1) := by decide +kernel
theorem dX0_speak_10 : decode cX0_speak 10 = .ok (.iload_n 1, 1) := by decide +kernel
theorem dX0_speak_11 : decode cX0_speak 11 = .ok (.istore_n 3, 1) := by decide +kernel
theorem dX0_speak_12 : decode cX0_speak 12 = .ok (.iload_n 3, 1) := by decide +kernel
theorem dX0_speak_13 : decode cX0_speak 13 = .ok (.aload_n 0, 1) := by decide +kernel
theorem dX0_speak_14 : decode cX0_speak 14 = .ok (.getfield 87, 3) := by decide +kernel
theorem dX0_speak_17 : decode cX0_speak 17 = .ok (.if_icmp .gt 57, 3) := by decide +kernel
theorem dX0_speak_20 : decode cX0_speak 20 = .ok (.iload_n 3, 1) := by decide +kernel
theorem dX0_speak_21 : decode cX0_speak 21 = .ok (.bipush 101, 2) := by decide +kernel
theorem dX0_speak_23 : decode cX0_speak 23 = .ok (.if_icmp .ge 51, 3) := by decide +kernel
theorem dX0_speak_26 : decode cX0_speak 26 = .ok (.aload_n 0, 1) := by decide +kernel
theorem dX0_speak_27 : decode cX0_speak 27 = .ok (.aload_n 0, 1) := by decide +kernel
theorem dX0_speak_28 : decode cX0_speak 28 = .ok (.getfield 24, 3) := by decide +kernel
theorem dX0_speak_31 : decode cX0_speak 31 = .ok (.iload_n 3, 1) := by decide +kernel
theorem dX0_speak_32 : decode cX0_speak 32 = .ok (.iaload, 1) := by decide +kernel
theorem dX0_speak_33 : decode cX0_speak 33 = .ok (.iload_n 2, 1) := by decide +kernel
theorem dX0_speak_34 : decode cX0_speak 34 = .ok (.iand, 1) := by decide +kernel
theorem dX0_speak_35 : decode cX0_speak 35 = .ok (.invokevirtual 102, 3) := by decide +kernel
theorem dX0_speak_38 : decode cX0_speak 38 = .ok (.istore 4, 2) := by decide +kernel
theorem dX0_speak_40 : decode cX0_speak 40 = .ok (.iload 4, 2) := by decide +kernel
theorem dX0_speak_42 : decode cX0_speak 42 = .ok (.bipush (-9), 2) := by decide +kernel
theorem dX0_speak_44 : decode cX0_speak 44 = .ok (.if_icmp .eq 24, 3) := by decide +kernel
theorem dX0_speak_47 : decode cX0_speak 47 = .ok (.aload_n 0, 1) := by decide +kernel
theorem dX0_speak_48 : decode cX0_speak 48 = .ok (.dup, 1) := by decide +kernel
theorem dX0_speak_49 : decode cX0_speak 49 = .ok (.getfield 77, 3) := by decide +kernel
theorem dX0_speak_52 : decode cX0_speak 52 = .ok (.iconst 1, 1) := by decide +kernel
theorem dX0_speak_53 : decode cX0_speak 53 = .ok (.iload 4, 2) := by decide +kernel
theorem dX0_speak_55 : decode cX0_speak 55 = .ok (.ishl, 1) := by decide +kernel
theorem dX0_speak_56 : decode cX0_speak 56 = .ok (.ior, 1) := by decide +kernel
theorem dX0_speak_57 : decode cX0_speak 57 = .ok (.putfield 77, 3) := by decide +kernel
theorem dX0_speak_60 : decode cX0_speak 60 = .ok (.aload_n 0, 1) := by decide +kernel
theorem dX0_speak_61 : decode cX0_speak 61 = .ok (.iload_n 3, 1) := by decide +kernel
theorem dX0_speak_62 : decode cX0_speak 62 = .ok (.invokevirtual 83, 3) := by decide +kernel
theorem dX0_speak_65 : decode cX0_speak 65 = .ok (.iload 4, 2) := by decide +kernel
theorem dX0_speak_67 : decode cX0_speak 67 = .ok (.ireturn, 1) := by decide +kernel
theorem dX0_speak_68 : decode cX0_speak 68 = .ok (.iinc 3 1, 3) := by decide +kernel
theorem dX0_speak_71 : decode cX0_speak 71 = .ok (.goto (-59), 3) := by decide +kernel
theorem dX0_speak_74 : decode cX0_speak 74 = .ok (.bipush (-9), 2) := by decide +kernel
theorem dX0_speak_76 : decode cX0_speak 76 = .ok (.ireturn, 1) := by decide +kernel
theorem dX0_sayableBy_0 : decode cX0_sayableBy 0 = .ok (.iload_n 1, 1) := by decide +kernel
theorem dX0_sayableBy_1 : decode cX0_sayableBy 1 = .ok (.ifCond .lt 20, 3) := by decide +kernel
theorem dX0_sayableBy_4 : decode cX0_sayableBy 4 = .ok (.iload_n 1, 1) := by decide +kernel
theorem dX0_sayableBy_5 : decode cX0_sayableBy 5 = .ok (.aload_n 0, 1) := by decide +kernel
theorem dX0_sayableBy_6 : decode cX0_sayableBy 6 = .ok (.getfield 63, 3) := by decide +kernel
theorem dX0_sayableBy_9 : decode cX0_sayableBy 9 = .ok (.if_icmp .ge 12, 3) := by decide +kernel
theorem dX0_sayableBy_12 : decode cX0_sayableBy 12 = .ok (.aload_n 0, 1) := by decide +kernel
theorem dX0_sayableBy_13 : decode cX0_sayableBy 13 = .ok (.getfield 18, 3) := by decide +kernel
theorem dX0_sayableBy_16 : decode cX0_sayableBy 16 = .ok (.iload_n 1, 1) := by decide +kernel
theorem dX0_sayableBy_17 : decode cX0_sayableBy 17 = .ok (.iaload, 1) := by decide +kernel
theorem dX0_sayableBy_18 : decode cX0_sayableBy 18 = .ok (.goto 4, 3) := by decide +kernel
theorem dX0_sayableBy_21 : decode cX0_sayableBy 21 = .ok (.iconst 0, 1) := by decide +kernel
theorem dX0_sayableBy_22 : decode cX0_sayableBy 22 = .ok (.ireturn, 1) := by decide +kernel
theorem dX0_dearest_0 : decode cX0_dearest 0 = .ok (.bipush (-9), 2) := by decide +kernel
theorem dX0_dearest_2 : decode cX0_dearest 2 = .ok (.istore_n 2, 1) := by decide +kernel
theorem dX0_dearest_3 : decode cX0_dearest 3 = .ok (.iconst (-1), 1) := by decide +kernel
theorem dX0_dearest_4 : decode cX0_dearest 4 = .ok (.istore_n 3, 1) := by decide +kernel
theorem dX0_dearest_5 : decode cX0_dearest 5 = .ok (.iconst 0, 1) := by decide +kernel
theorem dX0_dearest_6 : decode cX0_dearest 6 = .ok (.istore 4, 2) := by decide +kernel
theorem dX0_dearest_8 : decode cX0_dearest 8 = .ok (.iload 4, 2) := by decide +kernel
theorem dX0_dearest_10 : decode cX0_dearest 10 = .ok (.bipush 25, 2) := by decide +kernel
theorem dX0_dearest_12 : decode cX0_dearest 12 = .ok (.if_icmp .ge 48, 3) := by decide +kernel
theorem dX0_dearest_15 : decode cX0_dearest 15 = .ok (.iload_n 1, 1) := by decide +kernel
theorem dX0_dearest_16 : decode cX0_dearest 16 = .ok (.iload 4, 2) := by decide +kernel
theorem dX0_dearest_18 : decode cX0_dearest 18 = .ok (.ishr, 1) := by decide +kernel
theorem dX0_dearest_19 : decode cX0_dearest 19 = .ok (.ifCond .eq 41, 3) := by decide +kernel
theorem dX0_dearest_22 : decode cX0_dearest 22 = .ok (.iload_n 1, 1) := by decide +kernel
theorem dX0_dearest_23 : decode cX0_dearest 23 = .ok (.iload 4, 2) := by decide +kernel
theorem dX0_dearest_25 : decode cX0_dearest 25 = .ok (.ishr, 1) := by decide +kernel
theorem dX0_dearest_26 : decode cX0_dearest 26 = .ok (.iconst 1, 1) := by decide +kernel
theorem dX0_dearest_27 : decode cX0_dearest 27 = .ok (.iand, 1) := by decide +kernel
theorem dX0_dearest_28 : decode cX0_dearest 28 = .ok (.iconst 1, 1) := by decide +kernel
theorem dX0_dearest_29 : decode cX0_dearest 29 = .ok (.if_icmp .ne 25, 3) := by decide +kernel
theorem dX0_dearest_32 : decode cX0_dearest 32 = .ok (.aload_n 0, 1) := by decide +kernel
theorem dX0_dearest_33 : decode cX0_dearest 33 = .ok (.getfield 15, 3) := by decide +kernel
theorem dX0_dearest_36 : decode cX0_dearest 36 = .ok (.iload 4, 2) := by decide +kernel
theorem dX0_dearest_38 : decode cX0_dearest 38 = .ok (.iaload, 1) := by decide +kernel
theorem dX0_dearest_39 : decode cX0_dearest 39 = .ok (.iload_n 3, 1) := by decide +kernel
theorem dX0_dearest_40 : decode cX0_dearest 40 = .ok (.if_icmp .le 14, 3) := by decide +kernel
theorem dX0_dearest_43 : decode cX0_dearest 43 = .ok (.aload_n 0, 1) := by decide +kernel
theorem dX0_dearest_44 : decode cX0_dearest 44 = .ok (.getfield 15, 3) := by decide +kernel
theorem dX0_dearest_47 : decode cX0_dearest 47 = .ok (.iload 4, 2) := by decide +kernel
theorem dX0_dearest_49 : decode cX0_dearest 49 = .ok (.iaload, 1) := by decide +kernel
theorem dX0_dearest_50 : decode cX0_dearest 50 = .ok (.istore_n 3, 1) := by decide +kernel
theorem dX0_dearest_51 : decode cX0_dearest 51 = .ok (.iload 4, 2) := by decide +kernel
theorem dX0_dearest_53 : decode cX0_dearest 53 = .ok (.istore_n 2, 1) := by decide +kernel
theorem dX0_dearest_54 : decode cX0_dearest 54 = .ok (.iinc 4 1, 3) := by decide +kernel
theorem dX0_dearest_57 : decode cX0_dearest 57 = .ok (.goto (-49), 3) := by decide +kernel
theorem dX0_dearest_60 : decode cX0_dearest 60 = .ok (.iload_n 2, 1) := by decide +kernel
theorem dX0_dearest_61 : decode cX0_dearest 61 = .ok (.ireturn, 1) := by decide +kernel
theorem dX0_spreadFrom_0 : decode cX0_spreadFrom 0 = .ok (.aload_n 0, 1) := by decide +kernel
theorem dX0_spreadFrom_1 : decode cX0_spreadFrom 1 = .ok (.iload_n 1, 1) := by decide +kernel
theorem dX0_spreadFrom_2 : decode cX0_spreadFrom 2 = .ok (.iconst 1, 1) := by decide +kernel
theorem dX0_spreadFrom_3 : decode cX0_spreadFrom 3 = .ok (.isub, 1) := by decide +kernel
theorem dX0_spreadFrom_4 : decode cX0_spreadFrom 4 = .ok (.putfield 87, 3) := by decide +kernel
theorem dX0_spreadFrom_7 : decode cX0_spreadFrom 7 = .ok (.aload_n 0, 1) := by decide +kernel
theorem dX0_spreadFrom_8 : decode cX0_spreadFrom 8 = .ok (.getfield 87, 3) := by decide +kernel
theorem dX0_spreadFrom_11 : decode cX0_spreadFrom 11 = .ok (.ifCond .le 28, 3) := by decide +kernel
theorem dX0_spreadFrom_14 : decode cX0_spreadFrom 14 = .ok (.aload_n 0, 1) := by decide +kernel
theorem dX0_spreadFrom_15 : decode cX0_spreadFrom 15 = .ok (.getfield 24, 3) := by decide +kernel
theorem dX0_spreadFrom_18 : decode cX0_spreadFrom 18 = .ok (.aload_n 0, 1) := by decide +kernel
theorem dX0_spreadFrom_19 : decode cX0_spreadFrom 19 = .ok (.getfield 87, 3) := by decide +kernel
theorem dX0_spreadFrom_22 : decode cX0_spreadFrom 22 = .ok (.iaload, 1) := by decide +kernel
theorem dX0_spreadFrom_23 : decode cX0_spreadFrom 23 = .ok (.ifCond .ne 16, 3) := by decide +kernel
theorem dX0_spreadFrom_26 : decode cX0_spreadFrom 26 = .ok (.aload_n 0, 1) := by decide +kernel
theorem dX0_spreadFrom_27 : decode cX0_spreadFrom 27 = .ok (.dup, 1) := by decide +kernel
theorem dX0_spreadFrom_28 : decode cX0_spreadFrom 28 = .ok (.getfield 87, 3) := by decide +kernel
theorem dX0_spreadFrom_31 : decode cX0_spreadFrom 31 = .ok (.iconst 1, 1) := by decide +kernel
theorem dX0_spreadFrom_32 : decode cX0_spreadFrom 32 = .ok (.isub, 1) := by decide +kernel
theorem dX0_spreadFrom_33 : decode cX0_spreadFrom 33 = .ok (.putfield 87, 3) := by decide +kernel
theorem dX0_spreadFrom_36 : decode cX0_spreadFrom 36 = .ok (.goto (-29), 3) := by decide +kernel
theorem dX0_spreadFrom_39 : decode cX0_spreadFrom 39 = .ok (.iload_n 1, 1) := by decide +kernel
theorem dX0_spreadFrom_40 : decode cX0_spreadFrom 40 = .ok (.istore_n 2, 1) := by decide +kernel
theorem dX0_spreadFrom_41 : decode cX0_spreadFrom 41 = .ok (.iload_n 2, 1) := by decide +kernel
theorem dX0_spreadFrom_42 : decode cX0_spreadFrom 42 = .ok (.bipush 101, 2) := by decide +kernel
theorem dX0_spreadFrom_44 : decode cX0_spreadFrom 44 = .ok (.if_icmp .ge 90, 3) := by decide +kernel
theorem dX0_spreadFrom_47 : decode cX0_spreadFrom 47 = .ok (.iload_n 2, 1) := by decide +kernel
theorem dX0_spreadFrom_48 : decode cX0_spreadFrom 48 = .ok (.aload_n 0, 1) := by decide +kernel
theorem dX0_spreadFrom_49 : decode cX0_spreadFrom 49 = .ok (.getfield 87, 3) := by decide +kernel
theorem dX0_spreadFrom_52 : decode cX0_spreadFrom 52 = .ok (.iconst 4, 1) := by decide +kernel
theorem dX0_spreadFrom_53 : decode cX0_spreadFrom 53 = .ok (.iadd, 1) := by decide +kernel
theorem dX0_spreadFrom_54 : decode cX0_spreadFrom 54 = .ok (.if_icmp .gt 80, 3) := by decide +kernel
theorem dX0_spreadFrom_57 : decode cX0_spreadFrom 57 = .ok (.aload_n 0, 1) := by decide +kernel
theorem dX0_spreadFrom_58 : decode cX0_spreadFrom 58 = .ok (.iload_n 2, 1) := by decide +kernel
theorem dX0_spreadFrom_59 : decode cX0_spreadFrom 59 = .ok (.invokevirtual 105, 3) := by decide +kernel
theorem dX0_spreadFrom_62 : decode cX0_spreadFrom 62 = .ok (.aload_n 0, 1) := by decide +kernel
theorem dX0_spreadFrom_63 : decode cX0_spreadFrom 63 = .ok (.getfield 27, 3) := by decide +kernel
theorem dX0_spreadFrom_66 : decode cX0_spreadFrom 66 = .ok (.iload_n 2, 1) := by decide +kernel
theorem dX0_spreadFrom_67 : decode cX0_spreadFrom 67 = .ok (.iconst 1, 1) := by decide +kernel
theorem dX0_spreadFrom_68 : decode cX0_spreadFrom 68 = .ok (.isub, 1) := by decide +kernel
theorem dX0_spreadFrom_69 : decode cX0_spreadFrom 69 = .ok (.iaload, 1) := by decide +kernel
theorem dX0_spreadFrom_70 : decode cX0_spreadFrom 70 = .ok (.iconst (-1), 1) := by decide +kernel
theorem dX0_spreadFrom_71 : decode cX0_spreadFrom 71 = .ok (.ixor, 1) := by decide +kernel
theorem dX0_spreadFrom_72 : decode cX0_spreadFrom 72 = .ok (.iand, 1) := by decide +kernel
theorem dX0_spreadFrom_73 : decode cX0_spreadFrom 73 = .ok (.aload_n 0, 1) := by decide +kernel
theorem dX0_spreadFrom_74 : decode cX0_spreadFrom 74 = .ok (.getfield 77, 3) := by decide +kernel
theorem dX0_spreadFrom_77 : decode cX0_spreadFrom 77 = .ok (.iconst (-1), 1) := by decide +kernel
theorem dX0_spreadFrom_78 : decode cX0_spreadFrom 78 = .ok (.ixor, 1) := by decide +kernel
theorem dX0_spreadFrom_79 : decode cX0_spreadFrom 79 = .ok (.iand, 1) := by decide +kernel
theorem dX0_spreadFrom_80 : decode cX0_spreadFrom 80 = .ok (.istore_n 3, 1) := by decide +kernel
theorem dX0_spreadFrom_81 : decode cX0_spreadFrom 81 = .ok (.aload_n 0, 1) := by decide +kernel
theorem dX0_spreadFrom_82 : decode cX0_spreadFrom 82 = .ok (.getfield 24, 3) := by decide +kernel
theorem dX0_spreadFrom_85 : decode cX0_spreadFrom 85 = .ok (.iload_n 2, 1) := by decide +kernel
theorem dX0_spreadFrom_86 : decode cX0_spreadFrom 86 = .ok (.iload_n 3, 1) := by decide +kernel
theorem dX0_spreadFrom_87 : decode cX0_spreadFrom 87 = .ok (.iastore, 1) := by decide +kernel
theorem dX0_spreadFrom_88 : decode cX0_spreadFrom 88 = .ok (.aload_n 0, 1) := by decide +kernel
theorem dX0_spreadFrom_89 : decode cX0_spreadFrom 89 = .ok (.getfield 27, 3) := by decide +kernel
theorem dX0_spreadFrom_92 : decode cX0_spreadFrom 92 = .ok (.iload_n 2, 1) := by decide +kernel
theorem dX0_spreadFrom_93 : decode cX0_spreadFrom 93 = .ok (.aload_n 0, 1) := by decide +kernel
theorem dX0_spreadFrom_94 : decode cX0_spreadFrom 94 = .ok (.getfield 27, 3) := by decide +kernel
theorem dX0_spreadFrom_97 : decode cX0_spreadFrom 97 = .ok (.iload_n 2, 1) := by decide +kernel
theorem dX0_spreadFrom_98 : decode cX0_spreadFrom 98 = .ok (.iconst 1, 1) := by decide +kernel
theorem dX0_spreadFrom_99 : decode cX0_spreadFrom 99 = .ok (.isub, 1) := by decide +kernel
theorem dX0_spreadFrom_100 : decode cX0_spreadFrom 100 = .ok (.iaload, 1) := by decide +kernel
theorem dX0_spreadFrom_101 : decode cX0_spreadFrom 101 = .ok (.iload_n 3, 1) := by decide +kernel
theorem dX0_spreadFrom_102 : decode cX0_spreadFrom 102 = .ok (.ior, 1) := by decide +kernel
theorem dX0_spreadFrom_103 : decode cX0_spreadFrom 103 = .ok (.iastore, 1) := by decide +kernel
theorem dX0_spreadFrom_104 : decode cX0_spreadFrom 104 = .ok (.aload_n 0, 1) := by decide +kernel
theorem dX0_spreadFrom_105 : decode cX0_spreadFrom 105 = .ok (.getfield 30, 3) := by decide +kernel
theorem dX0_spreadFrom_108 : decode cX0_spreadFrom 108 = .ok (.iload_n 2, 1) := by decide +kernel
theorem dX0_spreadFrom_109 : decode cX0_spreadFrom 109 = .ok (.aload_n 0, 1) := by decide +kernel
theorem dX0_spreadFrom_110 : decode cX0_spreadFrom 110 = .ok (.getfield 27, 3) := by decide +kernel
theorem dX0_spreadFrom_113 : decode cX0_spreadFrom 113 = .ok (.iload_n 2, 1) := by decide +kernel
theorem dX0_spreadFrom_114 : decode cX0_spreadFrom 114 = .ok (.iaload, 1) := by decide +kernel
theorem dX0_spreadFrom_115 : decode cX0_spreadFrom 115 = .ok (.invokestatic 80, 3) := by decide +kernel
theorem dX0_spreadFrom_118 : decode cX0_spreadFrom 118 = .ok (.iastore, 1) := by decide +kernel
theorem dX0_spreadFrom_119 : decode cX0_spreadFrom 119 = .ok (.iload_n 3, 1) := by decide +kernel
theorem dX0_spreadFrom_120 : decode cX0_spreadFrom 120 = .ok (.ifCond .eq 8, 3) := by decide +kernel
theorem dX0_spreadFrom_123 : decode cX0_spreadFrom 123 = .ok (.aload_n 0, 1) := by decide +kernel
theorem dX0_spreadFrom_124 : decode cX0_spreadFrom 124 = .ok (.iload_n 2, 1) := by decide +kernel
theorem dX0_spreadFrom_125 : decode cX0_spreadFrom 125 = .ok (.putfield 87, 3) := by decide +kernel
theorem dX0_spreadFrom_128 : decode cX0_spreadFrom 128 = .ok (.iinc 2 1, 3) := by decide +kernel
theorem dX0_spreadFrom_131 : decode cX0_spreadFrom 131 = .ok (.goto (-90), 3) := by decide +kernel
theorem dX0_spreadFrom_134 : decode cX0_spreadFrom 134 = .ok (.return_, 1) := by decide +kernel
theorem dX0_caughtIn_0 : decode cX0_caughtIn 0 = .ok (.iconst 0, 1) := by decide +kernel
theorem dX0_caughtIn_1 : decode cX0_caughtIn 1 = .ok (.istore_n 2, 1) := by decide +kernel
theorem dX0_caughtIn_2 : decode cX0_caughtIn 2 = .ok (.iconst 1, 1) := by decide +kernel
theorem dX0_caughtIn_3 : decode cX0_caughtIn 3 = .ok (.istore_n 3, 1) := by decide +kernel
theorem dX0_caughtIn_4 : decode cX0_caughtIn 4 = .ok (.iload_n 3, 1) := by decide +kernel
theorem dX0_caughtIn_5 : decode cX0_caughtIn 5 = .ok (.iconst 4, 1) := by decide +kernel
theorem dX0_caughtIn_6 : decode cX0_caughtIn 6 = .ok (.if_icmp .gt 32, 3) := by decide +kernel
theorem dX0_caughtIn_9 : decode cX0_caughtIn 9 = .ok (.iload_n 3, 1) := by decide +kernel
theorem dX0_caughtIn_10 : decode cX0_caughtIn 10 = .ok (.iload_n 1, 1) := by decide +kernel
theorem dX0_caughtIn_11 : decode cX0_caughtIn 11 = .ok (.if_icmp .gt 27, 3) := by decide +kernel
theorem dX0_caughtIn_14 : decode cX0_caughtIn 14 = .ok (.iload_n 2, 1) := by decide +kernel
theorem dX0_caughtIn_15 : decode cX0_caughtIn 15 = .ok (.aload_n 0, 1) := by decide +kernel
theorem dX0_caughtIn_16 : decode cX0_caughtIn 16 = .ok (.getfield 11, 3) := by decide +kernel
theorem dX0_caughtIn_19 : decode cX0_caughtIn 19 = .ok (.iload_n 3, 1) := by decide +kernel
theorem dX0_caughtIn_20 : decode cX0_caughtIn 20 = .ok (.iaload, 1) := by decide +kernel
theorem dX0_caughtIn_21 : decode cX0_caughtIn 21 = .ok (.aload_n 0, 1) := by decide +kernel
theorem dX0_caughtIn_22 : decode cX0_caughtIn 22 = .ok (.getfield 30, 3) := by decide +kernel
theorem dX0_caughtIn_25 : decode cX0_caughtIn 25 = .ok (.iload_n 1, 1) := by decide +kernel
theorem dX0_caughtIn_26 : decode cX0_caughtIn 26 = .ok (.iload_n 3, 1) := by decide +kernel
theorem dX0_caughtIn_27 : decode cX0_caughtIn 27 = .ok (.isub, 1) := by decide +kernel
theorem dX0_caughtIn_28 : decode cX0_caughtIn 28 = .ok (.iaload, 1) := by decide +kernel
theorem dX0_caughtIn_29 : decode cX0_caughtIn 29 = .ok (.iand, 1) := by decide +kernel
theorem dX0_caughtIn_30 : decode cX0_caughtIn 30 = .ok (.ior, 1) := by decide +kernel
theorem dX0_caughtIn_31 : decode cX0_caughtIn 31 = .ok (.istore_n 2, 1) := by decide +kernel
theorem dX0_caughtIn_32 : decode cX0_caughtIn 32 = .ok (.iinc 3 1, 3) := by decide +kernel
theorem dX0_caughtIn_35 : decode cX0_caughtIn 35 = .ok (.goto (-31), 3) := by decide +kernel
theorem dX0_caughtIn_38 : decode cX0_caughtIn 38 = .ok (.iload_n 2, 1) := by decide +kernel
theorem dX0_caughtIn_39 : decode cX0_caughtIn 39 = .ok (.ireturn, 1) := by decide +kernel
theorem dX0_allBeside_0 : decode cX0_allBeside 0 = .ok (.iload_n 0, 1) := by decide +kernel
theorem dX0_allBeside_1 : decode cX0_allBeside 1 = .ok (.ldc 108, 2) := by decide +kernel
theorem dX0_allBeside_3 : decode cX0_allBeside 3 = .ok (.iand, 1) := by decide +kernel
theorem dX0_allBeside_4 : decode cX0_allBeside 4 = .ok (.iconst 1, 1) := by decide +kernel
theorem dX0_allBeside_5 : decode cX0_allBeside 5 = .ok (.ishl, 1) := by decide +kernel
theorem dX0_allBeside_6 : decode cX0_allBeside 6 = .ok (.iload_n 0, 1) := by decide +kernel
theorem dX0_allBeside_7 : decode cX0_allBeside 7 = .ok (.ldc 109, 2) := by decide +kernel
theorem dX0_allBeside_9 : decode cX0_allBeside 9 = .ok (.iand, 1) := by decide +kernel
theorem dX0_allBeside_10 : decode cX0_allBeside 10 = .ok (.iconst 1, 1) := by decide +kernel
theorem dX0_allBeside_11 : decode cX0_allBeside 11 = .ok (.ishr, 1) := by decide +kernel
theorem dX0_allBeside_12 : decode cX0_allBeside 12 = .ok (.ior, 1) := by decide +kernel
theorem dX0_allBeside_13 : decode cX0_allBeside 13 = .ok (.istore_n 1, 1) := by decide +kernel
theorem dX0_allBeside_14 : decode cX0_allBeside 14 = .ok (.iload_n 1, 1) := by decide +kernel
theorem dX0_allBeside_15 : decode cX0_allBeside 15 = .ok (.iload_n 0, 1) := by decide +kernel
theorem dX0_allBeside_16 : decode cX0_allBeside 16 = .ok (.iconst 5, 1) := by decide +kernel
theorem dX0_allBeside_17 : decode cX0_allBeside 17 = .ok (.ishl, 1) := by decide +kernel
theorem dX0_allBeside_18 : decode cX0_allBeside 18 = .ok (.ior, 1) := by decide +kernel
theorem dX0_allBeside_19 : decode cX0_allBeside 19 = .ok (.iload_n 0, 1) := by decide +kernel
theorem dX0_allBeside_20 : decode cX0_allBeside 20 = .ok (.iconst 5, 1) := by decide +kernel
theorem dX0_allBeside_21 : decode cX0_allBeside 21 = .ok (.ishr, 1) := by decide +kernel
theorem dX0_allBeside_22 : decode cX0_allBeside 22 = .ok (.ior, 1) := by decide +kernel
theorem dX0_allBeside_23 : decode cX0_allBeside 23 = .ok (.ldc 110, 2) := by decide +kernel
theorem dX0_allBeside_25 : decode cX0_allBeside 25 = .ok (.iand, 1) := by decide +kernel
theorem dX0_allBeside_26 : decode cX0_allBeside 26 = .ok (.ireturn, 1) := by decide +kernel
theorem dX0_roomsBurnt_0 : decode cX0_roomsBurnt 0 = .ok (.aload_n 0, 1) := by decide +kernel
theorem dX0_roomsBurnt_1 : decode cX0_roomsBurnt 1 = .ok (.invokevirtual 111, 3) := by decide +kernel
theorem dX0_roomsBurnt_4 : decode cX0_roomsBurnt 4 = .ok (.invokestatic 115, 3) := by decide +kernel
theorem dX0_roomsBurnt_7 : decode cX0_roomsBurnt 7 = .ok (.ireturn, 1) := by decide +kernel
theorem dX0_worthBurnt_0 : decode cX0_worthBurnt 0 = .ok (.aload_n 0, 1) := by decide +kernel
theorem dX0_worthBurnt_1 : decode cX0_worthBurnt 1 = .ok (.invokevirtual 111, 3) := by decide +kernel
theorem dX0_worthBurnt_4 : decode cX0_worthBurnt 4 = .ok (.istore_n 1, 1) := by decide +kernel
theorem dX0_worthBurnt_5 : decode cX0_worthBurnt 5 = .ok (.iconst 0, 1) := by decide +kernel
theorem dX0_worthBurnt_6 : decode cX0_worthBurnt 6 = .ok (.istore_n 2, 1) := by decide +kernel
theorem dX0_worthBurnt_7 : decode cX0_worthBurnt 7 = .ok (.iconst 0, 1) := by decide +kernel
theorem dX0_worthBurnt_8 : decode cX0_worthBurnt 8 = .ok (.istore_n 3, 1) := by decide +kernel
theorem dX0_worthBurnt_9 : decode cX0_worthBurnt 9 = .ok (.iload_n 3, 1) := by decide +kernel
theorem dX0_worthBurnt_10 : decode cX0_worthBurnt 10 = .ok (.bipush 25, 2) := by decide +kernel
theorem dX0_worthBurnt_12 : decode cX0_worthBurnt 12 = .ok (.if_icmp .ge 27, 3) := by decide +kernel
theorem dX0_worthBurnt_15 : decode cX0_worthBurnt 15 = .ok (.iload_n 1, 1) := by decide +kernel
theorem dX0_worthBurnt_16 : decode cX0_worthBurnt 16 = .ok (.iload_n 3, 1) := by decide +kernel
theorem dX0_worthBurnt_17 : decode cX0_worthBurnt 17 = .ok (.ishr, 1) := by decide +kernel
theorem dX0_worthBurnt_18 : decode cX0_worthBurnt 18 = .ok (.iconst 1, 1) := by decide +kernel
theorem dX0_worthBurnt_19 : decode cX0_worthBurnt 19 = .ok (.iand, 1) := by decide +kernel
theorem dX0_worthBurnt_20 : decode cX0_worthBurnt 20 = .ok (.iconst 1, 1) := by decide +kernel
theorem dX0_worthBurnt_21 : decode cX0_worthBurnt 21 = .ok (.if_icmp .ne 12, 3) := by decide +kernel
theorem dX0_worthBurnt_24 : decode cX0_worthBurnt 24 = .ok (.iload_n 2, 1) := by decide +kernel
theorem dX0_worthBurnt_25 : decode cX0_worthBurnt 25 = .ok (.aload_n 0, 1) := by decide +kernel
theorem dX0_worthBurnt_26 : decode cX0_worthBurnt 26 = .ok (.getfield 15, 3) := by decide +kernel
theorem dX0_worthBurnt_29 : decode cX0_worthBurnt 29 = .ok (.iload_n 3, 1) := by decide +kernel
theorem dX0_worthBurnt_30 : decode cX0_worthBurnt 30 = .ok (.iaload, 1) := by decide +kernel
theorem dX0_worthBurnt_31 : decode cX0_worthBurnt 31 = .ok (.iadd, 1) := by decide +kernel
theorem dX0_worthBurnt_32 : decode cX0_worthBurnt 32 = .ok (.istore_n 2, 1) := by decide +kernel
theorem dX0_worthBurnt_33 : decode cX0_worthBurnt 33 = .ok (.iinc 3 1, 3) := by decide +kernel
theorem dX0_worthBurnt_36 : decode cX0_worthBurnt 36 = .ok (.goto (-27), 3) := by decide +kernel
theorem dX0_worthBurnt_39 : decode cX0_worthBurnt 39 = .ok (.iload_n 2, 1) := by decide +kernel
theorem dX0_worthBurnt_40 : decode cX0_worthBurnt 40 = .ok (.ireturn, 1) := by decide +kernel
theorem dX0_burnt_0 : decode cX0_burnt 0 = .ok (.aload_n 0, 1) := by decide +kernel
theorem dX0_burnt_1 : decode cX0_burnt 1 = .ok (.getfield 27, 3) := by decide +kernel
theorem dX0_burnt_4 : decode cX0_burnt 4 = .ok (.aload_n 0, 1) := by decide +kernel
theorem dX0_burnt_5 : decode cX0_burnt 5 = .ok (.getfield 87, 3) := by decide +kernel
theorem dX0_burnt_8 : decode cX0_burnt 8 = .ok (.iaload, 1) := by decide +kernel
theorem dX0_burnt_9 : decode cX0_burnt 9 = .ok (.ireturn, 1) := by decide +kernel
theorem dX0_lastMinute_0 : decode cX0_lastMinute 0 = .ok (.aload_n 0, 1) := by decide +kernel
theorem dX0_lastMinute_1 : decode cX0_lastMinute 1 = .ok (.getfield 87, 3) := by decide +kernel
theorem dX0_lastMinute_4 : decode cX0_lastMinute 4 = .ok (.ireturn, 1) := by decide +kernel
theorem dX0_minuteBurnt_0 : decode cX0_minuteBurnt 0 = .ok (.iconst 0, 1) := by decide +kernel
theorem dX0_minuteBurnt_1 : decode cX0_minuteBurnt 1 = .ok (.istore_n 2, 1) := by decide +kernel
theorem dX0_minuteBurnt_2 : decode cX0_minuteBurnt 2 = .ok (.iload_n 2, 1) := by decide +kernel
theorem dX0_minuteBurnt_3 : decode cX0_minuteBurnt 3 = .ok (.aload_n 0, 1) := by decide +kernel
theorem dX0_minuteBurnt_4 : decode cX0_minuteBurnt 4 = .ok (.getfield 87, 3) := by decide +kernel
theorem dX0_minuteBurnt_7 : decode cX0_minuteBurnt 7 = .ok (.if_icmp .gt 25, 3) := by decide +kernel
theorem dX0_minuteBurnt_10 : decode cX0_minuteBurnt 10 = .ok (.aload_n 0, 1) := by decide +kernel
theorem dX0_minuteBurnt_11 : decode cX0_minuteBurnt 11 = .ok (.getfield 24, 3) := by decide +kernel
theorem dX0_minuteBurnt_14 : decode cX0_minuteBurnt 14 = .ok (.iload_n 2, 1) := by decide +kernel
theorem dX0_minuteBurnt_15 : decode cX0_minuteBurnt 15 = .ok (.iaload, 1) := by decide +kernel
theorem dX0_minuteBurnt_16 : decode cX0_minuteBurnt 16 = .ok (.iload_n 1, 1) := by decide +kernel
theorem dX0_minuteBurnt_17 : decode cX0_minuteBurnt 17 = .ok (.ishr, 1) := by decide +kernel
theorem dX0_minuteBurnt_18 : decode cX0_minuteBurnt 18 = .ok (.iconst 1, 1) := by decide +kernel
theorem dX0_minuteBurnt_19 : decode cX0_minuteBurnt 19 = .ok (.iand, 1) := by decide +kernel
theorem dX0_minuteBurnt_20 : decode cX0_minuteBurnt 20 = .ok (.iconst 1, 1) := by decide +kernel
theorem dX0_minuteBurnt_21 : decode cX0_minuteBurnt 21 = .ok (.if_icmp .ne 5, 3) := by decide +kernel
theorem dX0_minuteBurnt_24 : decode cX0_minuteBurnt 24 = .ok (.iload_n 2, 1) := by decide +kernel
theorem dX0_minuteBurnt_25 : decode cX0_minuteBurnt 25 = .ok (.ireturn, 1) := by decide +kernel
theorem dX0_minuteBurnt_26 : decode cX0_minuteBurnt 26 = .ok (.iinc 2 1, 3) := by decide +kernel
theorem dX0_minuteBurnt_29 : decode cX0_minuteBurnt 29 = .ok (.goto (-27), 3) := by decide +kernel
theorem dX0_minuteBurnt_32 : decode cX0_minuteBurnt 32 = .ok (.bipush (-9), 2) := by decide +kernel
theorem dX0_minuteBurnt_34 : decode cX0_minuteBurnt 34 = .ok (.ireturn, 1) := by decide +kernel
theorem dX0_roomSaidIn_0 : decode cX0_roomSaidIn 0 = .ok (.iload_n 1, 1) := by decide +kernel
theorem dX0_roomSaidIn_1 : decode cX0_roomSaidIn 1 = .ok (.iconst 1, 1) := by decide +kernel
theorem dX0_roomSaidIn_2 : decode cX0_roomSaidIn 2 = .ok (.if_icmp .lt 20, 3) := by decide +kernel
theorem dX0_roomSaidIn_5 : decode cX0_roomSaidIn 5 = .ok (.iload_n 1, 1) := by decide +kernel
theorem dX0_roomSaidIn_6 : decode cX0_roomSaidIn 6 = .ok (.aload_n 0, 1) := by decide +kernel
theorem dX0_roomSaidIn_7 : decode cX0_roomSaidIn 7 = .ok (.getfield 93, 3) := by decide +kernel
theorem dX0_roomSaidIn_10 : decode cX0_roomSaidIn 10 = .ok (.if_icmp .gt 12, 3) := by decide +kernel
theorem dX0_roomSaidIn_13 : decode cX0_roomSaidIn 13 = .ok (.aload_n 0, 1) := by decide +kernel
theorem dX0_roomSaidIn_14 : decode cX0_roomSaidIn 14 = .ok (.getfield 33, 3) := by decide +kernel
theorem dX0_roomSaidIn_17 : decode cX0_roomSaidIn 17 = .ok (.iload_n 1, 1) := by decide +kernel
theorem dX0_roomSaidIn_18 : decode cX0_roomSaidIn 18 = .ok (.iaload, 1) := by decide +kernel
theorem dX0_roomSaidIn_19 : decode cX0_roomSaidIn 19 = .ok (.goto 5, 3) := by decide +kernel
theorem dX0_roomSaidIn_22 : decode cX0_roomSaidIn 22 = .ok (.bipush (-9), 2) := by decide +kernel
theorem dX0_roomSaidIn_24 : decode cX0_roomSaidIn 24 = .ok (.ireturn, 1) := by decide +kernel
theorem dX0_minuteSaid_0 : decode cX0_minuteSaid 0 = .ok (.iconst 1, 1) := by decide +kernel
theorem dX0_minuteSaid_1 : decode cX0_minuteSaid 1 = .ok (.istore_n 2, 1) := by decide +kernel
theorem dX0_minuteSaid_2 : decode cX0_minuteSaid 2 = .ok (.iload_n 2, 1) := by decide +kernel
theorem dX0_minuteSaid_3 : decode cX0_minuteSaid 3 = .ok (.aload_n 0, 1) := by decide +kernel
theorem dX0_minuteSaid_4 : decode cX0_minuteSaid 4 = .ok (.getfield 93, 3) := by decide +kernel
theorem dX0_minuteSaid_7 : decode cX0_minuteSaid 7 = .ok (.if_icmp .gt 21, 3) := by decide +kernel
theorem dX0_minuteSaid_10 : decode cX0_minuteSaid 10 = .ok (.aload_n 0, 1) := by decide +kernel
theorem dX0_minuteSaid_11 : decode cX0_minuteSaid 11 = .ok (.getfield 33, 3) := by decide +kernel
theorem dX0_minuteSaid_14 : decode cX0_minuteSaid 14 = .ok (.iload_n 2, 1) := by decide +kernel
theorem dX0_minuteSaid_15 : decode cX0_minuteSaid 15 = .ok (.iaload, 1) := by decide +kernel
theorem dX0_minuteSaid_16 : decode cX0_minuteSaid 16 = .ok (.iload_n 1, 1) := by decide +kernel
theorem dX0_minuteSaid_17 : decode cX0_minuteSaid 17 = .ok (.if_icmp .ne 5, 3) := by decide +kernel
theorem dX0_minuteSaid_20 : decode cX0_minuteSaid 20 = .ok (.iload_n 2, 1) := by decide +kernel
theorem dX0_minuteSaid_21 : decode cX0_minuteSaid 21 = .ok (.ireturn, 1) := by decide +kernel
theorem dX0_minuteSaid_22 : decode cX0_minuteSaid 22 = .ok (.iinc 2 1, 3) := by decide +kernel
theorem dX0_minuteSaid_25 : decode cX0_minuteSaid 25 = .ok (.goto (-23), 3) := by decide +kernel
theorem dX0_minuteSaid_28 : decode cX0_minuteSaid 28 = .ok (.bipush (-9), 2) := by decide +kernel
theorem dX0_minuteSaid_30 : decode cX0_minuteSaid 30 = .ok (.ireturn, 1) := by decide +kernel
theorem dX0_speakerIn_0 : decode cX0_speakerIn 0 = .ok (.iload_n 1, 1) := by decide +kernel
theorem dX0_speakerIn_1 : decode cX0_speakerIn 1 = .ok (.iconst 1, 1) := by decide +kernel
theorem dX0_speakerIn_2 : decode cX0_speakerIn 2 = .ok (.if_icmp .lt 26, 3) := by decide +kernel
theorem dX0_speakerIn_5 : decode cX0_speakerIn 5 = .ok (.aload_n 0, 1) := by decide +kernel
theorem dX0_speakerIn_6 : decode cX0_speakerIn 6 = .ok (.getfield 71, 3) := by decide +kernel
theorem dX0_speakerIn_9 : decode cX0_speakerIn 9 = .ok (.ifCond .le 19, 3) := by decide +kernel
theorem dX0_speakerIn_12 : decode cX0_speakerIn 12 = .ok (.aload_n 0, 1) := by decide +kernel
theorem dX0_speakerIn_13 : decode cX0_speakerIn 13 = .ok (.getfield 21, 3) := by decide +kernel
theorem dX0_speakerIn_16 : decode cX0_speakerIn 16 = .ok (.iload_n 1, 1) := by decide +kernel
theorem dX0_speakerIn_17 : decode cX0_speakerIn 17 = .ok (.iconst 1, 1) := by decide +kernel
theorem dX0_speakerIn_18 : decode cX0_speakerIn 18 = .ok (.isub, 1) := by decide +kernel
theorem dX0_speakerIn_19 : decode cX0_speakerIn 19 = .ok (.aload_n 0, 1) := by decide +kernel
theorem dX0_speakerIn_20 : decode cX0_speakerIn 20 = .ok (.getfield 71, 3) := by decide +kernel
theorem dX0_speakerIn_23 : decode cX0_speakerIn 23 = .ok (.irem, 1) := by decide +kernel
theorem dX0_speakerIn_24 : decode cX0_speakerIn 24 = .ok (.iaload, 1) := by decide +kernel
theorem dX0_speakerIn_25 : decode cX0_speakerIn 25 = .ok (.goto 5, 3) := by decide +kernel
theorem dX0_speakerIn_28 : decode cX0_speakerIn 28 = .ok (.bipush (-9), 2) := by decide +kernel
theorem dX0_speakerIn_30 : decode cX0_speakerIn 30 = .ok (.ireturn, 1) := by decide +kernel
theorem dX0_timesSpoken_0 : decode cX0_timesSpoken 0 = .ok (.iconst 0, 1) := by decide +kernel
theorem dX0_timesSpoken_1 : decode cX0_timesSpoken 1 = .ok (.istore_n 2, 1) := by decide +kernel
theorem dX0_timesSpoken_2 : decode cX0_timesSpoken 2 = .ok (.iconst 1, 1) := by decide +kernel
theorem dX0_timesSpoken_3 : decode cX0_timesSpoken 3 = .ok (.istore_n 3, 1) := by decide +kernel
theorem dX0_timesSpoken_4 : decode cX0_timesSpoken 4 = .ok (.iload_n 3, 1) := by decide +kernel
theorem dX0_timesSpoken_5 : decode cX0_timesSpoken 5 = .ok (.aload_n 0, 1) := by decide +kernel
theorem dX0_timesSpoken_6 : decode cX0_timesSpoken 6 = .ok (.getfield 93, 3) := by decide +kernel
theorem dX0_timesSpoken_9 : decode cX0_timesSpoken 9 = .ok (.if_icmp .gt 32, 3) := by decide +kernel
theorem dX0_timesSpoken_12 : decode cX0_timesSpoken 12 = .ok (.aload_n 0, 1) := by decide +kernel
theorem dX0_timesSpoken_13 : decode cX0_timesSpoken 13 = .ok (.getfield 33, 3) := by decide +kernel
theorem dX0_timesSpoken_16 : decode cX0_timesSpoken 16 = .ok (.iload_n 3, 1) := by decide +kernel
theorem dX0_timesSpoken_17 : decode cX0_timesSpoken 17 = .ok (.iaload, 1) := by decide +kernel
theorem dX0_timesSpoken_18 : decode cX0_timesSpoken 18 = .ok (.bipush (-9), 2) := by decide +kernel
theorem dX0_timesSpoken_20 : decode cX0_timesSpoken 20 = .ok (.if_icmp .eq 15, 3) := by decide +kernel
theorem dX0_timesSpoken_23 : decode cX0_timesSpoken 23 = .ok (.aload_n 0, 1) := by decide +kernel
theorem dX0_timesSpoken_24 : decode cX0_timesSpoken 24 = .ok (.iload_n 3, 1) := by decide +kernel
theorem dX0_timesSpoken_25 : decode cX0_timesSpoken 25 = .ok (.invokevirtual 96, 3) := by decide +kernel
theorem dX0_timesSpoken_28 : decode cX0_timesSpoken 28 = .ok (.iload_n 1, 1) := by decide +kernel
theorem dX0_timesSpoken_29 : decode cX0_timesSpoken 29 = .ok (.if_icmp .ne 6, 3) := by decide +kernel
theorem dX0_timesSpoken_32 : decode cX0_timesSpoken 32 = .ok (.iinc 2 1, 3) := by decide +kernel
theorem dX0_timesSpoken_35 : decode cX0_timesSpoken 35 = .ok (.iinc 3 1, 3) := by decide +kernel
theorem dX0_timesSpoken_38 : decode cX0_timesSpoken 38 = .ok (.goto (-34), 3) := by decide +kernel
theorem dX0_timesSpoken_41 : decode cX0_timesSpoken 41 = .ok (.iload_n 2, 1) := by decide +kernel
theorem dX0_timesSpoken_42 : decode cX0_timesSpoken 42 = .ok (.ireturn, 1) := by decide +kernel
theorem dX1_init_0 : decode cX1_init 0 = .ok (.aload_n 0, 1) := by decide +kernel
theorem dX1_init_1 : decode cX1_init 1 = .ok (.invokespecial 3, 3) := by decide +kernel
theorem dX1_init_4 : decode cX1_init 4 = .ok (.aload_n 0, 1) := by decide +kernel
theorem dX1_init_5 : decode cX1_init 5 = .ok (.bipush 25, 2) := by decide +kernel
theorem dX1_init_7 : decode cX1_init 7 = .ok (.newarray .int, 2) := by decide +kernel
theorem dX1_init_9 : decode cX1_init 9 = .ok (.putfield 9, 3) := by decide +kernel
theorem dX1_init_12 : decode cX1_init 12 = .ok (.aload_n 0, 1) := by decide +kernel
theorem dX1_init_13 : decode cX1_init 13 = .ok (.bipush 25, 2) := by decide +kernel
theorem dX1_init_15 : decode cX1_init 15 = .ok (.newarray .int, 2) := by decide +kernel
theorem dX1_init_17 : decode cX1_init 17 = .ok (.putfield 15, 3) := by decide +kernel
theorem dX1_init_20 : decode cX1_init 20 = .ok (.aload_n 0, 1) := by decide +kernel
theorem dX1_init_21 : decode cX1_init 21 = .ok (.iconst 5, 1) := by decide +kernel
theorem dX1_init_22 : decode cX1_init 22 = .ok (.newarray .int, 2) := by decide +kernel
theorem dX1_init_24 : decode cX1_init 24 = .ok (.putfield 18, 3) := by decide +kernel
theorem dX1_init_27 : decode cX1_init 27 = .ok (.aload_n 0, 1) := by decide +kernel
theorem dX1_init_28 : decode cX1_init 28 = .ok (.bipush 125, 2) := by decide +kernel
theorem dX1_init_30 : decode cX1_init 30 = .ok (.newarray .int, 2) := by decide +kernel
theorem dX1_init_32 : decode cX1_init 32 = .ok (.putfield 21, 3) := by decide +kernel
theorem dX1_init_35 : decode cX1_init 35 = .ok (.aload_n 0, 1) := by decide +kernel
theorem dX1_init_36 : decode cX1_init 36 = .ok (.iconst 0, 1) := by decide +kernel
theorem dX1_init_37 : decode cX1_init 37 = .ok (.putfield 24, 3) := by decide +kernel
theorem dX1_init_40 : decode cX1_init 40 = .ok (.aload_n 0, 1) := by decide +kernel
theorem dX1_init_41 : decode cX1_init 41 = .ok (.iconst 0, 1) := by decide +kernel
theorem dX1_init_42 : decode cX1_init 42 = .ok (.putfield 28, 3) := by decide +kernel
theorem dX1_init_45 : decode cX1_init 45 = .ok (.return_, 1) := by decide +kernel
theorem dX1_become_0 : decode cX1_become 0 = .ok (.aload_n 1, 1) := by decide +kernel
theorem dX1_become_1 : decode cX1_become 1 = .ok (.getfield 9, 3) := by decide +kernel
theorem dX1_become_4 : decode cX1_become 4 = .ok (.iconst 0, 1) := by decide +kernel
theorem dX1_become_5 : decode cX1_become 5 = .ok (.aload_n 0, 1) := by decide +kernel
theorem dX1_become_6 : decode cX1_become 6 = .ok (.getfield 9, 3) := by decide +kernel
theorem dX1_become_9 : decode cX1_become 9 = .ok (.iconst 0, 1) := by decide +kernel
theorem dX1_become_10 : decode cX1_become 10 = .ok (.bipush 25, 2) := by decide +kernel
theorem dX1_become_12 : decode cX1_become 12 = .ok (.invokestatic 31, 3) := by decide +kernel
theorem dX1_become_15 : decode cX1_become 15 = .ok (.aload_n 1, 1) := by decide +kernel
theorem dX1_become_16 : decode cX1_become 16 = .ok (.getfield 15, 3) := by decide +kernel
theorem dX1_become_19 : decode cX1_become 19 = .ok (.iconst 0, 1) := by decide +kernel
theorem dX1_become_20 : decode cX1_become 20 = .ok (.aload_n 0, 1) := by decide +kernel
theorem dX1_become_21 : decode cX1_become 21 = .ok (.getfield 15, 3) := by decide +kernel
theorem dX1_become_24 : decode cX1_become 24 = .ok (.iconst 0, 1) := by decide +kernel
theorem dX1_become_25 : decode cX1_become 25 = .ok (.bipush 25, 2) := by decide +kernel
theorem dX1_become_27 : decode cX1_become 27 = .ok (.invokestatic 31, 3) := by decide +kernel
theorem dX1_become_30 : decode cX1_become 30 = .ok (.aload_n 1, 1) := by decide +kernel
theorem dX1_become_31 : decode cX1_become 31 = .ok (.getfield 18, 3) := by decide +kernel
theorem dX1_become_34 : decode cX1_become 34 = .ok (.iconst 0, 1) := by decide +kernel
theorem dX1_become_35 : decode cX1_become 35 = .ok (.aload_n 0, 1) := by decide +kernel
theorem dX1_become_36 : decode cX1_become 36 = .ok (.getfield 18, 3) := by decide +kernel
theorem dX1_become_39 : decode cX1_become 39 = .ok (.iconst 0, 1) := by decide +kernel
theorem dX1_become_40 : decode cX1_become 40 = .ok (.iconst 5, 1) := by decide +kernel
theorem dX1_become_41 : decode cX1_become 41 = .ok (.invokestatic 31, 3) := by decide +kernel
theorem dX1_become_44 : decode cX1_become 44 = .ok (.aload_n 1, 1) := by decide +kernel
theorem dX1_become_45 : decode cX1_become 45 = .ok (.getfield 21, 3) := by decide +kernel
theorem dX1_become_48 : decode cX1_become 48 = .ok (.iconst 0, 1) := by decide +kernel
theorem dX1_become_49 : decode cX1_become 49 = .ok (.aload_n 0, 1) := by decide +kernel
theorem dX1_become_50 : decode cX1_become 50 = .ok (.getfield 21, 3) := by decide +kernel
theorem dX1_become_53 : decode cX1_become 53 = .ok (.iconst 0, 1) := by decide +kernel
theorem dX1_become_54 : decode cX1_become 54 = .ok (.bipush 125, 2) := by decide +kernel
theorem dX1_become_56 : decode cX1_become 56 = .ok (.invokestatic 31, 3) := by decide +kernel
theorem dX1_become_59 : decode cX1_become 59 = .ok (.aload_n 0, 1) := by decide +kernel
theorem dX1_become_60 : decode cX1_become 60 = .ok (.aload_n 1, 1) := by decide +kernel
theorem dX1_become_61 : decode cX1_become 61 = .ok (.getfield 24, 3) := by decide +kernel
theorem dX1_become_64 : decode cX1_become 64 = .ok (.putfield 24, 3) := by decide +kernel
theorem dX1_become_67 : decode cX1_become 67 = .ok (.aload_n 0, 1) := by decide +kernel
theorem dX1_become_68 : decode cX1_become 68 = .ok (.aload_n 1, 1) := by decide +kernel
theorem dX1_become_69 : decode cX1_become 69 = .ok (.getfield 28, 3) := by decide +kernel
theorem dX1_become_72 : decode cX1_become 72 = .ok (.putfield 28, 3) := by decide +kernel
theorem dX1_become_75 : decode cX1_become 75 = .ok (.return_, 1) := by decide +kernel
theorem dX1_hasPerson_0 : decode cX1_hasPerson 0 = .ok (.iload_n 1, 1) := by decide +kernel
theorem dX1_hasPerson_1 : decode cX1_hasPerson 1 = .ok (.ifCond .lt 20, 3) := by decide +kernel
theorem dX1_hasPerson_4 : decode cX1_hasPerson 4 = .ok (.iload_n 1, 1) := by decide +kernel
theorem dX1_hasPerson_5 : decode cX1_hasPerson 5 = .ok (.aload_n 0, 1) := by decide +kernel
theorem dX1_hasPerson_6 : decode cX1_hasPerson 6 = .ok (.getfield 24, 3) := by decide +kernel
theorem dX1_hasPerson_9 : decode cX1_hasPerson 9 = .ok (.if_icmp .ge 12, 3) := by decide +kernel
theorem dX1_hasPerson_12 : decode cX1_hasPerson 12 = .ok (.iload_n 1, 1) := by decide +kernel
theorem dX1_hasPerson_13 : decode cX1_hasPerson 13 = .ok (.iconst 5, 1) := by decide +kernel
theorem dX1_hasPerson_14 : decode cX1_hasPerson 14 = .ok (.if_icmp .ge 7, 3) := by decide +kernel
theorem dX1_hasPerson_17 : decode cX1_hasPerson 17 = .ok (.iconst 1, 1) := by decide +kernel
theorem dX1_hasPerson_18 : decode cX1_hasPerson 18 = .ok (.goto 4, 3) := by decide +kernel
theorem dX1_hasPerson_21 : decode cX1_hasPerson 21 = .ok (.iconst 0, 1) := by decide +kernel
theorem dX1_hasPerson_22 : decode cX1_hasPerson 22 = .ok (.ireturn, 1) := by decide +kernel
theorem dX1_kindOf_0 : decode cX1_kindOf 0 = .ok (.iload_n 1, 1) := by decide +kernel
theorem dX1_kindOf_1 : decode cX1_kindOf 1 = .ok (.invokestatic 37, 3) := by decide +kernel
theorem dX1_kindOf_4 : decode cX1_kindOf 4 = .ok (.ifCond .eq 12, 3) := by decide +kernel
theorem dX1_kindOf_7 : decode cX1_kindOf 7 = .ok (.aload_n 0, 1) := by decide +kernel
theorem dX1_kindOf_8 : decode cX1_kindOf 8 = .ok (.getfield 9, 3) := by decide +kernel
theorem dX1_kindOf_11 : decode cX1_kindOf 11 = .ok (.iload_n 1, 1) := by decide +kernel
theorem dX1_kindOf_12 : decode cX1_kindOf 12 = .ok (.iaload, 1) := by decide +kernel
theorem dX1_kindOf_13 : decode cX1_kindOf 13 = .ok (.goto 5, 3) := by decide +kernel
theorem dX1_kindOf_16 : decode cX1_kindOf 16 = .ok (.bipush (-9), 2) := by decide +kernel
theorem dX1_kindOf_18 : decode cX1_kindOf 18 = .ok (.ireturn, 1) := by decide +kernel
theorem dX1_figureOf_0 : decode cX1_figureOf 0 = .ok (.iload_n 1, 1) := by decide +kernel
theorem dX1_figureOf_1 : decode cX1_figureOf 1 = .ok (.invokestatic 37, 3) := by decide +kernel
theorem dX1_figureOf_4 : decode cX1_figureOf 4 = .ok (.ifCond .eq 12, 3) := by decide +kernel
theorem dX1_figureOf_7 : decode cX1_figureOf 7 = .ok (.aload_n 0, 1) := by decide +kernel
theorem dX1_figureOf_8 : decode cX1_figureOf 8 = .ok (.getfield 15, 3) := by decide +kernel
theorem dX1_figureOf_11 : decode cX1_figureOf 11 = .ok (.iload_n 1, 1) := by decide +kernel
theorem dX1_figureOf_12 : decode cX1_figureOf 12 = .ok (.iaload, 1) := by decide +kernel
theorem dX1_figureOf_13 : decode cX1_figureOf 13 = .ok (.goto 5, 3) := by decide +kernel
theorem dX1_figureOf_16 : decode cX1_figureOf 16 = .ok (.bipush (-9), 2) := by decide +kernel
theorem dX1_figureOf_18 : decode cX1_figureOf 18 = .ok (.ireturn, 1) := by decide +kernel
theorem dX1_needsOf_0 : decode cX1_needsOf 0 = .ok (.aload_n 0, 1) := by decide +kernel
theorem dX1_needsOf_1 : decode cX1_needsOf 1 = .ok (.iload_n 1, 1) := by decide +kernel
theorem dX1_needsOf_2 : decode cX1_needsOf 2 = .ok (.invokevirtual 41, 3) := by decide +kernel
theorem dX1_needsOf_5 : decode cX1_needsOf 5 = .ok (.invokestatic 45, 3) := by decide +kernel
theorem dX1_needsOf_8 : decode cX1_needsOf 8 = .ok (.ireturn, 1) := by decide +kernel
theorem dX1_catchesOf_0 : decode cX1_catchesOf 0 = .ok (.aload_n 0, 1) := by decide +kernel
theorem dX1_catchesOf_1 : decode cX1_catchesOf 1 = .ok (.iload_n 1, 1) := by decide +kernel
theorem dX1_catchesOf_2 : decode cX1_catchesOf 2 = .ok (.invokevirtual 41, 3) := by decide +kernel
theorem dX1_catchesOf_5 : decode cX1_catchesOf 5 = .ok (.invokestatic 50, 3) := by decide +kernel
theorem dX1_catchesOf_8 : decode cX1_catchesOf 8 = .ok (.ireturn, 1) := by decide +kernel
theorem dX1_worthOf_0 : decode cX1_worthOf 0 = .ok (.aload_n 0, 1) := by decide +kernel
theorem dX1_worthOf_1 : decode cX1_worthOf 1 = .ok (.iload_n 1, 1) := by decide +kernel
theorem dX1_worthOf_2 : decode cX1_worthOf 2 = .ok (.invokevirtual 41, 3) := by decide +kernel
theorem dX1_worthOf_5 : decode cX1_worthOf 5 = .ok (.aload_n 0, 1) := by decide +kernel
theorem dX1_worthOf_6 : decode cX1_worthOf 6 = .ok (.iload_n 1, 1) := by decide +kernel
theorem dX1_worthOf_7 : decode cX1_worthOf 7 = .ok (.invokevirtual 53, 3) := by decide +kernel
theorem dX1_worthOf_10 : decode cX1_worthOf 10 = .ok (.invokestatic 56, 3) := by decide +kernel
theorem dX1_worthOf_13 : decode cX1_worthOf 13 = .ok (.ireturn, 1) := by decide +kernel
theorem dX1_sharpOf_0 : decode cX1_sharpOf 0 = .ok (.aload_n 0, 1) := by decide +kernel
theorem dX1_sharpOf_1 : decode cX1_sharpOf 1 = .ok (.iload_n 1, 1) := by decide +kernel
theorem dX1_sharpOf_2 : decode cX1_sharpOf 2 = .ok (.invokevirtual 60, 3) := by decide +kernel
theorem dX1_sharpOf_5 : decode cX1_sharpOf 5 = .ok (.ifCond .eq 12, 3) := by decide +kernel
theorem dX1_sharpOf_8 : decode cX1_sharpOf 8 = .ok (.aload_n 0, 1) := by decide +kernel
theorem dX1_sharpOf_9 : decode cX1_sharpOf 9 = .ok (.getfield 18, 3) := by decide +kernel
theorem dX1_sharpOf_12 : decode cX1_sharpOf 12 = .ok (.iload_n 1, 1) := by decide +kernel
theorem dX1_sharpOf_13 : decode cX1_sharpOf 13 = .ok (.iaload, 1) := by decide +kernel
theorem dX1_sharpOf_14 : decode cX1_sharpOf 14 = .ok (.goto 5, 3) := by decide +kernel
theorem dX1_sharpOf_17 : decode cX1_sharpOf 17 = .ok (.bipush (-9), 2) := by decide +kernel
theorem dX1_sharpOf_19 : decode cX1_sharpOf 19 = .ok (.ireturn, 1) := by decide +kernel
theorem dX1_knownBy_0 : decode cX1_knownBy 0 = .ok (.aload_n 0, 1) := by decide +kernel
theorem dX1_knownBy_1 : decode cX1_knownBy 1 = .ok (.iload_n 1, 1) := by decide +kernel
theorem dX1_knownBy_2 : decode cX1_knownBy 2 = .ok (.invokevirtual 60, 3) := by decide +kernel
theorem dX1_knownBy_5 : decode cX1_knownBy 5 = .ok (.ifCond .eq 24, 3) := by decide +kernel
theorem dX1_knownBy_8 : decode cX1_knownBy 8 = .ok (.iload_n 2, 1) := by decide +kernel
theorem dX1_knownBy_9 : decode cX1_knownBy 9 = .ok (.invokestatic 37, 3) := by decide +kernel
theorem dX1_knownBy_12 : decode cX1_knownBy 12 = .ok (.ifCond .eq 17, 3) := by decide +kernel
theorem dX1_knownBy_15 : decode cX1_knownBy 15 = .ok (.aload_n 0, 1) := by decide +kernel
theorem dX1_knownBy_16 : decode cX1_knownBy 16 = .ok (.getfield 21, 3) := by decide +kernel
theorem dX1_knownBy_19 : decode cX1_knownBy 19 = .ok (.iload_n 1, 1) := by decide +kernel
theorem dX1_knownBy_20 : decode cX1_knownBy 20 = .ok (.bipush 25, 2) := by decide +kernel
theorem dX1_knownBy_22 : decode cX1_knownBy 22 = .ok (.imul, 1) := by decide +kernel
theorem dX1_knownBy_23 : decode cX1_knownBy 23 = .ok (.iload_n 2, 1) := by decide +kernel
theorem dX1_knownBy_24 : decode cX1_knownBy 24 = .ok (.iadd, 1) := by decide +kernel
theorem dX1_knownBy_25 : decode cX1_knownBy 25 = .ok (.iaload, 1) := by decide +kernel
theorem dX1_knownBy_26 : decode cX1_knownBy 26 = .ok (.goto 5, 3) := by decide +kernel
theorem dX1_knownBy_29 : decode cX1_knownBy 29 = .ok (.bipush (-9), 2) := by decide +kernel
theorem dX1_knownBy_31 : decode cX1_knownBy 31 = .ok (.ireturn, 1) := by decide +kernel
theorem dX1_put_0 : decode cX1_put 0 = .ok (.iload_n 1, 1) := by decide +kernel
theorem dX1_put_1 : decode cX1_put 1 = .ok (.invokestatic 37, 3) := by decide +kernel
theorem dX1_put_4 : decode cX1_put 4 = .ok (.ifCond .eq 17, 3) := by decide +kernel
theorem dX1_put_7 : decode cX1_put 7 = .ok (.aload_n 0, 1) := by decide +kernel
theorem dX1_put_8 : decode cX1_put 8 = .ok (.getfield 9, 3) := by decide +kernel
theorem dX1_put_11 : decode cX1_put 11 = .ok (.iload_n 1, 1) := by decide +kernel
theorem dX1_put_12 : decode cX1_put 12 = .ok (.iload_n 2, 1) := by decide +kernel
theorem dX1_put_13 : decode cX1_put 13 = .ok (.iastore, 1) := by decide +kernel
theorem dX1_put_14 : decode cX1_put 14 = .ok (.aload_n 0, 1) := by decide +kernel
theorem dX1_put_15 : decode cX1_put 15 = .ok (.getfield 15, 3) := by decide +kernel
theorem dX1_put_18 : decode cX1_put 18 = .ok (.iload_n 1, 1) := by decide +kernel
theorem dX1_put_19 : decode cX1_put 19 = .ok (.iload_n 3, 1) := by decide +kernel
theorem dX1_put_20 : decode cX1_put 20 = .ok (.iastore, 1) := by decide +kernel
theorem dX1_put_21 : decode cX1_put 21 = .ok (.return_, 1) := by decide +kernel
theorem dX1_sharpen_0 : decode cX1_sharpen 0 = .ok (.aload_n 0, 1) := by decide +kernel
theorem dX1_sharpen_1 : decode cX1_sharpen 1 = .ok (.iload_n 1, 1) := by decide +kernel
theorem dX1_sharpen_2 : decode cX1_sharpen 2 = .ok (.invokevirtual 60, 3) := by decide +kernel
theorem dX1_sharpen_5 : decode cX1_sharpen 5 = .ok (.ifCond .eq 10, 3) := by decide +kernel
theorem dX1_sharpen_8 : decode cX1_sharpen 8 = .ok (.aload_n 0, 1) := by decide +kernel
theorem dX1_sharpen_9 : decode cX1_sharpen 9 = .ok (.getfield 18, 3) := by decide +kernel
theorem dX1_sharpen_12 : decode cX1_sharpen 12 = .ok (.iload_n 1, 1) := by decide +kernel
theorem dX1_sharpen_13 : decode cX1_sharpen 13 = .ok (.iload_n 2, 1) := by decide +kernel
theorem dX1_sharpen_14 : decode cX1_sharpen 14 = .ok (.iastore, 1) := by decide +kernel
theorem dX1_sharpen_15 : decode cX1_sharpen 15 = .ok (.return_, 1) := by decide +kernel
theorem dX1_learn_0 : decode cX1_learn 0 = .ok (.aload_n 0, 1) := by decide +kernel
theorem dX1_learn_1 : decode cX1_learn 1 = .ok (.iload_n 1, 1) := by decide +kernel
theorem dX1_learn_2 : decode cX1_learn 2 = .ok (.invokevirtual 60, 3) := by decide +kernel
theorem dX1_learn_5 : decode cX1_learn 5 = .ok (.ifCond .eq 22, 3) := by decide +kernel
theorem dX1_learn_8 : decode cX1_learn 8 = .ok (.iload_n 2, 1) := by decide +kernel
theorem dX1_learn_9 : decode cX1_learn 9 = .ok (.invokestatic 37, 3) := by decide +kernel
theorem dX1_learn_12 : decode cX1_learn 12 = .ok (.ifCond .eq 15, 3) := by decide +kernel
theorem dX1_learn_15 : decode cX1_learn 15 = .ok (.aload_n 0, 1) := by decide +kernel
theorem dX1_learn_16 : decode cX1_learn 16 = .ok (.getfield 21, 3) := by decide +kernel
theorem dX1_learn_19 : decode cX1_learn 19 = .ok (.iload_n 1, 1) := by decide +kernel
theorem dX1_learn_20 : decode cX1_learn 20 = .ok (.bipush 25, 2) := by decide +kernel
theorem dX1_learn_22 : decode cX1_learn 22 = .ok (.imul, 1) := by decide +kernel
theorem dX1_learn_23 : decode cX1_learn 23 = .ok (.iload_n 2, 1) := by decide +kernel
theorem dX1_learn_24 : decode cX1_learn 24 = .ok (.iadd, 1) := by decide +kernel
theorem dX1_learn_25 : decode cX1_learn 25 = .ok (.iload_n 3, 1) := by decide +kernel
theorem dX1_learn_26 : decode cX1_learn 26 = .ok (.iastore, 1) := by decide +kernel
theorem dX1_learn_27 : decode cX1_learn 27 = .ok (.return_, 1) := by decide +kernel
theorem dX1_takeIn_0 : decode cX1_takeIn 0 = .ok (.aload_n 0, 1) := by decide +kernel
theorem dX1_takeIn_1 : decode cX1_takeIn 1 = .ok (.getfield 24, 3) := by decide +kernel
theorem dX1_takeIn_4 : decode cX1_takeIn 4 = .ok (.iconst 5, 1) := by decide +kernel
theorem dX1_takeIn_5 : decode cX1_takeIn 5 = .ok (.if_icmp .lt 5, 3) := by decide +kernel
theorem dX1_takeIn_8 : decode cX1_takeIn 8 = .ok (.iconst 0, 1) := by decide +kernel
theorem dX1_takeIn_9 : decode cX1_takeIn 9 = .ok (.ireturn, 1) := by decide +kernel
theorem dX1_takeIn_10 : decode cX1_takeIn 10 = .ok (.aload_n 0, 1) := by decide +kernel
theorem dX1_takeIn_11 : decode cX1_takeIn 11 = .ok (.getfield 24, 3) := by decide +kernel
theorem dX1_takeIn_14 : decode cX1_takeIn 14 = .ok (.istore_n 2, 1) := by decide +kernel
theorem dX1_takeIn_15 : decode cX1_takeIn 15 = .ok (.aload_n 0, 1) := by decide +kernel
theorem dX1_takeIn_16 : decode cX1_takeIn 16 = .ok (.dup, 1) := by decide +kernel
theorem dX1_takeIn_17 : decode cX1_takeIn 17 = .ok (.getfield 24, 3) := by decide +kernel
theorem dX1_takeIn_20 : decode cX1_takeIn 20 = .ok (.iconst 1, 1) := by decide +kernel
theorem dX1_takeIn_21 : decode cX1_takeIn 21 = .ok (.iadd, 1) := by decide +kernel
theorem dX1_takeIn_22 : decode cX1_takeIn 22 = .ok (.putfield 24, 3) := by decide +kernel
theorem dX1_takeIn_25 : decode cX1_takeIn 25 = .ok (.aload_n 0, 1) := by decide +kernel
theorem dX1_takeIn_26 : decode cX1_takeIn 26 = .ok (.iload_n 2, 1) := by decide +kernel
theorem dX1_takeIn_27 : decode cX1_takeIn 27 = .ok (.iload_n 1, 1) := by decide +kernel
theorem dX1_takeIn_28 : decode cX1_takeIn 28 = .ok (.invokevirtual 63, 3) := by decide +kernel
theorem dX1_takeIn_31 : decode cX1_takeIn 31 = .ok (.iconst 0, 1) := by decide +kernel
theorem dX1_takeIn_32 : decode cX1_takeIn 32 = .ok (.istore_n 3, 1) := by decide +kernel
theorem dX1_takeIn_33 : decode cX1_takeIn 33 = .ok (.iload_n 3, 1) := by decide +kernel
theorem dX1_takeIn_34 : decode cX1_takeIn 34 = .ok (.bipush 25, 2) := by decide +kernel
theorem dX1_takeIn_36 : decode cX1_takeIn 36 = .ok (.if_icmp .ge 16, 3) := by decide +kernel
theorem dX1_takeIn_39 : decode cX1_takeIn 39 = .ok (.aload_n 0, 1) := by decide +kernel
theorem dX1_takeIn_40 : decode cX1_takeIn 40 = .ok (.iload_n 2, 1) := by decide +kernel
theorem dX1_takeIn_41 : decode cX1_takeIn 41 = .ok (.iload_n 3, 1) := by decide +kernel
theorem dX1_takeIn_42 : decode cX1_takeIn 42 = .ok (.iconst 0, 1) := by decide +kernel
theorem dX1_takeIn_43 : decode cX1_takeIn 43 = .ok (.invokevirtual 67, 3) := by decide +kernel
theorem dX1_takeIn_46 : decode cX1_takeIn 46 = .ok (.iinc 3 1, 3) := by decide +kernel
theorem dX1_takeIn_49 : decode cX1_takeIn 49 = .ok (.goto (-16), 3) := by decide +kernel
theorem dX1_takeIn_52 : decode cX1_takeIn 52 = .ok (.iconst 1, 1) := by decide +kernel
theorem dX1_takeIn_53 : decode cX1_takeIn 53 = .ok (.ireturn, 1) := by decide +kernel
theorem dX1_passNights_0 : decode cX1_passNights 0 = .ok (.iconst 0, 1) := by decide +kernel
theorem dX1_passNights_1 : decode cX1_passNights 1 = .ok (.istore_n 2, 1) := by decide +kernel
theorem dX1_passNights_2 : decode cX1_passNights 2 = .ok (.iload_n 2, 1) := by decide +kernel
theorem dX1_passNights_3 : decode cX1_passNights 3 = .ok (.iload_n 1, 1) := by decide +kernel
theorem dX1_passNights_4 : decode cX1_passNights 4 = .ok (.if_icmp .ge 62, 3) := by decide +kernel
theorem dX1_passNights_7 : decode cX1_passNights 7 = .ok (.aload_n 0, 1) := by decide +kernel
theorem dX1_passNights_8 : decode cX1_passNights 8 = .ok (.dup, 1) := by decide +kernel
theorem dX1_passNights_9 : decode cX1_passNights 9 = .ok (.getfield 28, 3) := by decide +kernel
theorem dX1_passNights_12 : decode cX1_passNights 12 = .ok (.iconst 1, 1) := by decide +kernel
theorem dX1_passNights_13 : decode cX1_passNights 13 = .ok (.iadd, 1) := by decide +kernel
theorem dX1_passNights_14 : decode cX1_passNights 14 = .ok (.putfield 28, 3) := by decide +kernel
theorem dX1_passNights_17 : decode cX1_passNights 17 = .ok (.iconst 0, 1) := by decide +kernel
theorem dX1_passNights_18 : decode cX1_passNights 18 = .ok (.istore_n 3, 1) := by decide +kernel
theorem dX1_passNights_19 : decode cX1_passNights 19 = .ok (.iload_n 3, 1) := by decide +kernel
theorem dX1_passNights_20 : decode cX1_passNights 20 = .ok (.aload_n 0, 1) := by decide +kernel
theorem dX1_passNights_21 : decode cX1_passNights 21 = .ok (.getfield 24, 3) := by decide +kernel
theorem dX1_passNights_24 : decode cX1_passNights 24 = .ok (.if_icmp .ge 36, 3) := by decide +kernel
theorem dX1_passNights_27 : decode cX1_passNights 27 = .ok (.aload_n 0, 1) := by decide +kernel
theorem dX1_passNights_28 : decode cX1_passNights 28 = .ok (.iload_n 3, 1) := by decide +kernel
theorem dX1_passNights_29 : decode cX1_passNights 29 = .ok (.invokevirtual 71, 3) := by decide +kernel
theorem dX1_passNights_32 : decode cX1_passNights 32 = .ok (.istore 4, 2) := by decide +kernel
theorem dX1_passNights_34 : decode cX1_passNights 34 = .ok (.iload 4, 2) := by decide +kernel
theorem dX1_passNights_36 : decode cX1_passNights 36 = .ok (.ifCond .le 18, 3) := by decide +kernel
theorem dX1_passNights_39 : decode cX1_passNights 39 = .ok (.aload_n 0, 1) := by decide +kernel
theorem dX1_passNights_40 : decode cX1_passNights 40 = .ok (.getfield 28, 3) := by decide +kernel
theorem dX1_passNights_43 : decode cX1_passNights 43 = .ok (.iload 4, 2) := by decide +kernel
theorem dX1_passNights_45 : decode cX1_passNights 45 = .ok (.irem, 1) := by decide +kernel
theorem dX1_passNights_46 : decode cX1_passNights 46 = .ok (.ifCond .ne 8, 3) := by decide +kernel
theorem dX1_passNights_49 : decode cX1_passNights 49 = .ok (.aload_n 0, 1) := by decide +kernel
theorem dX1_passNights_50 : decode cX1_passNights 50 = .ok (.iload_n 3, 1) := by decide +kernel
theorem dX1_passNights_51 : decode cX1_passNights 51 = .ok (.invokevirtual 74, 3) := by decide +kernel
theorem dX1_passNights_54 : decode cX1_passNights 54 = .ok (.iinc 3 1, 3) := by decide +kernel
theorem dX1_passNights_57 : decode cX1_passNights 57 = .ok (.goto (-38), 3) := by decide +kernel
theorem dX1_passNights_60 : decode cX1_passNights 60 = .ok (.iinc 2 1, 3) := by decide +kernel
theorem dX1_passNights_63 : decode cX1_passNights 63 = .ok (.goto (-61), 3) := by decide +kernel
theorem dX1_passNights_66 : decode cX1_passNights 66 = .ok (.return_, 1) := by decide +kernel
theorem dX1_forgetSome_0 : decode cX1_forgetSome 0 = .ok (.aload_n 0, 1) := by decide +kernel
theorem dX1_forgetSome_1 : decode cX1_forgetSome 1 = .ok (.iload_n 1, 1) := by decide +kernel
theorem dX1_forgetSome_2 : decode cX1_forgetSome 2 = .ok (.invokevirtual 60, 3) := by decide +kernel
theorem dX1_forgetSome_5 : decode cX1_forgetSome 5 = .ok (.ifCond .ne 4, 3) := by decide +kernel
theorem dX1_forgetSome_8 : decode cX1_forgetSome 8 = .ok (.return_, 1) := by decide +kernel
theorem dX1_forgetSome_9 : decode cX1_forgetSome 9 = .ok (.iconst 0, 1) := by decide +kernel
theorem dX1_forgetSome_10 : decode cX1_forgetSome 10 = .ok (.istore_n 2, 1) := by decide +kernel
theorem dX1_forgetSome_11 : decode cX1_forgetSome 11 = .ok (.iload_n 2, 1) := by decide +kernel
theorem dX1_forgetSome_12 : decode cX1_forgetSome 12 = .ok (.bipush 25, 2) := by decide +kernel
theorem dX1_forgetSome_14 : decode cX1_forgetSome 14 = .ok (.if_icmp .ge 34, 3) := by decide +kernel
theorem dX1_forgetSome_17 : decode cX1_forgetSome 17 = .ok (.iload_n 1, 1) := by decide +kernel
theorem dX1_forgetSome_18 : decode cX1_forgetSome 18 = .ok (.bipush 25, 2) := by decide +kernel
theorem dX1_forgetSome_20 : decode cX1_forgetSome 20 = .ok (.imul, 1) := by decide +kernel
theorem dX1_forgetSome_21 : decode cX1_forgetSome 21 = .ok (.iload_n 2, 1) := by decide +kernel
theorem dX1_forgetSome_22 : decode cX1_forgetSome 22 = .ok (.iadd, 1) := by decide +kernel
theorem dX1_forgetSome_23 : decode cX1_forgetSome 23 = .ok (.istore_n 3, 1) := by decide +kernel
theorem dX1_forgetSome_24 : decode cX1_forgetSome 24 = .ok (.aload_n 0, 1) := by decide +kernel
theorem dX1_forgetSome_25 : decode cX1_forgetSome 25 = .ok (.getfield 21, 3) := by decide +kernel
theorem dX1_forgetSome_28 : decode cX1_forgetSome 28 = .ok (.iload_n 3, 1) := by decide +kernel
theorem dX1_forgetSome_29 : decode cX1_forgetSome 29 = .ok (.iconst 0, 1) := by decide +kernel
theorem dX1_forgetSome_30 : decode cX1_forgetSome 30 = .ok (.aload_n 0, 1) := by decide +kernel
theorem dX1_forgetSome_31 : decode cX1_forgetSome 31 = .ok (.getfield 21, 3) := by decide +kernel
theorem dX1_forgetSome_34 : decode cX1_forgetSome 34 = .ok (.iload_n 3, 1) := by decide +kernel
theorem dX1_forgetSome_35 : decode cX1_forgetSome 35 = .ok (.iaload, 1) := by decide +kernel
theorem dX1_forgetSome_36 : decode cX1_forgetSome 36 = .ok (.iconst 1, 1) := by decide +kernel
theorem dX1_forgetSome_37 : decode cX1_forgetSome 37 = .ok (.isub, 1) := by decide +kernel
theorem dX1_forgetSome_38 : decode cX1_forgetSome 38 = .ok (.invokestatic 78, 3) := by decide +kernel
theorem dX1_forgetSome_41 : decode cX1_forgetSome 41 = .ok (.iastore, 1) := by decide +kernel
theorem dX1_forgetSome_42 : decode cX1_forgetSome 42 = .ok (.iinc 2 1, 3) := by decide +kernel
theorem dX1_forgetSome_45 : decode cX1_forgetSome 45 = .ok (.goto (-34), 3) := by decide +kernel
theorem dX1_forgetSome_48 : decode cX1_forgetSome 48 = .ok (.return_, 1) := by decide +kernel
theorem dX1_roomsSayableBy_0 : decode cX1_roomsSayableBy 0 = .ok (.iconst 0, 1) := by decide +kernel
theorem dX1_roomsSayableBy_1 : decode cX1_roomsSayableBy 1 = .ok (.istore_n 2, 1) := by decide +kernel
theorem dX1_roomsSayableBy_2 : decode cX1_roomsSayableBy 2 = .ok (.aload_n 0, 1) := by decide +kernel
theorem dX1_roomsSayableBy_3 : decode cX1_roomsSayableBy 3 = .ok (.iload_n 1, 1) := by decide +kernel
theorem dX1_roomsSayableBy_4 : decode cX1_roomsSayableBy 4 = .ok (.invokevirtual 60, 3) := by decide +kernel
theorem dX1_roomsSayableBy_7 : decode cX1_roomsSayableBy 7 = .ok (.ifCond .ne 5, 3) := by decide +kernel
theorem dX1_roomsSayableBy_10 : decode cX1_roomsSayableBy 10 = .ok (.iload_n 2, 1) := by decide +kernel
theorem dX1_roomsSayableBy_11 : decode cX1_roomsSayableBy 11 = .ok (.ireturn, 1) := by decide +kernel
theorem dX1_roomsSayableBy_12 : decode cX1_roomsSayableBy 12 = .ok (.iconst 0, 1) := by decide +kernel
theorem dX1_roomsSayableBy_13 : decode cX1_roomsSayableBy 13 = .ok (.istore_n 3, 1) := by decide +kernel
theorem dX1_roomsSayableBy_14 : decode cX1_roomsSayableBy 14 = .ok (.iload_n 3, 1) := by decide +kernel
theorem dX1_roomsSayableBy_15 : decode cX1_roomsSayableBy 15 = .ok (.bipush 25, 2) := by decide +kernel
theorem dX1_roomsSayableBy_17 : decode cX1_roomsSayableBy 17 = .ok (.if_icmp .ge 38, 3) := by decide +kernel
theorem dX1_roomsSayableBy_20 : decode cX1_roomsSayableBy 20 = .ok (.aload_n 0, 1) := by decide +kernel
theorem dX1_roomsSayableBy_21 : decode cX1_roomsSayableBy 21 = .ok (.getfield 21, 3) := by decide +kernel
theorem dX1_roomsSayableBy_24 : decode cX1_roomsSayableBy 24 = .ok (.iload_n 1, 1) := by decide +kernel
theorem dX1_roomsSayableBy_25 : decode cX1_roomsSayableBy 25 = .ok (.bipush 25, 2) := by decide +kernel
theorem dX1_roomsSayableBy_27 : decode cX1_roomsSayableBy 27 = .ok (.imul, 1) := by decide +kernel
theorem dX1_roomsSayableBy_28 : decode cX1_roomsSayableBy 28 = .ok (.iload_n 3, 1) := by decide +kernel
theorem dX1_roomsSayableBy_29 : decode cX1_roomsSayableBy 29 = .ok (.iadd, 1) := by decide +kernel
theorem dX1_roomsSayableBy_30 : decode cX1_roomsSayableBy 30 = .ok (.iaload, 1) := by decide +kernel
theorem dX1_roomsSayableBy_31 : decode cX1_roomsSayableBy 31 = .ok (.aload_n 0, 1) := by decide +kernel
theorem dX1_roomsSayableBy_32 : decode cX1_roomsSayableBy 32 = .ok (.getfield 9, 3) := by decide +kernel
theorem dX1_roomsSayableBy_35 : decode cX1_roomsSayableBy 35 = .ok (.iload_n 3, 1) := by decide +kernel
theorem dX1_roomsSayableBy_36 : decode cX1_roomsSayableBy 36 = .ok (.iaload, 1) := by decide +kernel
theorem dX1_roomsSayableBy_37 : decode cX1_roomsSayableBy 37 = .ok (.invokestatic 45, 3) := by decide +kernel
theorem dX1_roomsSayableBy_40 : decode cX1_roomsSayableBy 40 = .ok (.if_icmp .lt 9, 3) := by decide +kernel
theorem dX1_roomsSayableBy_43 : decode cX1_roomsSayableBy 43 = .ok (.iload_n 2, 1) := by decide +kernel
theorem dX1_roomsSayableBy_44 : decode cX1_roomsSayableBy 44 = .ok (.iconst 1, 1) := by decide +kernel
theorem dX1_roomsSayableBy_45 : decode cX1_roomsSayableBy 45 = .ok (.iload_n 3, 1) := by decide +kernel
theorem dX1_roomsSayableBy_46 : decode cX1_roomsSayableBy 46 = .ok (.ishl, 1) := by decide +kernel
theorem dX1_roomsSayableBy_47 : decode cX1_roomsSayableBy 47 = .ok (.ior, 1) := by decide +kernel
theorem dX1_roomsSayableBy_48 : decode cX1_roomsSayableBy 48 = .ok (.istore_n 2, 1) := by decide +kernel
theorem dX1_roomsSayableBy_49 : decode cX1_roomsSayableBy 49 = .ok (.iinc 3 1, 3) := by decide +kernel
theorem dX1_roomsSayableBy_52 : decode cX1_roomsSayableBy 52 = .ok (.goto (-38), 3) := by decide +kernel
theorem dX1_roomsSayableBy_55 : decode cX1_roomsSayableBy 55 = .ok (.iload_n 2, 1) := by decide +kernel
theorem dX1_roomsSayableBy_56 : decode cX1_roomsSayableBy 56 = .ok (.ireturn, 1) := by decide +kernel
theorem dX1_sureRooms_0 : decode cX1_sureRooms 0 = .ok (.aload_n 0, 1) := by decide +kernel
theorem dX1_sureRooms_1 : decode cX1_sureRooms 1 = .ok (.getfield 24, 3) := by decide +kernel
theorem dX1_sureRooms_4 : decode cX1_sureRooms 4 = .ok (.ifCond .ne 7, 3) := by decide +kernel
theorem dX1_sureRooms_7 : decode cX1_sureRooms 7 = .ok (.iconst 0, 1) := by decide +kernel
theorem dX1_sureRooms_8 : decode cX1_sureRooms 8 = .ok (.goto 5, 3) := by decide +kernel
theorem dX1_sureRooms_11 : decode cX1_sureRooms 11 = .ok (.ldc 83, 2) := by decide +kernel
theorem dX1_sureRooms_13 : decode cX1_sureRooms 13 = .ok (.istore_n 1, 1) := by decide +kernel
theorem dX1_sureRooms_14 : decode cX1_sureRooms 14 = .ok (.iconst 0, 1) := by decide +kernel
theorem dX1_sureRooms_15 : decode cX1_sureRooms 15 = .ok (.istore_n 2, 1) := by decide +kernel
theorem dX1_sureRooms_16 : decode cX1_sureRooms 16 = .ok (.iload_n 2, 1) := by decide +kernel
theorem dX1_sureRooms_17 : decode cX1_sureRooms 17 = .ok (.aload_n 0, 1) := by decide +kernel
theorem dX1_sureRooms_18 : decode cX1_sureRooms 18 = .ok (.getfield 24, 3) := by decide +kernel
theorem dX1_sureRooms_21 : decode cX1_sureRooms 21 = .ok (.if_icmp .ge 17, 3) := by decide +kernel
theorem dX1_sureRooms_24 : decode cX1_sureRooms 24 = .ok (.iload_n 1, 1) := by decide +kernel
theorem dX1_sureRooms_25 : decode cX1_sureRooms 25 = .ok (.aload_n 0, 1) := by decide +kernel
theorem dX1_sureRooms_26 : decode cX1_sureRooms 26 = .ok (.iload_n 2, 1) := by decide +kernel
theorem dX1_sureRooms_27 : decode cX1_sureRooms 27 = .ok (.invokevirtual 84, 3) := by decide +kernel
theorem dX1_sureRooms_30 : decode cX1_sureRooms 30 = .ok (.iand, 1) := by decide +kernel
theorem dX1_sureRooms_31 : decode cX1_sureRooms 31 = .ok (.istore_n 1, 1) := by decide +kernel
theorem dX1_sureRooms_32 : decode cX1_sureRooms 32 = .ok (.iinc 2 1, 3) := by decide +kernel
theorem dX1_sureRooms_35 : decode cX1_sureRooms 35 = .ok (.goto (-19), 3) := by decide +kernel
theorem dX1_sureRooms_38 : decode cX1_sureRooms 38 = .ok (.iload_n 1, 1) := by decide +kernel
theorem dX1_sureRooms_39 : decode cX1_sureRooms 39 = .ok (.invokestatic 87, 3) := by decide +kernel
theorem dX1_sureRooms_42 : decode cX1_sureRooms 42 = .ok (.ireturn, 1) := by decide +kernel
theorem dX1_somebodysRooms_0 : decode cX1_somebodysRooms 0 = .ok (.iconst 0, 1) := by decide +kernel
theorem dX1_somebodysRooms_1 : decode cX1_somebodysRooms 1 = .ok (.istore_n 1, 1) := by decide +kernel
theorem dX1_somebodysRooms_2 : decode cX1_somebodysRooms 2 = .ok (.iconst 0, 1) := by decide +kernel
theorem dX1_somebodysRooms_3 : decode cX1_somebodysRooms 3 = .ok (.istore_n 2, 1) := by decide +kernel
theorem dX1_somebodysRooms_4 : decode cX1_somebodysRooms 4 = .ok (.iload_n 2, 1) := by decide +kernel
theorem dX1_somebodysRooms_5 : decode cX1_somebodysRooms 5 = .ok (.aload_n 0, 1) := by decide +kernel
theorem dX1_somebodysRooms_6 : decode cX1_somebodysRooms 6 = .ok (.getfield 24, 3) := by decide +kernel
theorem dX1_somebodysRooms_9 : decode cX1_somebodysRooms 9 = .ok (.if_icmp .ge 17, 3) := by decide +kernel
theorem dX1_somebodysRooms_12 : decode cX1_somebodysRooms 12 = .ok (.iload_n 1, 1) := by decide +kernel
theorem dX1_somebodysRooms_13 : decode cX1_somebodysRooms 13 = .ok (.aload_n 0, 1) := by decide +kernel
theorem dX1_somebodysRooms_14 : decode cX1_somebodysRooms 14 = .ok (.iload_n 2, 1) := by decide +kernel
theorem dX1_somebodysRooms_15 : decode cX1_somebodysRooms 15 = .ok (.invokevirtual 84, 3) := by decide +kernel
theorem dX1_somebodysRooms_18 : decode cX1_somebodysRooms 18 = .ok (.ior, 1) := by decide +kernel
theorem dX1_somebodysRooms_19 : decode cX1_somebodysRooms 19 = .ok (.istore_n 1, 1) := by decide +kernel
theorem dX1_somebodysRooms_20 : decode cX1_somebodysRooms 20 = .ok (.iinc 2 1, 3) := by decide +kernel
theorem dX1_somebodysRooms_23 : decode cX1_somebodysRooms 23 = .ok (.goto (-19), 3) := by decide +kernel
theorem dX1_somebodysRooms_26 : decode cX1_somebodysRooms 26 = .ok (.iload_n 1, 1) := by decide +kernel
theorem dX1_somebodysRooms_27 : decode cX1_somebodysRooms 27 = .ok (.invokestatic 87, 3) := by decide +kernel
theorem dX1_somebodysRooms_30 : decode cX1_somebodysRooms 30 = .ok (.ireturn, 1) := by decide +kernel
theorem dX1_allWorth_0 : decode cX1_allWorth 0 = .ok (.iconst 0, 1) := by decide +kernel
theorem dX1_allWorth_1 : decode cX1_allWorth 1 = .ok (.istore_n 1, 1) := by decide +kernel
theorem dX1_allWorth_2 : decode cX1_allWorth 2 = .ok (.iconst 0, 1) := by decide +kernel
theorem dX1_allWorth_3 : decode cX1_allWorth 3 = .ok (.istore_n 2, 1) := by decide +kernel
theorem dX1_allWorth_4 : decode cX1_allWorth 4 = .ok (.iload_n 2, 1) := by decide +kernel
theorem dX1_allWorth_5 : decode cX1_allWorth 5 = .ok (.bipush 25, 2) := by decide +kernel
theorem dX1_allWorth_7 : decode cX1_allWorth 7 = .ok (.if_icmp .ge 17, 3) := by decide +kernel
theorem dX1_allWorth_10 : decode cX1_allWorth 10 = .ok (.iload_n 1, 1) := by decide +kernel
theorem dX1_allWorth_11 : decode cX1_allWorth 11 = .ok (.aload_n 0, 1) := by decide +kernel
theorem dX1_allWorth_12 : decode cX1_allWorth 12 = .ok (.iload_n 2, 1) := by decide +kernel
theorem dX1_allWorth_13 : decode cX1_allWorth 13 = .ok (.invokevirtual 92, 3) := by decide +kernel
theorem dX1_allWorth_16 : decode cX1_allWorth 16 = .ok (.iadd, 1) := by decide +kernel
theorem dX1_allWorth_17 : decode cX1_allWorth 17 = .ok (.istore_n 1, 1) := by decide +kernel
theorem dX1_allWorth_18 : decode cX1_allWorth 18 = .ok (.iinc 2 1, 3) := by decide +kernel
theorem dX1_allWorth_21 : decode cX1_allWorth 21 = .ok (.goto (-17), 3) := by decide +kernel
theorem dX1_allWorth_24 : decode cX1_allWorth 24 = .ok (.iload_n 1, 1) := by decide +kernel
theorem dX1_allWorth_25 : decode cX1_allWorth 25 = .ok (.ireturn, 1) := by decide +kernel
theorem dX1_walls_0 : decode cX1_walls 0 = .ok (.iconst 0, 1) := by decide +kernel
theorem dX1_walls_1 : decode cX1_walls 1 = .ok (.istore_n 1, 1) := by decide +kernel
theorem dX1_walls_2 : decode cX1_walls 2 = .ok (.iconst 0, 1) := by decide +kernel
theorem dX1_walls_3 : decode cX1_walls 3 = .ok (.istore_n 2, 1) := by decide +kernel
theorem dX1_walls_4 : decode cX1_walls 4 = .ok (.iload_n 2, 1) := by decide +kernel
theorem dX1_walls_5 : decode cX1_walls 5 = .ok (.bipush 25, 2) := by decide +kernel
theorem dX1_walls_7 : decode cX1_walls 7 = .ok (.if_icmp .ge 30, 3) := by decide +kernel
theorem dX1_walls_10 : decode cX1_walls 10 = .ok (.aload_n 0, 1) := by decide +kernel
theorem dX1_walls_11 : decode cX1_walls 11 = .ok (.iload_n 2, 1) := by decide +kernel
theorem dX1_walls_12 : decode cX1_walls 12 = .ok (.invokevirtual 41, 3) := by decide +kernel
theorem dX1_walls_15 : decode cX1_walls 15 = .ok (.iconst 4, 1) := by decide +kernel
theorem dX1_walls_16 : decode cX1_walls 16 = .ok (.if_icmp .eq 12, 3) := by decide +kernel
theorem dX1_walls_19 : decode cX1_walls 19 = .ok (.aload_n 0, 1) := by decide +kernel
theorem dX1_walls_20 : decode cX1_walls 20 = .ok (.iload_n 2, 1) := by decide +kernel
theorem dX1_walls_21 : decode cX1_walls 21 = .ok (.invokevirtual 41, 3) := by decide +kernel
theorem dX1_walls_24 : decode cX1_walls 24 = .ok (.iconst 5, 1) := by decide +kernel
theorem dX1_walls_25 : decode cX1_walls 25 = .ok (.if_icmp .ne 6, 3) := by decide +kernel
theorem dX1_walls_28 : decode cX1_walls 28 = .ok (.iinc 1 1, 3) := by decide +kernel
theorem dX1_walls_31 : decode cX1_walls 31 = .ok (.iinc 2 1, 3) := by decide +kernel
theorem dX1_walls_34 : decode cX1_walls 34 = .ok (.goto (-30), 3) := by decide +kernel
theorem dX1_walls_37 : decode cX1_walls 37 = .ok (.iload_n 1, 1) := by decide +kernel
theorem dX1_walls_38 : decode cX1_walls 38 = .ok (.ireturn, 1) := by decide +kernel
theorem dX1_allKnown_0 : decode cX1_allKnown 0 = .ok (.iconst 0, 1) := by decide +kernel
theorem dX1_allKnown_1 : decode cX1_allKnown 1 = .ok (.istore_n 1, 1) := by decide +kernel
theorem dX1_allKnown_2 : decode cX1_allKnown 2 = .ok (.iconst 0, 1) := by decide +kernel
theorem dX1_allKnown_3 : decode cX1_allKnown 3 = .ok (.istore_n 2, 1) := by decide +kernel
theorem dX1_allKnown_4 : decode cX1_allKnown 4 = .ok (.iload_n 2, 1) := by decide +kernel
theorem dX1_allKnown_5 : decode cX1_allKnown 5 = .ok (.aload_n 0, 1) := by decide +kernel
theorem dX1_allKnown_6 : decode cX1_allKnown 6 = .ok (.getfield 24, 3) := by decide +kernel
theorem dX1_allKnown_9 : decode cX1_allKnown 9 = .ok (.if_icmp .ge 32, 3) := by decide +kernel
theorem dX1_allKnown_12 : decode cX1_allKnown 12 = .ok (.iconst 0, 1) := by decide +kernel
theorem dX1_allKnown_13 : decode cX1_allKnown 13 = .ok (.istore_n 3, 1) := by decide +kernel
theorem dX1_allKnown_14 : decode cX1_allKnown 14 = .ok (.iload_n 3, 1) := by decide +kernel
theorem dX1_allKnown_15 : decode cX1_allKnown 15 = .ok (.bipush 25, 2) := by decide +kernel
theorem dX1_allKnown_17 : decode cX1_allKnown 17 = .ok (.if_icmp .ge 18, 3) := by decide +kernel
theorem dX1_allKnown_20 : decode cX1_allKnown 20 = .ok (.iload_n 1, 1) := by decide +kernel
theorem dX1_allKnown_21 : decode cX1_allKnown 21 = .ok (.aload_n 0, 1) := by decide +kernel
theorem dX1_allKnown_22 : decode cX1_allKnown 22 = .ok (.iload_n 2, 1) := by decide +kernel
theorem dX1_allKnown_23 : decode cX1_allKnown 23 = .ok (.iload_n 3, 1) := by decide +kernel
theorem dX1_allKnown_24 : decode cX1_allKnown 24 = .ok (.invokevirtual 95, 3) := by decide +kernel
theorem dX1_allKnown_27 : decode cX1_allKnown 27 = .ok (.iadd, 1) := by decide +kernel
theorem dX1_allKnown_28 : decode cX1_allKnown 28 = .ok (.istore_n 1, 1) := by decide +kernel
theorem dX1_allKnown_29 : decode cX1_allKnown 29 = .ok (.iinc 3 1, 3) := by decide +kernel
theorem dX1_allKnown_32 : decode cX1_allKnown 32 = .ok (.goto (-18), 3) := by decide +kernel
theorem dX1_allKnown_35 : decode cX1_allKnown 35 = .ok (.iinc 2 1, 3) := by decide +kernel
theorem dX1_allKnown_38 : decode cX1_allKnown 38 = .ok (.goto (-34), 3) := by decide +kernel
theorem dX1_allKnown_41 : decode cX1_allKnown 41 = .ok (.iload_n 1, 1) := by decide +kernel
theorem dX1_allKnown_42 : decode cX1_allKnown 42 = .ok (.ireturn, 1) := by decide +kernel
theorem dX2_needs_0 : decode cX2_needs 0 = .ok (.iload_n 0, 1) := by decide +kernel
theorem dX2_needs_1 : decode cX2_needs 1 = .ok (.lookupswitch 31 #[(2, 27), (3, 29)], 27) := by decide +kernel
theorem dX2_needs_28 : decode cX2_needs 28 = .ok (.iconst 2, 1) := by decide +kernel
theorem dX2_needs_29 : decode cX2_needs 29 = .ok (.ireturn, 1) := by decide +kernel
theorem dX2_needs_30 : decode cX2_needs 30 = .ok (.iconst 4, 1) := by decide +kernel
theorem dX2_needs_31 : decode cX2_needs 31 = .ok (.ireturn, 1) := by decide +kernel
theorem dX2_needs_32 : decode cX2_needs 32 = .ok (.iconst 1, 1) := by decide +kernel
theorem dX2_needs_33 : decode cX2_needs 33 = .ok (.ireturn, 1) := by decide +kernel
theorem dX2_catches_0 : decode cX2_catches 0 = .ok (.iload_n 0, 1) := by decide +kernel
theorem dX2_catches_1 : decode cX2_catches 1 = .ok (.tableswitch 44 1 5 #[35, 37, 37, 39, 42], 35) := by decide +kernel
theorem dX2_catches_36 : decode cX2_catches 36 = .ok (.iconst 1, 1) := by decide +kernel
theorem dX2_catches_37 : decode cX2_catches 37 = .ok (.ireturn, 1) := by decide +kernel
theorem dX2_catches_38 : decode cX2_catches 38 = .ok (.iconst 3, 1) := by decide +kernel
theorem dX2_catches_39 : decode cX2_catches 39 = .ok (.ireturn, 1) := by decide +kernel
theorem dX2_catches_40 : decode cX2_catches 40 = .ok (.bipush (-9), 2) := by decide +kernel
theorem dX2_catches_42 : decode cX2_catches 42 = .ok (.ireturn, 1) := by decide +kernel
theorem dX2_catches_43 : decode cX2_catches 43 = .ok (.iconst 4, 1) := by decide +kernel
theorem dX2_catches_44 : decode cX2_catches 44 = .ok (.ireturn, 1) := by decide +kernel
theorem dX2_catches_45 : decode cX2_catches 45 = .ok (.iconst 2, 1) := by decide +kernel
theorem dX2_catches_46 : decode cX2_catches 46 = .ok (.ireturn, 1) := by decide +kernel
theorem dX2_worth_0 : decode cX2_worth 0 = .ok (.iload_n 0, 1) := by decide +kernel
theorem dX2_worth_1 : decode cX2_worth 1 = .ok (.tableswitch 47 2 5 #[31, 36, 43, 45], 31) := by decide +kernel
theorem dX2_worth_32 : decode cX2_worth 32 = .ok (.bipush 6, 2) := by decide +kernel
theorem dX2_worth_34 : decode cX2_worth 34 = .ok (.iload_n 1, 1) := by decide +kernel
theorem dX2_worth_35 : decode cX2_worth 35 = .ok (.iadd, 1) := by decide +kernel
theorem dX2_worth_36 : decode cX2_worth 36 = .ok (.ireturn, 1) := by decide +kernel
theorem dX2_worth_37 : decode cX2_worth 37 = .ok (.iconst 2, 1) := by decide +kernel
theorem dX2_worth_38 : decode cX2_worth 38 = .ok (.bipush 6, 2) := by decide +kernel
theorem dX2_worth_40 : decode cX2_worth 40 = .ok (.iload_n 1, 1) := by decide +kernel
theorem dX2_worth_41 : decode cX2_worth 41 = .ok (.iadd, 1) := by decide +kernel
theorem dX2_worth_42 : decode cX2_worth 42 = .ok (.imul, 1) := by decide +kernel
theorem dX2_worth_43 : decode cX2_worth 43 = .ok (.ireturn, 1) := by decide +kernel
theorem dX2_worth_44 : decode cX2_worth 44 = .ok (.iconst 0, 1) := by decide +kernel
theorem dX2_worth_45 : decode cX2_worth 45 = .ok (.ireturn, 1) := by decide +kernel
theorem dX2_worth_46 : decode cX2_worth 46 = .ok (.iload_n 1, 1) := by decide +kernel
theorem dX2_worth_47 : decode cX2_worth 47 = .ok (.ireturn, 1) := by decide +kernel
theorem dX2_worth_48 : decode cX2_worth 48 = .ok (.iconst 1, 1) := by decide +kernel
theorem dX2_worth_49 : decode cX2_worth 49 = .ok (.iload_n 1, 1) := by decide +kernel
theorem dX2_worth_50 : decode cX2_worth 50 = .ok (.iadd, 1) := by decide +kernel
theorem dX2_worth_51 : decode cX2_worth 51 = .ok (.ireturn, 1) := by decide +kernel
theorem dX3_init_0 : decode cX3_init 0 = .ok (.aload_n 0, 1) := by decide +kernel
theorem dX3_init_1 : decode cX3_init 1 = .ok (.invokespecial 3, 3) := by decide +kernel
theorem dX3_init_4 : decode cX3_init 4 = .ok (.aload_n 0, 1) := by decide +kernel
theorem dX3_init_5 : decode cX3_init 5 = .ok (.iconst 0, 1) := by decide +kernel
theorem dX3_init_6 : decode cX3_init 6 = .ok (.iload_n 1, 1) := by decide +kernel
theorem dX3_init_7 : decode cX3_init 7 = .ok (.invokestatic 9, 3) := by decide +kernel
theorem dX3_init_10 : decode cX3_init 10 = .ok (.newarray .int, 2) := by decide +kernel
theorem dX3_init_12 : decode cX3_init 12 = .ok (.putfield 15, 3) := by decide +kernel
theorem dX3_init_15 : decode cX3_init 15 = .ok (.aload_n 0, 1) := by decide +kernel
theorem dX3_init_16 : decode cX3_init 16 = .ok (.iconst 0, 1) := by decide +kernel
theorem dX3_init_17 : decode cX3_init 17 = .ok (.putfield 21, 3) := by decide +kernel
theorem dX3_init_20 : decode cX3_init 20 = .ok (.return_, 1) := by decide +kernel
theorem dX3_isFull_0 : decode cX3_isFull 0 = .ok (.aload_n 0, 1) := by decide +kernel
theorem dX3_isFull_1 : decode cX3_isFull 1 = .ok (.getfield 21, 3) := by decide +kernel
theorem dX3_isFull_4 : decode cX3_isFull 4 = .ok (.aload_n 0, 1) := by decide +kernel
theorem dX3_isFull_5 : decode cX3_isFull 5 = .ok (.getfield 15, 3) := by decide +kernel
theorem dX3_isFull_8 : decode cX3_isFull 8 = .ok (.arraylength, 1) := by decide +kernel
theorem dX3_isFull_9 : decode cX3_isFull 9 = .ok (.if_icmp .lt 7, 3) := by decide +kernel
theorem dX3_isFull_12 : decode cX3_isFull 12 = .ok (.iconst 1, 1) := by decide +kernel
theorem dX3_isFull_13 : decode cX3_isFull 13 = .ok (.goto 4, 3) := by decide +kernel
theorem dX3_isFull_16 : decode cX3_isFull 16 = .ok (.iconst 0, 1) := by decide +kernel
theorem dX3_isFull_17 : decode cX3_isFull 17 = .ok (.ireturn, 1) := by decide +kernel
theorem dX3_add_0 : decode cX3_add 0 = .ok (.aload_n 0, 1) := by decide +kernel
theorem dX3_add_1 : decode cX3_add 1 = .ok (.getfield 21, 3) := by decide +kernel
theorem dX3_add_4 : decode cX3_add 4 = .ok (.ifCond .lt 35, 3) := by decide +kernel
theorem dX3_add_7 : decode cX3_add 7 = .ok (.aload_n 0, 1) := by decide +kernel
theorem dX3_add_8 : decode cX3_add 8 = .ok (.getfield 21, 3) := by decide +kernel
theorem dX3_add_11 : decode cX3_add 11 = .ok (.aload_n 0, 1) := by decide +kernel
theorem dX3_add_12 : decode cX3_add 12 = .ok (.getfield 15, 3) := by decide +kernel
theorem dX3_add_15 : decode cX3_add 15 = .ok (.arraylength, 1) := by decide +kernel
theorem dX3_add_16 : decode cX3_add 16 = .ok (.if_icmp .ge 23, 3) := by decide +kernel
theorem dX3_add_19 : decode cX3_add 19 = .ok (.aload_n 0, 1) := by decide +kernel
theorem dX3_add_20 : decode cX3_add 20 = .ok (.getfield 15, 3) := by decide +kernel
theorem dX3_add_23 : decode cX3_add 23 = .ok (.aload_n 0, 1) := by decide +kernel
theorem dX3_add_24 : decode cX3_add 24 = .ok (.getfield 21, 3) := by decide +kernel
theorem dX3_add_27 : decode cX3_add 27 = .ok (.iload_n 1, 1) := by decide +kernel
theorem dX3_add_28 : decode cX3_add 28 = .ok (.iastore, 1) := by decide +kernel
theorem dX3_add_29 : decode cX3_add 29 = .ok (.aload_n 0, 1) := by decide +kernel
theorem dX3_add_30 : decode cX3_add 30 = .ok (.dup, 1) := by decide +kernel
theorem dX3_add_31 : decode cX3_add 31 = .ok (.getfield 21, 3) := by decide +kernel
theorem dX3_add_34 : decode cX3_add 34 = .ok (.iconst 1, 1) := by decide +kernel
theorem dX3_add_35 : decode cX3_add 35 = .ok (.iadd, 1) := by decide +kernel
theorem dX3_add_36 : decode cX3_add 36 = .ok (.putfield 21, 3) := by decide +kernel
theorem dX3_add_39 : decode cX3_add 39 = .ok (.aload_n 0, 1) := by decide +kernel
theorem dX3_add_40 : decode cX3_add 40 = .ok (.getfield 21, 3) := by decide +kernel
theorem dX3_add_43 : decode cX3_add 43 = .ok (.ireturn, 1) := by decide +kernel
theorem dX3_at_0 : decode cX3_at 0 = .ok (.iload_n 1, 1) := by decide +kernel
theorem dX3_at_1 : decode cX3_at 1 = .ok (.ifCond .lt 29, 3) := by decide +kernel
theorem dX3_at_4 : decode cX3_at 4 = .ok (.iload_n 1, 1) := by decide +kernel
theorem dX3_at_5 : decode cX3_at 5 = .ok (.aload_n 0, 1) := by decide +kernel
theorem dX3_at_6 : decode cX3_at 6 = .ok (.getfield 21, 3) := by decide +kernel
theorem dX3_at_9 : decode cX3_at 9 = .ok (.if_icmp .ge 21, 3) := by decide +kernel
theorem dX3_at_12 : decode cX3_at 12 = .ok (.iload_n 1, 1) := by decide +kernel
theorem dX3_at_13 : decode cX3_at 13 = .ok (.aload_n 0, 1) := by decide +kernel
theorem dX3_at_14 : decode cX3_at 14 = .ok (.getfield 15, 3) := by decide +kernel
theorem dX3_at_17 : decode cX3_at 17 = .ok (.arraylength, 1) := by decide +kernel
theorem dX3_at_18 : decode cX3_at 18 = .ok (.if_icmp .ge 12, 3) := by decide +kernel
theorem dX3_at_21 : decode cX3_at 21 = .ok (.aload_n 0, 1) := by decide +kernel
theorem dX3_at_22 : decode cX3_at 22 = .ok (.getfield 15, 3) := by decide +kernel
theorem dX3_at_25 : decode cX3_at 25 = .ok (.iload_n 1, 1) := by decide +kernel
theorem dX3_at_26 : decode cX3_at 26 = .ok (.iaload, 1) := by decide +kernel
theorem dX3_at_27 : decode cX3_at 27 = .ok (.goto 5, 3) := by decide +kernel
theorem dX3_at_30 : decode cX3_at 30 = .ok (.bipush (-9), 2) := by decide +kernel
theorem dX3_at_32 : decode cX3_at 32 = .ok (.ireturn, 1) := by decide +kernel
theorem dX3_forget_0 : decode cX3_forget 0 = .ok (.aload_n 0, 1) := by decide +kernel
theorem dX3_forget_1 : decode cX3_forget 1 = .ok (.iconst 0, 1) := by decide +kernel
theorem dX3_forget_2 : decode cX3_forget 2 = .ok (.putfield 21, 3) := by decide +kernel
theorem dX3_forget_5 : decode cX3_forget 5 = .ok (.return_, 1) := by decide +kernel
theorem dX4_init_0 : decode cX4_init 0 = .ok (.aload_n 0, 1) := by decide +kernel
theorem dX4_init_1 : decode cX4_init 1 = .ok (.invokespecial 3, 3) := by decide +kernel
theorem dX4_init_4 : decode cX4_init 4 = .ok (.aload_n 0, 1) := by decide +kernel
theorem dX4_init_5 : decode cX4_init 5 = .ok (.new 9, 3) := by decide +kernel
theorem dX4_init_8 : decode cX4_init 8 = .ok (.dup, 1) := by decide +kernel
theorem dX4_init_9 : decode cX4_init 9 = .ok (.bipush 96, 2) := by decide +kernel
theorem dX4_init_11 : decode cX4_init 11 = .ok (.invokespecial 11, 3) := by decide +kernel
theorem dX4_init_14 : decode cX4_init 14 = .ok (.putfield 14, 3) := by decide +kernel
theorem dX4_init_17 : decode cX4_init 17 = .ok (.return_, 1) := by decide +kernel
theorem dX4_tellTo_0 : decode cX4_tellTo 0 = .ok (.aload_n 0, 1) := by decide +kernel
theorem dX4_tellTo_1 : decode cX4_tellTo 1 = .ok (.invokevirtual 20, 3) := by decide +kernel
theorem dX4_tellTo_4 : decode cX4_tellTo 4 = .ok (.istore_n 2, 1) := by decide +kernel
theorem dX4_tellTo_5 : decode cX4_tellTo 5 = .ok (.iload_n 2, 1) := by decide +kernel
theorem dX4_tellTo_6 : decode cX4_tellTo 6 = .ok (.bipush (-9), 2) := by decide +kernel
theorem dX4_tellTo_8 : decode cX4_tellTo 8 = .ok (.if_icmp .eq 9, 3) := by decide +kernel
theorem dX4_tellTo_11 : decode cX4_tellTo 11 = .ok (.sipush (-1000), 3) := by decide +kernel
theorem dX4_tellTo_14 : decode cX4_tellTo 14 = .ok (.iload_n 2, 1) := by decide +kernel
theorem dX4_tellTo_15 : decode cX4_tellTo 15 = .ok (.isub, 1) := by decide +kernel
theorem dX4_tellTo_16 : decode cX4_tellTo 16 = .ok (.ireturn, 1) := by decide +kernel
theorem dX4_tellTo_17 : decode cX4_tellTo 17 = .ok (.iconst 0, 1) := by decide +kernel
theorem dX4_tellTo_18 : decode cX4_tellTo 18 = .ok (.istore_n 3, 1) := by decide +kernel
theorem dX4_tellTo_19 : decode cX4_tellTo 19 = .ok (.iconst 0, 1) := by decide +kernel
theorem dX4_tellTo_20 : decode cX4_tellTo 20 = .ok (.istore 4, 2) := by decide +kernel
theorem dX4_tellTo_22 : decode cX4_tellTo 22 = .ok (.iload_n 3, 1) := by decide +kernel
theorem dX4_tellTo_23 : decode cX4_tellTo 23 = .ok (.aload_n 0, 1) := by decide +kernel
theorem dX4_tellTo_24 : decode cX4_tellTo 24 = .ok (.getfield 14, 3) := by decide +kernel
theorem dX4_tellTo_27 : decode cX4_tellTo 27 = .ok (.getfield 24, 3) := by decide +kernel
theorem dX4_tellTo_30 : decode cX4_tellTo 30 = .ok (.if_icmp .ge 48, 3) := by decide +kernel
theorem dX4_tellTo_33 : decode cX4_tellTo 33 = .ok (.iload 4, 2) := by decide +kernel
theorem dX4_tellTo_35 : decode cX4_tellTo 35 = .ok (.bipush 96, 2) := by decide +kernel
theorem dX4_tellTo_37 : decode cX4_tellTo 37 = .ok (.if_icmp .ge 41, 3) := by decide +kernel
theorem dX4_tellTo_40 : decode cX4_tellTo 40 = .ok (.aload_n 0, 1) := by decide +kernel
theorem dX4_tellTo_41 : decode cX4_tellTo 41 = .ok (.iload_n 3, 1) := by decide +kernel
theorem dX4_tellTo_42 : decode cX4_tellTo 42 = .ok (.aload_n 1, 1) := by decide +kernel
theorem dX4_tellTo_43 : decode cX4_tellTo 43 = .ok (.invokevirtual 28, 3) := by decide +kernel
theorem dX4_tellTo_46 : decode cX4_tellTo 46 = .ok (.ifCond .ne 9, 3) := by decide +kernel
theorem dX4_tellTo_49 : decode cX4_tellTo 49 = .ok (.sipush (-2000), 3) := by decide +kernel
theorem dX4_tellTo_52 : decode cX4_tellTo 52 = .ok (.iload_n 3, 1) := by decide +kernel
theorem dX4_tellTo_53 : decode cX4_tellTo 53 = .ok (.isub, 1) := by decide +kernel
theorem dX4_tellTo_54 : decode cX4_tellTo 54 = .ok (.ireturn, 1) := by decide +kernel
theorem dX4_tellTo_55 : decode cX4_tellTo 55 = .ok (.iload_n 3, 1) := by decide +kernel
theorem dX4_tellTo_56 : decode cX4_tellTo 56 = .ok (.aload_n 0, 1) := by decide +kernel
theorem dX4_tellTo_57 : decode cX4_tellTo 57 = .ok (.getfield 14, 3) := by decide +kernel
theorem dX4_tellTo_60 : decode cX4_tellTo 60 = .ok (.iload_n 3, 1) := by decide +kernel
theorem dX4_tellTo_61 : decode cX4_tellTo 61 = .ok (.invokevirtual 32, 3) := by decide +kernel
theorem dX4_tellTo_64 : decode cX4_tellTo 64 = .ok (.invokestatic 36, 3) := by decide +kernel
theorem dX4_tellTo_67 : decode cX4_tellTo 67 = .ok (.invokevirtual 40, 3) := by decide +kernel
theorem dX4_tellTo_70 : decode cX4_tellTo 70 = .ok (.iadd, 1) := by decide +kernel
theorem dX4_tellTo_71 : decode cX4_tellTo 71 = .ok (.istore_n 3, 1) := by decide +kernel
theorem dX4_tellTo_72 : decode cX4_tellTo 72 = .ok (.iinc 4 1, 3) := by decide +kernel
theorem dX4_tellTo_75 : decode cX4_tellTo 75 = .ok (.goto (-53), 3) := by decide +kernel
theorem dX4_tellTo_78 : decode cX4_tellTo 78 = .ok (.iload 4, 2) := by decide +kernel
theorem dX4_tellTo_80 : decode cX4_tellTo 80 = .ok (.ireturn, 1) := by decide +kernel
theorem dX4_firstStray_0 : decode cX4_firstStray 0 = .ok (.aload_n 0, 1) := by decide +kernel
theorem dX4_firstStray_1 : decode cX4_firstStray 1 = .ok (.getfield 14, 3) := by decide +kernel
theorem dX4_firstStray_4 : decode cX4_firstStray 4 = .ok (.getfield 24, 3) := by decide +kernel
theorem dX4_firstStray_7 : decode cX4_firstStray 7 = .ok (.ifCond .ne 5, 3) := by decide +kernel
theorem dX4_firstStray_10 : decode cX4_firstStray 10 = .ok (.iconst 0, 1) := by decide +kernel
theorem dX4_firstStray_11 : decode cX4_firstStray 11 = .ok (.ireturn, 1) := by decide +kernel
theorem dX4_firstStray_12 : decode cX4_firstStray 12 = .ok (.iconst 0, 1) := by decide +kernel
theorem dX4_firstStray_13 : decode cX4_firstStray 13 = .ok (.istore_n 1, 1) := by decide +kernel
theorem dX4_firstStray_14 : decode cX4_firstStray 14 = .ok (.iconst 0, 1) := by decide +kernel
theorem dX4_firstStray_15 : decode cX4_firstStray 15 = .ok (.istore_n 2, 1) := by decide +kernel
theorem dX4_firstStray_16 : decode cX4_firstStray 16 = .ok (.iload_n 2, 1) := by decide +kernel
theorem dX4_firstStray_17 : decode cX4_firstStray 17 = .ok (.bipush 96, 2) := by decide +kernel
theorem dX4_firstStray_19 : decode cX4_firstStray 19 = .ok (.if_icmp .ge 66, 3) := by decide +kernel
theorem dX4_firstStray_22 : decode cX4_firstStray 22 = .ok (.iload_n 1, 1) := by decide +kernel
theorem dX4_firstStray_23 : decode cX4_firstStray 23 = .ok (.aload_n 0, 1) := by decide +kernel
theorem dX4_firstStray_24 : decode cX4_firstStray 24 = .ok (.getfield 14, 3) := by decide +kernel
theorem dX4_firstStray_27 : decode cX4_firstStray 27 = .ok (.getfield 24, 3) := by decide +kernel
theorem dX4_firstStray_30 : decode cX4_firstStray 30 = .ok (.if_icmp .ge 55, 3) := by decide +kernel
theorem dX4_firstStray_33 : decode cX4_firstStray 33 = .ok (.aload_n 0, 1) := by decide +kernel
theorem dX4_firstStray_34 : decode cX4_firstStray 34 = .ok (.getfield 14, 3) := by decide +kernel
theorem dX4_firstStray_37 : decode cX4_firstStray 37 = .ok (.iload_n 1, 1) := by decide +kernel
theorem dX4_firstStray_38 : decode cX4_firstStray 38 = .ok (.invokevirtual 32, 3) := by decide +kernel
theorem dX4_firstStray_41 : decode cX4_firstStray 41 = .ok (.invokestatic 36, 3) := by decide +kernel
theorem dX4_firstStray_44 : decode cX4_firstStray 44 = .ok (.astore_n 3, 1) := by decide +kernel
theorem dX4_firstStray_45 : decode cX4_firstStray 45 = .ok (.aload_n 0, 1) := by decide +kernel
theorem dX4_firstStray_46 : decode cX4_firstStray 46 = .ok (.aload_n 3, 1) := by decide +kernel
theorem dX4_firstStray_47 : decode cX4_firstStray 47 = .ok (.iload_n 1, 1) := by decide +kernel
theorem dX4_firstStray_48 : decode cX4_firstStray 48 = .ok (.invokevirtual 45, 3) := by decide +kernel
theorem dX4_firstStray_51 : decode cX4_firstStray 51 = .ok (.istore 4, 2) := by decide +kernel
theorem dX4_firstStray_53 : decode cX4_firstStray 53 = .ok (.aload_n 3, 1) := by decide +kernel
theorem dX4_firstStray_54 : decode cX4_firstStray 54 = .ok (.invokevirtual 49, 3) := by decide +kernel
theorem dX4_firstStray_57 : decode cX4_firstStray 57 = .ok (.ifCond .ne 12, 3) := by decide +kernel
theorem dX4_firstStray_60 : decode cX4_firstStray 60 = .ok (.iload 4, 2) := by decide +kernel
theorem dX4_firstStray_62 : decode cX4_firstStray 62 = .ok (.aload_n 3, 1) := by decide +kernel
theorem dX4_firstStray_63 : decode cX4_firstStray 63 = .ok (.invokevirtual 40, 3) := by decide +kernel
theorem dX4_firstStray_66 : decode cX4_firstStray 66 = .ok (.if_icmp .ge 8, 3) := by decide +kernel
theorem dX4_firstStray_69 : decode cX4_firstStray 69 = .ok (.iload_n 1, 1) := by decide +kernel
theorem dX4_firstStray_70 : decode cX4_firstStray 70 = .ok (.iload 4, 2) := by decide +kernel
theorem dX4_firstStray_72 : decode cX4_firstStray 72 = .ok (.iadd, 1) := by decide +kernel
theorem dX4_firstStray_73 : decode cX4_firstStray 73 = .ok (.ireturn, 1) := by decide +kernel
theorem dX4_firstStray_74 : decode cX4_firstStray 74 = .ok (.iload_n 1, 1) := by decide +kernel
theorem dX4_firstStray_75 : decode cX4_firstStray 75 = .ok (.iload 4, 2) := by decide +kernel
theorem dX4_firstStray_77 : decode cX4_firstStray 77 = .ok (.iadd, 1) := by decide +kernel
theorem dX4_firstStray_78 : decode cX4_firstStray 78 = .ok (.istore_n 1, 1) := by decide +kernel
theorem dX4_firstStray_79 : decode cX4_firstStray 79 = .ok (.iinc 2 1, 3) := by decide +kernel
theorem dX4_firstStray_82 : decode cX4_firstStray 82 = .ok (.goto (-66), 3) := by decide +kernel
theorem dX4_firstStray_85 : decode cX4_firstStray 85 = .ok (.bipush (-9), 2) := by decide +kernel
theorem dX4_firstStray_87 : decode cX4_firstStray 87 = .ok (.ireturn, 1) := by decide +kernel
theorem dX4_fittingLetters_0 : decode cX4_fittingLetters 0 = .ok (.iconst 0, 1) := by decide +kernel
theorem dX4_fittingLetters_1 : decode cX4_fittingLetters 1 = .ok (.istore_n 3, 1) := by decide +kernel
theorem dX4_fittingLetters_2 : decode cX4_fittingLetters 2 = .ok (.iload_n 3, 1) := by decide +kernel
theorem dX4_fittingLetters_3 : decode cX4_fittingLetters 3 = .ok (.aload_n 1, 1) := by decide +kernel
theorem dX4_fittingLetters_4 : decode cX4_fittingLetters 4 = .ok (.invokevirtual 40, 3) := by decide +kernel
theorem dX4_fittingLetters_7 : decode cX4_fittingLetters 7 = .ok (.if_icmp .ge 32, 3) := by decide +kernel
theorem dX4_fittingLetters_10 : decode cX4_fittingLetters 10 = .ok (.aload_n 0, 1) := by decide +kernel
theorem dX4_fittingLetters_11 : decode cX4_fittingLetters 11 = .ok (.getfield 14, 3) := by decide +kernel
theorem dX4_fittingLetters_14 : decode cX4_fittingLetters 14 = .ok (.iload_n 2, 1) := by decide +kernel
theorem dX4_fittingLetters_15 : decode cX4_fittingLetters 15 = .ok (.iload_n 3, 1) := by decide +kernel
theorem dX4_fittingLetters_16 : decode cX4_fittingLetters 16 = .ok (.iadd, 1) := by decide +kernel
theorem dX4_fittingLetters_17 : decode cX4_fittingLetters 17 = .ok (.invokevirtual 32, 3) := by decide +kernel
theorem dX4_fittingLetters_20 : decode cX4_fittingLetters 20 = .ok (.aload_n 1, 1) := by decide +kernel
theorem dX4_fittingLetters_21 : decode cX4_fittingLetters 21 = .ok (.iload_n 3, 1) := by decide +kernel
theorem dX4_fittingLetters_22 : decode cX4_fittingLetters 22 = .ok (.invokevirtual 53, 3) := by decide +kernel
theorem dX4_fittingLetters_25 : decode cX4_fittingLetters 25 = .ok (.invokestatic 57, 3) := by decide +kernel
theorem dX4_fittingLetters_28 : decode cX4_fittingLetters 28 = .ok (.ifCond .ne 5, 3) := by decide +kernel
theorem dX4_fittingLetters_31 : decode cX4_fittingLetters 31 = .ok (.iload_n 3, 1) := by decide +kernel
theorem dX4_fittingLetters_32 : decode cX4_fittingLetters 32 = .ok (.ireturn, 1) := by decide +kernel
theorem dX4_fittingLetters_33 : decode cX4_fittingLetters 33 = .ok (.iinc 3 1, 3) := by decide +kernel
theorem dX4_fittingLetters_36 : decode cX4_fittingLetters 36 = .ok (.goto (-34), 3) := by decide +kernel
theorem dX4_fittingLetters_39 : decode cX4_fittingLetters 39 = .ok (.aload_n 1, 1) := by decide +kernel
theorem dX4_fittingLetters_40 : decode cX4_fittingLetters 40 = .ok (.invokevirtual 40, 3) := by decide +kernel
theorem dX4_fittingLetters_43 : decode cX4_fittingLetters 43 = .ok (.ireturn, 1) := by decide +kernel
theorem dX4_fits_0 : decode cX4_fits 0 = .ok (.iload_n 1, 1) := by decide +kernel
theorem dX4_fits_1 : decode cX4_fits 1 = .ok (.lookupswitch 60 #[(48, 42), (75, 27)], 27) := by decide +kernel
theorem dX4_fits_28 : decode cX4_fits 28 = .ok (.iload_n 0, 1) := by decide +kernel
theorem dX4_fits_29 : decode cX4_fits 29 = .ok (.invokestatic 61, 3) := by decide +kernel
theorem dX4_fits_32 : decode cX4_fits 32 = .ok (.bipush (-9), 2) := by decide +kernel
theorem dX4_fits_34 : decode cX4_fits 34 = .ok (.if_icmp .eq 7, 3) := by decide +kernel
theorem dX4_fits_37 : decode cX4_fits 37 = .ok (.iconst 1, 1) := by decide +kernel
theorem dX4_fits_38 : decode cX4_fits 38 = .ok (.goto 4, 3) := by decide +kernel
theorem dX4_fits_41 : decode cX4_fits 41 = .ok (.iconst 0, 1) := by decide +kernel
theorem dX4_fits_42 : decode cX4_fits 42 = .ok (.ireturn, 1) := by decide +kernel
theorem dX4_fits_43 : decode cX4_fits 43 = .ok (.iload_n 0, 1) := by decide +kernel
theorem dX4_fits_44 : decode cX4_fits 44 = .ok (.bipush 48, 2) := by decide +kernel
theorem dX4_fits_46 : decode cX4_fits 46 = .ok (.if_icmp .lt 13, 3) := by decide +kernel
theorem dX4_fits_49 : decode cX4_fits 49 = .ok (.iload_n 0, 1) := by decide +kernel
theorem dX4_fits_50 : decode cX4_fits 50 = .ok (.bipush 57, 2) := by decide +kernel
theorem dX4_fits_52 : decode cX4_fits 52 = .ok (.if_icmp .gt 7, 3) := by decide +kernel
theorem dX4_fits_55 : decode cX4_fits 55 = .ok (.iconst 1, 1) := by decide +kernel
theorem dX4_fits_56 : decode cX4_fits 56 = .ok (.goto 4, 3) := by decide +kernel
theorem dX4_fits_59 : decode cX4_fits 59 = .ok (.iconst 0, 1) := by decide +kernel
theorem dX4_fits_60 : decode cX4_fits 60 = .ok (.ireturn, 1) := by decide +kernel
theorem dX4_fits_61 : decode cX4_fits 61 = .ok (.iload_n 0, 1) := by decide +kernel
theorem dX4_fits_62 : decode cX4_fits 62 = .ok (.iload_n 1, 1) := by decide +kernel
theorem dX4_fits_63 : decode cX4_fits 63 = .ok (.if_icmp .ne 7, 3) := by decide +kernel
theorem dX4_fits_66 : decode cX4_fits 66 = .ok (.iconst 1, 1) := by decide +kernel
theorem dX4_fits_67 : decode cX4_fits 67 = .ok (.goto 4, 3) := by decide +kernel
theorem dX4_fits_70 : decode cX4_fits 70 = .ok (.iconst 0, 1) := by decide +kernel
theorem dX4_fits_71 : decode cX4_fits 71 = .ok (.ireturn, 1) := by decide +kernel
theorem dX4_formOf_0 : decode cX4_formOf 0 = .ok (.iload_n 0, 1) := by decide +kernel
theorem dX4_formOf_1 : decode cX4_formOf 1 = .ok (.tableswitch 78 107 118 #[72, 78, 78, 75, 78, 69, 78, 63, 78, 78, 78, 66], 63) := by decide +kernel
theorem dX4_formOf_64 : decode cX4_formOf 64 = .ok (.ldc 64, 2) := by decide +kernel
theorem dX4_formOf_66 : decode cX4_formOf 66 = .ok (.areturn, 1) := by decide +kernel
theorem dX4_formOf_67 : decode cX4_formOf 67 = .ok (.ldc 66, 2) := by decide +kernel
theorem dX4_formOf_69 : decode cX4_formOf 69 = .ok (.areturn, 1) := by decide +kernel
theorem dX4_formOf_70 : decode cX4_formOf 70 = .ok (.ldc 68, 2) := by decide +kernel
theorem dX4_formOf_72 : decode cX4_formOf 72 = .ok (.areturn, 1) := by decide +kernel
theorem dX4_formOf_73 : decode cX4_formOf 73 = .ok (.ldc 70, 2) := by decide +kernel
theorem dX4_formOf_75 : decode cX4_formOf 75 = .ok (.areturn, 1) := by decide +kernel
theorem dX4_formOf_76 : decode cX4_formOf 76 = .ok (.ldc 72, 2) := by decide +kernel
theorem dX4_formOf_78 : decode cX4_formOf 78 = .ok (.areturn, 1) := by decide +kernel
theorem dX4_formOf_79 : decode cX4_formOf 79 = .ok (.ldc 74, 2) := by decide +kernel
theorem dX4_formOf_81 : decode cX4_formOf 81 = .ok (.areturn, 1) := by decide +kernel
theorem dX4_tellStatement_0 : decode cX4_tellStatement 0 = .ok (.aload_n 0, 1) := by decide +kernel
theorem dX4_tellStatement_1 : decode cX4_tellStatement 1 = .ok (.getfield 14, 3) := by decide +kernel
theorem dX4_tellStatement_4 : decode cX4_tellStatement 4 = .ok (.iload_n 1, 1) := by decide +kernel
theorem dX4_tellStatement_5 : decode cX4_tellStatement 5 = .ok (.invokevirtual 32, 3) := by decide +kernel
theorem dX4_tellStatement_8 : decode cX4_tellStatement 8 = .ok (.tableswitch 157 107 118 #[138, 157, 157, 145, 157, 107, 157, 64, 157, 157, 157, 85], 64) := by decide +kernel
theorem dX4_tellStatement_72 : decode cX4_tellStatement 72 = .ok (.aload_n 0, 1) := by decide +kernel
theorem dX4_tellStatement_73 : decode cX4_tellStatement 73 = .ok (.iload_n 1, 1) := by decide +kernel
theorem dX4_tellStatement_74 : decode cX4_tellStatement 74 = .ok (.aload_n 0, 1) := by decide +kernel
theorem dX4_tellStatement_75 : decode cX4_tellStatement 75 = .ok (.iload_n 1, 1) := by decide +kernel
theorem dX4_tellStatement_76 : decode cX4_tellStatement 76 = .ok (.iconst 2, 1) := by decide +kernel
theorem dX4_tellStatement_77 : decode cX4_tellStatement 77 = .ok (.iadd, 1) := by decide +kernel
theorem dX4_tellStatement_78 : decode cX4_tellStatement 78 = .ok (.invokevirtual 76, 3) := by decide +kernel
theorem dX4_tellStatement_81 : decode cX4_tellStatement 81 = .ok (.aload_n 0, 1) := by decide +kernel
theorem dX4_tellStatement_82 : decode cX4_tellStatement 82 = .ok (.iload_n 1, 1) := by decide +kernel
theorem dX4_tellStatement_83 : decode cX4_tellStatement 83 = .ok (.iconst 4, 1) := by decide +kernel
theorem dX4_tellStatement_84 : decode cX4_tellStatement 84 = .ok (.iadd, 1) := by decide +kernel
theorem dX4_tellStatement_85 : decode cX4_tellStatement 85 = .ok (.invokevirtual 79, 3) := by decide +kernel
theorem dX4_tellStatement_88 : decode cX4_tellStatement 88 = .ok (.aload_n 2, 1) := by decide +kernel
theorem dX4_tellStatement_89 : decode cX4_tellStatement 89 = .ok (.invokevirtual 82, 3) := by decide +kernel
theorem dX4_tellStatement_92 : decode cX4_tellStatement 92 = .ok (.ireturn, 1) := by decide +kernel
theorem dX4_tellStatement_93 : decode cX4_tellStatement 93 = .ok (.aload_n 0, 1) := by decide +kernel
theorem dX4_tellStatement_94 : decode cX4_tellStatement 94 = .ok (.iload_n 1, 1) := by decide +kernel
theorem dX4_tellStatement_95 : decode cX4_tellStatement 95 = .ok (.aload_n 0, 1) := by decide +kernel
theorem dX4_tellStatement_96 : decode cX4_tellStatement 96 = .ok (.iload_n 1, 1) := by decide +kernel
theorem dX4_tellStatement_97 : decode cX4_tellStatement 97 = .ok (.iconst 4, 1) := by decide +kernel
theorem dX4_tellStatement_98 : decode cX4_tellStatement 98 = .ok (.iadd, 1) := by decide +kernel
theorem dX4_tellStatement_99 : decode cX4_tellStatement 99 = .ok (.invokevirtual 76, 3) := by decide +kernel
theorem dX4_tellStatement_102 : decode cX4_tellStatement 102 = .ok (.aload_n 0, 1) := by decide +kernel
theorem dX4_tellStatement_103 : decode cX4_tellStatement 103 = .ok (.iload_n 1, 1) := by decide +kernel
theorem dX4_tellStatement_104 : decode cX4_tellStatement 104 = .ok (.bipush 6, 2) := by decide +kernel
theorem dX4_tellStatement_106 : decode cX4_tellStatement 106 = .ok (.iadd, 1) := by decide +kernel
theorem dX4_tellStatement_107 : decode cX4_tellStatement 107 = .ok (.invokevirtual 79, 3) := by decide +kernel
theorem dX4_tellStatement_110 : decode cX4_tellStatement 110 = .ok (.aload_n 2, 1) := by decide +kernel
theorem dX4_tellStatement_111 : decode cX4_tellStatement 111 = .ok (.invokevirtual 82, 3) := by decide +kernel
theorem dX4_tellStatement_114 : decode cX4_tellStatement 114 = .ok (.ireturn, 1) := by decide +kernel
theorem dX4_tellStatement_115 : decode cX4_tellStatement 115 = .ok (.aload_n 0, 1) := by decide +kernel
theorem dX4_tellStatement_116 : decode cX4_tellStatement 116 = .ok (.iload_n 1, 1) := by decide +kernel
theorem dX4_tellStatement_117 : decode cX4_tellStatement 117 = .ok (.iconst 1, 1) := by decide +kernel
theorem dX4_tellStatement_118 : decode cX4_tellStatement 118 = .ok (.iadd, 1) := by decide +kernel
theorem dX4_tellStatement_119 : decode cX4_tellStatement 119 = .ok (.invokevirtual 79, 3) := by decide +kernel
theorem dX4_tellStatement_122 : decode cX4_tellStatement 122 = .ok (.iconst 1, 1) := by decide +kernel
theorem dX4_tellStatement_123 : decode cX4_tellStatement 123 = .ok (.if_icmp .lt 21, 3) := by decide +kernel
theorem dX4_tellStatement_126 : decode cX4_tellStatement 126 = .ok (.aload_n 2, 1) := by decide +kernel
theorem dX4_tellStatement_127 : decode cX4_tellStatement 127 = .ok (.aload_n 0, 1) := by decide +kernel
theorem dX4_tellStatement_128 : decode cX4_tellStatement 128 = .ok (.iload_n 1, 1) := by decide +kernel
theorem dX4_tellStatement_129 : decode cX4_tellStatement 129 = .ok (.iconst 1, 1) := by decide +kernel
theorem dX4_tellStatement_130 : decode cX4_tellStatement 130 = .ok (.iadd, 1) := by decide +kernel
theorem dX4_tellStatement_131 : decode cX4_tellStatement 131 = .ok (.invokevirtual 79, 3) := by decide +kernel
theorem dX4_tellStatement_134 : decode cX4_tellStatement 134 = .ok (.invokevirtual 86, 3) := by decide +kernel
theorem dX4_tellStatement_137 : decode cX4_tellStatement 137 = .ok (.ifCond .eq 7, 3) := by decide +kernel
theorem dX4_tellStatement_140 : decode cX4_tellStatement 140 = .ok (.iconst 1, 1) := by decide +kernel
theorem dX4_tellStatement_141 : decode cX4_tellStatement 141 = .ok (.goto 4, 3) := by decide +kernel
theorem dX4_tellStatement_144 : decode cX4_tellStatement 144 = .ok (.iconst 0, 1) := by decide +kernel
theorem dX4_tellStatement_145 : decode cX4_tellStatement 145 = .ok (.ireturn, 1) := by decide +kernel
theorem dX4_tellStatement_146 : decode cX4_tellStatement 146 = .ok (.aload_n 0, 1) := by decide +kernel
theorem dX4_tellStatement_147 : decode cX4_tellStatement 147 = .ok (.iload_n 1, 1) := by decide +kernel
theorem dX4_tellStatement_148 : decode cX4_tellStatement 148 = .ok (.aload_n 2, 1) := by decide +kernel
theorem dX4_tellStatement_149 : decode cX4_tellStatement 149 = .ok (.invokevirtual 92, 3) := by decide +kernel
theorem dX4_tellStatement_152 : decode cX4_tellStatement 152 = .ok (.ireturn, 1) := by decide +kernel
theorem dX4_tellStatement_153 : decode cX4_tellStatement 153 = .ok (.aload_n 0, 1) := by decide +kernel
theorem dX4_tellStatement_154 : decode cX4_tellStatement 154 = .ok (.iload_n 1, 1) := by decide +kernel
theorem dX4_tellStatement_155 : decode cX4_tellStatement 155 = .ok (.iconst 1, 1) := by decide +kernel
theorem dX4_tellStatement_156 : decode cX4_tellStatement 156 = .ok (.iadd, 1) := by decide +kernel
theorem dX4_tellStatement_157 : decode cX4_tellStatement 157 = .ok (.invokevirtual 76, 3) := by decide +kernel
theorem dX4_tellStatement_160 : decode cX4_tellStatement 160 = .ok (.aload_n 2, 1) := by decide +kernel
theorem dX4_tellStatement_161 : decode cX4_tellStatement 161 = .ok (.invokestatic 95, 3) := by decide +kernel
theorem dX4_tellStatement_164 : decode cX4_tellStatement 164 = .ok (.ireturn, 1) := by decide +kernel
theorem dX4_tellStatement_165 : decode cX4_tellStatement 165 = .ok (.iconst 0, 1) := by decide +kernel
theorem dX4_tellStatement_166 : decode cX4_tellStatement 166 = .ok (.ireturn, 1) := by decide +kernel
theorem dX4_tellThings_0 : decode cX4_tellThings 0 = .ok (.aload_n 0, 1) := by decide +kernel
theorem dX4_tellThings_1 : decode cX4_tellThings 1 = .ok (.getfield 14, 3) := by decide +kernel
theorem dX4_tellThings_4 : decode cX4_tellThings 4 = .ok (.iload_n 1, 1) := by decide +kernel
theorem dX4_tellThings_5 : decode cX4_tellThings 5 = .ok (.iconst 1, 1) := by decide +kernel
theorem dX4_tellThings_6 : decode cX4_tellThings 6 = .ok (.iadd, 1) := by decide +kernel
theorem dX4_tellThings_7 : decode cX4_tellThings 7 = .ok (.invokevirtual 32, 3) := by decide +kernel
theorem dX4_tellThings_10 : decode cX4_tellThings 10 = .ok (.invokestatic 61, 3) := by decide +kernel
theorem dX4_tellThings_13 : decode cX4_tellThings 13 = .ok (.istore 5, 2) := by decide +kernel
theorem dX4_tellThings_15 : decode cX4_tellThings 15 = .ok (.aload_n 0, 1) := by decide +kernel
theorem dX4_tellThings_16 : decode cX4_tellThings 16 = .ok (.iload_n 1, 1) := by decide +kernel
theorem dX4_tellThings_17 : decode cX4_tellThings 17 = .ok (.iconst 2, 1) := by decide +kernel
theorem dX4_tellThings_18 : decode cX4_tellThings 18 = .ok (.iadd, 1) := by decide +kernel
theorem dX4_tellThings_19 : decode cX4_tellThings 19 = .ok (.invokevirtual 76, 3) := by decide +kernel
theorem dX4_tellThings_22 : decode cX4_tellThings 22 = .ok (.istore 6, 2) := by decide +kernel
theorem dX4_tellThings_24 : decode cX4_tellThings 24 = .ok (.iload 6, 2) := by decide +kernel
theorem dX4_tellThings_26 : decode cX4_tellThings 26 = .ok (.iload_n 2, 1) := by decide +kernel
theorem dX4_tellThings_27 : decode cX4_tellThings 27 = .ok (.if_icmp .gt 9, 3) := by decide +kernel
theorem dX4_tellThings_30 : decode cX4_tellThings 30 = .ok (.iload_n 2, 1) := by decide +kernel
theorem dX4_tellThings_31 : decode cX4_tellThings 31 = .ok (.bipush 25, 2) := by decide +kernel
theorem dX4_tellThings_33 : decode cX4_tellThings 33 = .ok (.if_icmp .lt 5, 3) := by decide +kernel
theorem dX4_tellThings_36 : decode cX4_tellThings 36 = .ok (.iconst 0, 1) := by decide +kernel
theorem dX4_tellThings_37 : decode cX4_tellThings 37 = .ok (.ireturn, 1) := by decide +kernel
theorem dX4_tellThings_38 : decode cX4_tellThings 38 = .ok (.iload 6, 2) := by decide +kernel
theorem dX4_tellThings_40 : decode cX4_tellThings 40 = .ok (.istore 7, 2) := by decide +kernel
theorem dX4_tellThings_42 : decode cX4_tellThings 42 = .ok (.iload 7, 2) := by decide +kernel
theorem dX4_tellThings_44 : decode cX4_tellThings 44 = .ok (.iload_n 2, 1) := by decide +kernel
theorem dX4_tellThings_45 : decode cX4_tellThings 45 = .ok (.if_icmp .gt 19, 3) := by decide +kernel
theorem dX4_tellThings_48 : decode cX4_tellThings 48 = .ok (.aload 4, 2) := by decide +kernel
theorem dX4_tellThings_50 : decode cX4_tellThings 50 = .ok (.iload 7, 2) := by decide +kernel
theorem dX4_tellThings_52 : decode cX4_tellThings 52 = .ok (.iload 5, 2) := by decide +kernel
theorem dX4_tellThings_54 : decode cX4_tellThings 54 = .ok (.iload_n 3, 1) := by decide +kernel
theorem dX4_tellThings_55 : decode cX4_tellThings 55 = .ok (.invokevirtual 98, 3) := by decide +kernel
theorem dX4_tellThings_58 : decode cX4_tellThings 58 = .ok (.iinc 7 1, 3) := by decide +kernel
theorem dX4_tellThings_61 : decode cX4_tellThings 61 = .ok (.goto (-19), 3) := by decide +kernel
theorem dX4_tellThings_64 : decode cX4_tellThings 64 = .ok (.iconst 1, 1) := by decide +kernel
theorem dX4_tellThings_65 : decode cX4_tellThings 65 = .ok (.ireturn, 1) := by decide +kernel
theorem dX4_tellKnown_0 : decode cX4_tellKnown 0 = .ok (.aload_n 0, 1) := by decide +kernel
theorem dX4_tellKnown_1 : decode cX4_tellKnown 1 = .ok (.iload_n 1, 1) := by decide +kernel
theorem dX4_tellKnown_2 : decode cX4_tellKnown 2 = .ok (.iconst 1, 1) := by decide +kernel
theorem dX4_tellKnown_3 : decode cX4_tellKnown 3 = .ok (.iadd, 1) := by decide +kernel
theorem dX4_tellKnown_4 : decode cX4_tellKnown 4 = .ok (.invokevirtual 79, 3) := by decide +kernel
theorem dX4_tellKnown_7 : decode cX4_tellKnown 7 = .ok (.istore_n 3, 1) := by decide +kernel
theorem dX4_tellKnown_8 : decode cX4_tellKnown 8 = .ok (.aload_n 0, 1) := by decide +kernel
theorem dX4_tellKnown_9 : decode cX4_tellKnown 9 = .ok (.iload_n 1, 1) := by decide +kernel
theorem dX4_tellKnown_10 : decode cX4_tellKnown 10 = .ok (.iconst 2, 1) := by decide +kernel
theorem dX4_tellKnown_11 : decode cX4_tellKnown 11 = .ok (.iadd, 1) := by decide +kernel
theorem dX4_tellKnown_12 : decode cX4_tellKnown 12 = .ok (.invokevirtual 76, 3) := by decide +kernel
theorem dX4_tellKnown_15 : decode cX4_tellKnown 15 = .ok (.istore 4, 2) := by decide +kernel
theorem dX4_tellKnown_17 : decode cX4_tellKnown 17 = .ok (.aload_n 0, 1) := by decide +kernel
theorem dX4_tellKnown_18 : decode cX4_tellKnown 18 = .ok (.iload_n 1, 1) := by decide +kernel
theorem dX4_tellKnown_19 : decode cX4_tellKnown 19 = .ok (.iconst 4, 1) := by decide +kernel
theorem dX4_tellKnown_20 : decode cX4_tellKnown 20 = .ok (.iadd, 1) := by decide +kernel
theorem dX4_tellKnown_21 : decode cX4_tellKnown 21 = .ok (.invokevirtual 76, 3) := by decide +kernel
theorem dX4_tellKnown_24 : decode cX4_tellKnown 24 = .ok (.istore 5, 2) := by decide +kernel
theorem dX4_tellKnown_26 : decode cX4_tellKnown 26 = .ok (.aload_n 2, 1) := by decide +kernel
theorem dX4_tellKnown_27 : decode cX4_tellKnown 27 = .ok (.iload_n 3, 1) := by decide +kernel
theorem dX4_tellKnown_28 : decode cX4_tellKnown 28 = .ok (.invokevirtual 102, 3) := by decide +kernel
theorem dX4_tellKnown_31 : decode cX4_tellKnown 31 = .ok (.ifCond .eq 17, 3) := by decide +kernel
theorem dX4_tellKnown_34 : decode cX4_tellKnown 34 = .ok (.iload 4, 2) := by decide +kernel
theorem dX4_tellKnown_36 : decode cX4_tellKnown 36 = .ok (.iload 5, 2) := by decide +kernel
theorem dX4_tellKnown_38 : decode cX4_tellKnown 38 = .ok (.if_icmp .gt 10, 3) := by decide +kernel
theorem dX4_tellKnown_41 : decode cX4_tellKnown 41 = .ok (.iload 5, 2) := by decide +kernel
theorem dX4_tellKnown_43 : decode cX4_tellKnown 43 = .ok (.bipush 25, 2) := by decide +kernel
theorem dX4_tellKnown_45 : decode cX4_tellKnown 45 = .ok (.if_icmp .lt 5, 3) := by decide +kernel
theorem dX4_tellKnown_48 : decode cX4_tellKnown 48 = .ok (.iconst 0, 1) := by decide +kernel
theorem dX4_tellKnown_49 : decode cX4_tellKnown 49 = .ok (.ireturn, 1) := by decide +kernel
theorem dX4_tellKnown_50 : decode cX4_tellKnown 50 = .ok (.iload 4, 2) := by decide +kernel
theorem dX4_tellKnown_52 : decode cX4_tellKnown 52 = .ok (.istore 6, 2) := by decide +kernel
theorem dX4_tellKnown_54 : decode cX4_tellKnown 54 = .ok (.iload 6, 2) := by decide +kernel
theorem dX4_tellKnown_56 : decode cX4_tellKnown 56 = .ok (.iload 5, 2) := by decide +kernel
theorem dX4_tellKnown_58 : decode cX4_tellKnown 58 = .ok (.if_icmp .gt 24, 3) := by decide +kernel
theorem dX4_tellKnown_61 : decode cX4_tellKnown 61 = .ok (.aload_n 2, 1) := by decide +kernel
theorem dX4_tellKnown_62 : decode cX4_tellKnown 62 = .ok (.iload_n 3, 1) := by decide +kernel
theorem dX4_tellKnown_63 : decode cX4_tellKnown 63 = .ok (.iload 6, 2) := by decide +kernel
theorem dX4_tellKnown_65 : decode cX4_tellKnown 65 = .ok (.aload_n 0, 1) := by decide +kernel
theorem dX4_tellKnown_66 : decode cX4_tellKnown 66 = .ok (.iload_n 1, 1) := by decide +kernel
theorem dX4_tellKnown_67 : decode cX4_tellKnown 67 = .ok (.bipush 6, 2) := by decide +kernel
theorem dX4_tellKnown_69 : decode cX4_tellKnown 69 = .ok (.iadd, 1) := by decide +kernel
theorem dX4_tellKnown_70 : decode cX4_tellKnown 70 = .ok (.invokevirtual 79, 3) := by decide +kernel
theorem dX4_tellKnown_73 : decode cX4_tellKnown 73 = .ok (.invokevirtual 105, 3) := by decide +kernel
theorem dX4_tellKnown_76 : decode cX4_tellKnown 76 = .ok (.iinc 6 1, 3) := by decide +kernel
theorem dX4_tellKnown_79 : decode cX4_tellKnown 79 = .ok (.goto (-25), 3) := by decide +kernel
theorem dX4_tellKnown_82 : decode cX4_tellKnown 82 = .ok (.iconst 1, 1) := by decide +kernel
theorem dX4_tellKnown_83 : decode cX4_tellKnown 83 = .ok (.ireturn, 1) := by decide +kernel
theorem dX4_tellNights_0 : decode cX4_tellNights 0 = .ok (.iload_n 0, 1) := by decide +kernel
theorem dX4_tellNights_1 : decode cX4_tellNights 1 = .ok (.iconst 1, 1) := by decide +kernel
theorem dX4_tellNights_2 : decode cX4_tellNights 2 = .ok (.if_icmp .lt 21, 3) := by decide +kernel
theorem dX4_tellNights_5 : decode cX4_tellNights 5 = .ok (.iload_n 0, 1) := by decide +kernel
theorem dX4_tellNights_6 : decode cX4_tellNights 6 = .ok (.bipush 60, 2) := by decide +kernel
theorem dX4_tellNights_8 : decode cX4_tellNights 8 = .ok (.if_icmp .gt 15, 3) := by decide +kernel
theorem dX4_tellNights_11 : decode cX4_tellNights 11 = .ok (.aload_n 1, 1) := by decide +kernel
theorem dX4_tellNights_12 : decode cX4_tellNights 12 = .ok (.getfield 108, 3) := by decide +kernel
theorem dX4_tellNights_15 : decode cX4_tellNights 15 = .ok (.iload_n 0, 1) := by decide +kernel
theorem dX4_tellNights_16 : decode cX4_tellNights 16 = .ok (.iadd, 1) := by decide +kernel
theorem dX4_tellNights_17 : decode cX4_tellNights 17 = .ok (.sipush 999, 3) := by decide +kernel
theorem dX4_tellNights_20 : decode cX4_tellNights 20 = .ok (.if_icmp .le 5, 3) := by decide +kernel
theorem dX4_tellNights_23 : decode cX4_tellNights 23 = .ok (.iconst 0, 1) := by decide +kernel
theorem dX4_tellNights_24 : decode cX4_tellNights 24 = .ok (.ireturn, 1) := by decide +kernel
theorem dX4_tellNights_25 : decode cX4_tellNights 25 = .ok (.aload_n 1, 1) := by decide +kernel
theorem dX4_tellNights_26 : decode cX4_tellNights 26 = .ok (.iload_n 0, 1) := by decide +kernel
theorem dX4_tellNights_27 : decode cX4_tellNights 27 = .ok (.invokevirtual 111, 3) := by decide +kernel
theorem dX4_tellNights_30 : decode cX4_tellNights 30 = .ok (.iconst 1, 1) := by decide +kernel
theorem dX4_tellNights_31 : decode cX4_tellNights 31 = .ok (.ireturn, 1) := by decide +kernel
theorem dX4_kindOfLetter_0 : decode cX4_kindOfLetter 0 = .ok (.iconst 0, 1) := by decide +kernel
theorem dX4_kindOfLetter_1 : decode cX4_kindOfLetter 1 = .ok (.istore_n 1, 1) := by decide +kernel
theorem dX4_kindOfLetter_2 : decode cX4_kindOfLetter 2 = .ok (.iload_n 1, 1) := by decide +kernel
theorem dX4_kindOfLetter_3 : decode cX4_kindOfLetter 3 = .ok (.ldc 114, 2) := by decide +kernel
theorem dX4_kindOfLetter_5 : decode cX4_kindOfLetter 5 = .ok (.invokevirtual 40, 3) := by decide +kernel
theorem dX4_kindOfLetter_8 : decode cX4_kindOfLetter 8 = .ok (.if_icmp .ge 21, 3) := by decide +kernel
theorem dX4_kindOfLetter_11 : decode cX4_kindOfLetter 11 = .ok (.ldc 114, 2) := by decide +kernel
theorem dX4_kindOfLetter_13 : decode cX4_kindOfLetter 13 = .ok (.iload_n 1, 1) := by decide +kernel
theorem dX4_kindOfLetter_14 : decode cX4_kindOfLetter 14 = .ok (.invokevirtual 53, 3) := by decide +kernel
theorem dX4_kindOfLetter_17 : decode cX4_kindOfLetter 17 = .ok (.iload_n 0, 1) := by decide +kernel
theorem dX4_kindOfLetter_18 : decode cX4_kindOfLetter 18 = .ok (.if_icmp .ne 5, 3) := by decide +kernel
theorem dX4_kindOfLetter_21 : decode cX4_kindOfLetter 21 = .ok (.iload_n 1, 1) := by decide +kernel
theorem dX4_kindOfLetter_22 : decode cX4_kindOfLetter 22 = .ok (.ireturn, 1) := by decide +kernel
theorem dX4_kindOfLetter_23 : decode cX4_kindOfLetter 23 = .ok (.iinc 1 1, 3) := by decide +kernel
theorem dX4_kindOfLetter_26 : decode cX4_kindOfLetter 26 = .ok (.goto (-24), 3) := by decide +kernel
theorem dX4_kindOfLetter_29 : decode cX4_kindOfLetter 29 = .ok (.bipush (-9), 2) := by decide +kernel
theorem dX4_kindOfLetter_31 : decode cX4_kindOfLetter 31 = .ok (.ireturn, 1) := by decide +kernel
theorem dX4_digitAt_0 : decode cX4_digitAt 0 = .ok (.aload_n 0, 1) := by decide +kernel
theorem dX4_digitAt_1 : decode cX4_digitAt 1 = .ok (.getfield 14, 3) := by decide +kernel
theorem dX4_digitAt_4 : decode cX4_digitAt 4 = .ok (.iload_n 1, 1) := by decide +kernel
theorem dX4_digitAt_5 : decode cX4_digitAt 5 = .ok (.invokevirtual 32, 3) := by decide +kernel
theorem dX4_digitAt_8 : decode cX4_digitAt 8 = .ok (.bipush 48, 2) := by decide +kernel
theorem dX4_digitAt_10 : decode cX4_digitAt 10 = .ok (.isub, 1) := by decide +kernel
theorem dX4_digitAt_11 : decode cX4_digitAt 11 = .ok (.ireturn, 1) := by decide +kernel
theorem dX4_pairAt_0 : decode cX4_pairAt 0 = .ok (.bipush 10, 2) := by decide +kernel
theorem dX4_pairAt_2 : decode cX4_pairAt 2 = .ok (.aload_n 0, 1) := by decide +kernel
theorem dX4_pairAt_3 : decode cX4_pairAt 3 = .ok (.iload_n 1, 1) := by decide +kernel
theorem dX4_pairAt_4 : decode cX4_pairAt 4 = .ok (.invokevirtual 79, 3) := by decide +kernel
theorem dX4_pairAt_7 : decode cX4_pairAt 7 = .ok (.imul, 1) := by decide +kernel
theorem dX4_pairAt_8 : decode cX4_pairAt 8 = .ok (.aload_n 0, 1) := by decide +kernel
theorem dX4_pairAt_9 : decode cX4_pairAt 9 = .ok (.iload_n 1, 1) := by decide +kernel
theorem dX4_pairAt_10 : decode cX4_pairAt 10 = .ok (.iconst 1, 1) := by decide +kernel
theorem dX4_pairAt_11 : decode cX4_pairAt 11 = .ok (.iadd, 1) := by decide +kernel
theorem dX4_pairAt_12 : decode cX4_pairAt 12 = .ok (.invokevirtual 79, 3) := by decide +kernel
theorem dX4_pairAt_15 : decode cX4_pairAt 15 = .ok (.iadd, 1) := by decide +kernel
theorem dX4_pairAt_16 : decode cX4_pairAt 16 = .ok (.ireturn, 1) := by decide +kernel
end
section
theorem dX5_init_0 : decode cX5_init 0 = .ok (.aload_n 0, 1) := by decide +kernel
theorem dX5_init_1 : decode cX5_init 1 = .ok (.invokespecial 1, 3) := by decide +kernel
theorem dX5_init_4 : decode cX5_init 4 = .ok (.aload_n 0, 1) := by decide +kernel
theorem dX5_init_5 : decode cX5_init 5 = .ok (.new 7, 3) := by decide +kernel
theorem dX5_init_8 : decode cX5_init 8 = .ok (.dup, 1) := by decide +kernel
theorem dX5_init_9 : decode cX5_init 9 = .ok (.invokespecial 9, 3) := by decide +kernel
theorem dX5_init_12 : decode cX5_init 12 = .ok (.putfield 10, 3) := by decide +kernel
theorem dX5_init_15 : decode cX5_init 15 = .ok (.aload_n 0, 1) := by decide +kernel
theorem dX5_init_16 : decode cX5_init 16 = .ok (.new 7, 3) := by decide +kernel
theorem dX5_init_19 : decode cX5_init 19 = .ok (.dup, 1) := by decide +kernel
theorem dX5_init_20 : decode cX5_init 20 = .ok (.invokespecial 9, 3) := by decide +kernel
theorem dX5_init_23 : decode cX5_init 23 = .ok (.putfield 16, 3) := by decide +kernel
theorem dX5_init_26 : decode cX5_init 26 = .ok (.aload_n 0, 1) := by decide +kernel
theorem dX5_init_27 : decode cX5_init 27 = .ok (.new 7, 3) := by decide +kernel
theorem dX5_init_30 : decode cX5_init 30 = .ok (.dup, 1) := by decide +kernel
theorem dX5_init_31 : decode cX5_init 31 = .ok (.invokespecial 9, 3) := by decide +kernel
theorem dX5_init_34 : decode cX5_init 34 = .ok (.putfield 19, 3) := by decide +kernel
theorem dX5_init_37 : decode cX5_init 37 = .ok (.aload_n 0, 1) := by decide +kernel
theorem dX5_init_38 : decode cX5_init 38 = .ok (.new 22, 3) := by decide +kernel
theorem dX5_init_41 : decode cX5_init 41 = .ok (.dup, 1) := by decide +kernel
theorem dX5_init_42 : decode cX5_init 42 = .ok (.invokespecial 24, 3) := by decide +kernel
theorem dX5_init_45 : decode cX5_init 45 = .ok (.putfield 25, 3) := by decide +kernel
theorem dX5_init_48 : decode cX5_init 48 = .ok (.aload_n 0, 1) := by decide +kernel
theorem dX5_init_49 : decode cX5_init 49 = .ok (.new 29, 3) := by decide +kernel
theorem dX5_init_52 : decode cX5_init 52 = .ok (.dup, 1) := by decide +kernel
theorem dX5_init_53 : decode cX5_init 53 = .ok (.invokespecial 31, 3) := by decide +kernel
theorem dX5_init_56 : decode cX5_init 56 = .ok (.putfield 32, 3) := by decide +kernel
theorem dX5_init_59 : decode cX5_init 59 = .ok (.aload_n 0, 1) := by decide +kernel
theorem dX5_init_60 : decode cX5_init 60 = .ok (.new 36, 3) := by decide +kernel
theorem dX5_init_63 : decode cX5_init 63 = .ok (.dup, 1) := by decide +kernel
theorem dX5_init_64 : decode cX5_init 64 = .ok (.bipush 25, 2) := by decide +kernel
theorem dX5_init_66 : decode cX5_init 66 = .ok (.invokespecial 38, 3) := by decide +kernel
theorem dX5_init_69 : decode cX5_init 69 = .ok (.putfield 41, 3) := by decide +kernel
theorem dX5_init_72 : decode cX5_init 72 = .ok (.aload_n 0, 1) := by decide +kernel
theorem dX5_init_73 : decode cX5_init 73 = .ok (.bipush 7, 2) := by decide +kernel
theorem dX5_init_75 : decode cX5_init 75 = .ok (.newarray .int, 2) := by decide +kernel
theorem dX5_init_77 : decode cX5_init 77 = .ok (.putfield 45, 3) := by decide +kernel
theorem dX5_init_80 : decode cX5_init 80 = .ok (.aload_n 0, 1) := by decide +kernel
theorem dX5_init_81 : decode cX5_init 81 = .ok (.iconst 0, 1) := by decide +kernel
theorem dX5_init_82 : decode cX5_init 82 = .ok (.putfield 49, 3) := by decide +kernel
theorem dX5_init_85 : decode cX5_init 85 = .ok (.return_, 1) := by decide +kernel
theorem dX5_letter_0 : decode cX5_letter 0 = .ok (.iload_n 1, 1) := by decide +kernel
theorem dX5_letter_1 : decode cX5_letter 1 = .ok (.ifCond .ge 10, 3) := by decide +kernel
theorem dX5_letter_4 : decode cX5_letter 4 = .ok (.aload_n 0, 1) := by decide +kernel
theorem dX5_letter_5 : decode cX5_letter 5 = .ok (.bipush (-4), 2) := by decide +kernel
theorem dX5_letter_7 : decode cX5_letter 7 = .ok (.invokevirtual 53, 3) := by decide +kernel
theorem dX5_letter_10 : decode cX5_letter 10 = .ok (.ireturn, 1) := by decide +kernel
theorem dX5_letter_11 : decode cX5_letter 11 = .ok (.iload_n 1, 1) := by decide +kernel
theorem dX5_letter_12 : decode cX5_letter 12 = .ok (.sipush 255, 3) := by decide +kernel
theorem dX5_letter_15 : decode cX5_letter 15 = .ok (.if_icmp .gt 16, 3) := by decide +kernel
theorem dX5_letter_18 : decode cX5_letter 18 = .ok (.aload_n 0, 1) := by decide +kernel
theorem dX5_letter_19 : decode cX5_letter 19 = .ok (.getfield 32, 3) := by decide +kernel
theorem dX5_letter_22 : decode cX5_letter 22 = .ok (.getfield 57, 3) := by decide +kernel
theorem dX5_letter_25 : decode cX5_letter 25 = .ok (.invokevirtual 60, 3) := by decide +kernel
theorem dX5_letter_28 : decode cX5_letter 28 = .ok (.ifCond .eq 10, 3) := by decide +kernel
theorem dX5_letter_31 : decode cX5_letter 31 = .ok (.aload_n 0, 1) := by decide +kernel
theorem dX5_letter_32 : decode cX5_letter 32 = .ok (.bipush (-6), 2) := by decide +kernel
theorem dX5_letter_34 : decode cX5_letter 34 = .ok (.invokevirtual 53, 3) := by decide +kernel
theorem dX5_letter_37 : decode cX5_letter 37 = .ok (.ireturn, 1) := by decide +kernel
theorem dX5_letter_38 : decode cX5_letter 38 = .ok (.aload_n 0, 1) := by decide +kernel
theorem dX5_letter_39 : decode cX5_letter 39 = .ok (.getfield 32, 3) := by decide +kernel
theorem dX5_letter_42 : decode cX5_letter 42 = .ok (.getfield 57, 3) := by decide +kernel
theorem dX5_letter_45 : decode cX5_letter 45 = .ok (.iload_n 1, 1) := by decide +kernel
theorem dX5_letter_46 : decode cX5_letter 46 = .ok (.invokevirtual 64, 3) := by decide +kernel
theorem dX5_letter_49 : decode cX5_letter 49 = .ok (.ireturn, 1) := by decide +kernel
theorem dX5_house_0 : decode cX5_house 0 = .ok (.aload_n 0, 1) := by decide +kernel
theorem dX5_house_1 : decode cX5_house 1 = .ok (.getfield 19, 3) := by decide +kernel
theorem dX5_house_4 : decode cX5_house 4 = .ok (.aload_n 0, 1) := by decide +kernel
theorem dX5_house_5 : decode cX5_house 5 = .ok (.getfield 10, 3) := by decide +kernel
theorem dX5_house_8 : decode cX5_house 8 = .ok (.invokevirtual 67, 3) := by decide +kernel
theorem dX5_house_11 : decode cX5_house 11 = .ok (.aload_n 0, 1) := by decide +kernel
theorem dX5_house_12 : decode cX5_house 12 = .ok (.getfield 32, 3) := by decide +kernel
theorem dX5_house_15 : decode cX5_house 15 = .ok (.aload_n 0, 1) := by decide +kernel
theorem dX5_house_16 : decode cX5_house 16 = .ok (.getfield 19, 3) := by decide +kernel
theorem dX5_house_19 : decode cX5_house 19 = .ok (.invokevirtual 71, 3) := by decide +kernel
theorem dX5_house_22 : decode cX5_house 22 = .ok (.istore_n 1, 1) := by decide +kernel
theorem dX5_house_23 : decode cX5_house 23 = .ok (.aload_n 0, 1) := by decide +kernel
theorem dX5_house_24 : decode cX5_house 24 = .ok (.getfield 32, 3) := by decide +kernel
theorem dX5_house_27 : decode cX5_house 27 = .ok (.getfield 57, 3) := by decide +kernel
theorem dX5_house_30 : decode cX5_house 30 = .ok (.invokevirtual 75, 3) := by decide +kernel
theorem dX5_house_33 : decode cX5_house 33 = .ok (.iload_n 1, 1) := by decide +kernel
theorem dX5_house_34 : decode cX5_house 34 = .ok (.ifCond .lt 14, 3) := by decide +kernel
theorem dX5_house_37 : decode cX5_house 37 = .ok (.aload_n 0, 1) := by decide +kernel
theorem dX5_house_38 : decode cX5_house 38 = .ok (.getfield 10, 3) := by decide +kernel
theorem dX5_house_41 : decode cX5_house 41 = .ok (.aload_n 0, 1) := by decide +kernel
theorem dX5_house_42 : decode cX5_house 42 = .ok (.getfield 19, 3) := by decide +kernel
theorem dX5_house_45 : decode cX5_house 45 = .ok (.invokevirtual 67, 3) := by decide +kernel
theorem dX5_house_48 : decode cX5_house 48 = .ok (.iload_n 1, 1) := by decide +kernel
theorem dX5_house_49 : decode cX5_house 49 = .ok (.ireturn, 1) := by decide +kernel
theorem dX5_room_0 : decode cX5_room 0 = .ok (.iload_n 1, 1) := by decide +kernel
theorem dX5_room_1 : decode cX5_room 1 = .ok (.invokestatic 78, 3) := by decide +kernel
theorem dX5_room_4 : decode cX5_room 4 = .ok (.ifCond .ne 9, 3) := by decide +kernel
theorem dX5_room_7 : decode cX5_room 7 = .ok (.aload_n 0, 1) := by decide +kernel
theorem dX5_room_8 : decode cX5_room 8 = .ok (.iconst (-1), 1) := by decide +kernel
theorem dX5_room_9 : decode cX5_room 9 = .ok (.invokevirtual 53, 3) := by decide +kernel
theorem dX5_room_12 : decode cX5_room 12 = .ok (.ireturn, 1) := by decide +kernel
theorem dX5_room_13 : decode cX5_room 13 = .ok (.iload_n 2, 1) := by decide +kernel
theorem dX5_room_14 : decode cX5_room 14 = .ok (.tableswitch 79 0 4 #[34, 43, 52, 61, 70], 34) := by decide +kernel
theorem dX5_room_48 : decode cX5_room 48 = .ok (.aload_n 0, 1) := by decide +kernel
theorem dX5_room_49 : decode cX5_room 49 = .ok (.getfield 10, 3) := by decide +kernel
theorem dX5_room_52 : decode cX5_room 52 = .ok (.iload_n 1, 1) := by decide +kernel
theorem dX5_room_53 : decode cX5_room 53 = .ok (.invokevirtual 82, 3) := by decide +kernel
theorem dX5_room_56 : decode cX5_room 56 = .ok (.ireturn, 1) := by decide +kernel
theorem dX5_room_57 : decode cX5_room 57 = .ok (.aload_n 0, 1) := by decide +kernel
theorem dX5_room_58 : decode cX5_room 58 = .ok (.getfield 10, 3) := by decide +kernel
theorem dX5_room_61 : decode cX5_room 61 = .ok (.iload_n 1, 1) := by decide +kernel
theorem dX5_room_62 : decode cX5_room 62 = .ok (.invokevirtual 85, 3) := by decide +kernel
theorem dX5_room_65 : decode cX5_room 65 = .ok (.ireturn, 1) := by decide +kernel
theorem dX5_room_66 : decode cX5_room 66 = .ok (.aload_n 0, 1) := by decide +kernel
theorem dX5_room_67 : decode cX5_room 67 = .ok (.getfield 10, 3) := by decide +kernel
theorem dX5_room_70 : decode cX5_room 70 = .ok (.iload_n 1, 1) := by decide +kernel
theorem dX5_room_71 : decode cX5_room 71 = .ok (.invokevirtual 88, 3) := by decide +kernel
theorem dX5_room_74 : decode cX5_room 74 = .ok (.ireturn, 1) := by decide +kernel
theorem dX5_room_75 : decode cX5_room 75 = .ok (.aload_n 0, 1) := by decide +kernel
theorem dX5_room_76 : decode cX5_room 76 = .ok (.getfield 10, 3) := by decide +kernel
theorem dX5_room_79 : decode cX5_room 79 = .ok (.iload_n 1, 1) := by decide +kernel
theorem dX5_room_80 : decode cX5_room 80 = .ok (.invokevirtual 91, 3) := by decide +kernel
theorem dX5_room_83 : decode cX5_room 83 = .ok (.ireturn, 1) := by decide +kernel
theorem dX5_room_84 : decode cX5_room 84 = .ok (.aload_n 0, 1) := by decide +kernel
theorem dX5_room_85 : decode cX5_room 85 = .ok (.getfield 10, 3) := by decide +kernel
theorem dX5_room_88 : decode cX5_room 88 = .ok (.iload_n 1, 1) := by decide +kernel
theorem dX5_room_89 : decode cX5_room 89 = .ok (.invokevirtual 94, 3) := by decide +kernel
theorem dX5_room_92 : decode cX5_room 92 = .ok (.ireturn, 1) := by decide +kernel
theorem dX5_room_93 : decode cX5_room 93 = .ok (.aload_n 0, 1) := by decide +kernel
theorem dX5_room_94 : decode cX5_room 94 = .ok (.bipush (-2), 2) := by decide +kernel
theorem dX5_room_96 : decode cX5_room 96 = .ok (.invokevirtual 53, 3) := by decide +kernel
theorem dX5_room_99 : decode cX5_room 99 = .ok (.ireturn, 1) := by decide +kernel
theorem dX5_person_0 : decode cX5_person 0 = .ok (.aload_n 0, 1) := by decide +kernel
theorem dX5_person_1 : decode cX5_person 1 = .ok (.iload_n 1, 1) := by decide +kernel
theorem dX5_person_2 : decode cX5_person 2 = .ok (.invokevirtual 97, 3) := by decide +kernel
theorem dX5_person_5 : decode cX5_person 5 = .ok (.ifCond .eq 15, 3) := by decide +kernel
theorem dX5_person_8 : decode cX5_person 8 = .ok (.iload_n 2, 1) := by decide +kernel
theorem dX5_person_9 : decode cX5_person 9 = .ok (.iconst (-1), 1) := by decide +kernel
theorem dX5_person_10 : decode cX5_person 10 = .ok (.if_icmp .eq 16, 3) := by decide +kernel
theorem dX5_person_13 : decode cX5_person 13 = .ok (.iload_n 2, 1) := by decide +kernel
theorem dX5_person_14 : decode cX5_person 14 = .ok (.invokestatic 78, 3) := by decide +kernel
theorem dX5_person_17 : decode cX5_person 17 = .ok (.ifCond .ne 9, 3) := by decide +kernel
theorem dX5_person_20 : decode cX5_person 20 = .ok (.aload_n 0, 1) := by decide +kernel
theorem dX5_person_21 : decode cX5_person 21 = .ok (.iconst (-1), 1) := by decide +kernel
theorem dX5_person_22 : decode cX5_person 22 = .ok (.invokevirtual 53, 3) := by decide +kernel
theorem dX5_person_25 : decode cX5_person 25 = .ok (.ireturn, 1) := by decide +kernel
theorem dX5_person_26 : decode cX5_person 26 = .ok (.iload_n 2, 1) := by decide +kernel
theorem dX5_person_27 : decode cX5_person 27 = .ok (.iconst (-1), 1) := by decide +kernel
theorem dX5_person_28 : decode cX5_person 28 = .ok (.if_icmp .ne 14, 3) := by decide +kernel
theorem dX5_person_31 : decode cX5_person 31 = .ok (.aload_n 0, 1) := by decide +kernel
theorem dX5_person_32 : decode cX5_person 32 = .ok (.getfield 10, 3) := by decide +kernel
theorem dX5_person_35 : decode cX5_person 35 = .ok (.iload_n 1, 1) := by decide +kernel
theorem dX5_person_36 : decode cX5_person 36 = .ok (.invokevirtual 100, 3) := by decide +kernel
theorem dX5_person_39 : decode cX5_person 39 = .ok (.goto 12, 3) := by decide +kernel
theorem dX5_person_42 : decode cX5_person 42 = .ok (.aload_n 0, 1) := by decide +kernel
theorem dX5_person_43 : decode cX5_person 43 = .ok (.getfield 10, 3) := by decide +kernel
theorem dX5_person_46 : decode cX5_person 46 = .ok (.iload_n 1, 1) := by decide +kernel
theorem dX5_person_47 : decode cX5_person 47 = .ok (.iload_n 2, 1) := by decide +kernel
theorem dX5_person_48 : decode cX5_person 48 = .ok (.invokevirtual 103, 3) := by decide +kernel
theorem dX5_person_51 : decode cX5_person 51 = .ok (.ireturn, 1) := by decide +kernel
theorem dX5_turn_0 : decode cX5_turn 0 = .ok (.iload_n 1, 1) := by decide +kernel
theorem dX5_turn_1 : decode cX5_turn 1 = .ok (.invokestatic 78, 3) := by decide +kernel
theorem dX5_turn_4 : decode cX5_turn 4 = .ok (.ifCond .ne 9, 3) := by decide +kernel
theorem dX5_turn_7 : decode cX5_turn 7 = .ok (.aload_n 0, 1) := by decide +kernel
theorem dX5_turn_8 : decode cX5_turn 8 = .ok (.iconst (-1), 1) := by decide +kernel
theorem dX5_turn_9 : decode cX5_turn 9 = .ok (.invokevirtual 53, 3) := by decide +kernel
theorem dX5_turn_12 : decode cX5_turn 12 = .ok (.ireturn, 1) := by decide +kernel
theorem dX5_turn_13 : decode cX5_turn 13 = .ok (.iload_n 2, 1) := by decide +kernel
theorem dX5_turn_14 : decode cX5_turn 14 = .ok (.ifCond .lt 9, 3) := by decide +kernel
theorem dX5_turn_17 : decode cX5_turn 17 = .ok (.iload_n 2, 1) := by decide +kernel
theorem dX5_turn_18 : decode cX5_turn 18 = .ok (.bipush 6, 2) := by decide +kernel
theorem dX5_turn_20 : decode cX5_turn 20 = .ok (.if_icmp .lt 10, 3) := by decide +kernel
theorem dX5_turn_23 : decode cX5_turn 23 = .ok (.aload_n 0, 1) := by decide +kernel
theorem dX5_turn_24 : decode cX5_turn 24 = .ok (.bipush (-2), 2) := by decide +kernel
theorem dX5_turn_26 : decode cX5_turn 26 = .ok (.invokevirtual 53, 3) := by decide +kernel
theorem dX5_turn_29 : decode cX5_turn 29 = .ok (.ireturn, 1) := by decide +kernel
theorem dX5_turn_30 : decode cX5_turn 30 = .ok (.iload_n 3, 1) := by decide +kernel
theorem dX5_turn_31 : decode cX5_turn 31 = .ok (.ifCond .ge 10, 3) := by decide +kernel
theorem dX5_turn_34 : decode cX5_turn 34 = .ok (.aload_n 0, 1) := by decide +kernel
theorem dX5_turn_35 : decode cX5_turn 35 = .ok (.bipush (-4), 2) := by decide +kernel
theorem dX5_turn_37 : decode cX5_turn 37 = .ok (.invokevirtual 53, 3) := by decide +kernel
theorem dX5_turn_40 : decode cX5_turn 40 = .ok (.ireturn, 1) := by decide +kernel
theorem dX5_turn_41 : decode cX5_turn 41 = .ok (.iload_n 3, 1) := by decide +kernel
theorem dX5_turn_42 : decode cX5_turn 42 = .ok (.bipush 9, 2) := by decide +kernel
theorem dX5_turn_44 : decode cX5_turn 44 = .ok (.if_icmp .le 10, 3) := by decide +kernel
theorem dX5_turn_47 : decode cX5_turn 47 = .ok (.aload_n 0, 1) := by decide +kernel
theorem dX5_turn_48 : decode cX5_turn 48 = .ok (.bipush (-6), 2) := by decide +kernel
theorem dX5_turn_50 : decode cX5_turn 50 = .ok (.invokevirtual 53, 3) := by decide +kernel
theorem dX5_turn_53 : decode cX5_turn 53 = .ok (.ireturn, 1) := by decide +kernel
theorem dX5_turn_54 : decode cX5_turn 54 = .ok (.bipush 10, 2) := by decide +kernel
theorem dX5_turn_56 : decode cX5_turn 56 = .ok (.aload_n 0, 1) := by decide +kernel
theorem dX5_turn_57 : decode cX5_turn 57 = .ok (.getfield 10, 3) := by decide +kernel
theorem dX5_turn_60 : decode cX5_turn 60 = .ok (.iload_n 1, 1) := by decide +kernel
theorem dX5_turn_61 : decode cX5_turn 61 = .ok (.invokevirtual 82, 3) := by decide +kernel
theorem dX5_turn_64 : decode cX5_turn 64 = .ok (.imul, 1) := by decide +kernel
theorem dX5_turn_65 : decode cX5_turn 65 = .ok (.aload_n 0, 1) := by decide +kernel
theorem dX5_turn_66 : decode cX5_turn 66 = .ok (.getfield 10, 3) := by decide +kernel
theorem dX5_turn_69 : decode cX5_turn 69 = .ok (.iload_n 1, 1) := by decide +kernel
theorem dX5_turn_70 : decode cX5_turn 70 = .ok (.invokevirtual 85, 3) := by decide +kernel
theorem dX5_turn_73 : decode cX5_turn 73 = .ok (.iadd, 1) := by decide +kernel
theorem dX5_turn_74 : decode cX5_turn 74 = .ok (.istore 4, 2) := by decide +kernel
theorem dX5_turn_76 : decode cX5_turn 76 = .ok (.aload_n 0, 1) := by decide +kernel
theorem dX5_turn_77 : decode cX5_turn 77 = .ok (.getfield 10, 3) := by decide +kernel
theorem dX5_turn_80 : decode cX5_turn 80 = .ok (.iload_n 1, 1) := by decide +kernel
theorem dX5_turn_81 : decode cX5_turn 81 = .ok (.iload_n 2, 1) := by decide +kernel
theorem dX5_turn_82 : decode cX5_turn 82 = .ok (.iload_n 3, 1) := by decide +kernel
theorem dX5_turn_83 : decode cX5_turn 83 = .ok (.invokevirtual 107, 3) := by decide +kernel
theorem dX5_turn_86 : decode cX5_turn 86 = .ok (.iload 4, 2) := by decide +kernel
theorem dX5_turn_88 : decode cX5_turn 88 = .ok (.ireturn, 1) := by decide +kernel
theorem dX5_sharp_0 : decode cX5_sharp 0 = .ok (.aload_n 0, 1) := by decide +kernel
theorem dX5_sharp_1 : decode cX5_sharp 1 = .ok (.iload_n 1, 1) := by decide +kernel
theorem dX5_sharp_2 : decode cX5_sharp 2 = .ok (.invokevirtual 97, 3) := by decide +kernel
theorem dX5_sharp_5 : decode cX5_sharp 5 = .ok (.ifCond .ne 9, 3) := by decide +kernel
theorem dX5_sharp_8 : decode cX5_sharp 8 = .ok (.aload_n 0, 1) := by decide +kernel
theorem dX5_sharp_9 : decode cX5_sharp 9 = .ok (.iconst (-1), 1) := by decide +kernel
theorem dX5_sharp_10 : decode cX5_sharp 10 = .ok (.invokevirtual 53, 3) := by decide +kernel
theorem dX5_sharp_13 : decode cX5_sharp 13 = .ok (.ireturn, 1) := by decide +kernel
theorem dX5_sharp_14 : decode cX5_sharp 14 = .ok (.iload_n 2, 1) := by decide +kernel
theorem dX5_sharp_15 : decode cX5_sharp 15 = .ok (.iconst 1, 1) := by decide +kernel
theorem dX5_sharp_16 : decode cX5_sharp 16 = .ok (.if_icmp .ge 10, 3) := by decide +kernel
theorem dX5_sharp_19 : decode cX5_sharp 19 = .ok (.aload_n 0, 1) := by decide +kernel
theorem dX5_sharp_20 : decode cX5_sharp 20 = .ok (.bipush (-4), 2) := by decide +kernel
theorem dX5_sharp_22 : decode cX5_sharp 22 = .ok (.invokevirtual 53, 3) := by decide +kernel
theorem dX5_sharp_25 : decode cX5_sharp 25 = .ok (.ireturn, 1) := by decide +kernel
theorem dX5_sharp_26 : decode cX5_sharp 26 = .ok (.iload_n 2, 1) := by decide +kernel
theorem dX5_sharp_27 : decode cX5_sharp 27 = .ok (.bipush 9, 2) := by decide +kernel
theorem dX5_sharp_29 : decode cX5_sharp 29 = .ok (.if_icmp .le 10, 3) := by decide +kernel
theorem dX5_sharp_32 : decode cX5_sharp 32 = .ok (.aload_n 0, 1) := by decide +kernel
theorem dX5_sharp_33 : decode cX5_sharp 33 = .ok (.bipush (-6), 2) := by decide +kernel
theorem dX5_sharp_35 : decode cX5_sharp 35 = .ok (.invokevirtual 53, 3) := by decide +kernel
theorem dX5_sharp_38 : decode cX5_sharp 38 = .ok (.ireturn, 1) := by decide +kernel
theorem dX5_sharp_39 : decode cX5_sharp 39 = .ok (.aload_n 0, 1) := by decide +kernel
theorem dX5_sharp_40 : decode cX5_sharp 40 = .ok (.getfield 10, 3) := by decide +kernel
theorem dX5_sharp_43 : decode cX5_sharp 43 = .ok (.iload_n 1, 1) := by decide +kernel
theorem dX5_sharp_44 : decode cX5_sharp 44 = .ok (.invokevirtual 100, 3) := by decide +kernel
theorem dX5_sharp_47 : decode cX5_sharp 47 = .ok (.istore_n 3, 1) := by decide +kernel
theorem dX5_sharp_48 : decode cX5_sharp 48 = .ok (.aload_n 0, 1) := by decide +kernel
theorem dX5_sharp_49 : decode cX5_sharp 49 = .ok (.getfield 10, 3) := by decide +kernel
theorem dX5_sharp_52 : decode cX5_sharp 52 = .ok (.iload_n 1, 1) := by decide +kernel
theorem dX5_sharp_53 : decode cX5_sharp 53 = .ok (.iload_n 2, 1) := by decide +kernel
theorem dX5_sharp_54 : decode cX5_sharp 54 = .ok (.invokevirtual 111, 3) := by decide +kernel
theorem dX5_sharp_57 : decode cX5_sharp 57 = .ok (.iload_n 3, 1) := by decide +kernel
theorem dX5_sharp_58 : decode cX5_sharp 58 = .ok (.ireturn, 1) := by decide +kernel
theorem dX5_visit_0 : decode cX5_visit 0 = .ok (.aload_n 0, 1) := by decide +kernel
theorem dX5_visit_1 : decode cX5_visit 1 = .ok (.iload_n 1, 1) := by decide +kernel
theorem dX5_visit_2 : decode cX5_visit 2 = .ok (.invokevirtual 97, 3) := by decide +kernel
theorem dX5_visit_5 : decode cX5_visit 5 = .ok (.ifCond .eq 10, 3) := by decide +kernel
theorem dX5_visit_8 : decode cX5_visit 8 = .ok (.iload_n 2, 1) := by decide +kernel
theorem dX5_visit_9 : decode cX5_visit 9 = .ok (.invokestatic 78, 3) := by decide +kernel
theorem dX5_visit_12 : decode cX5_visit 12 = .ok (.ifCond .ne 9, 3) := by decide +kernel
theorem dX5_visit_15 : decode cX5_visit 15 = .ok (.aload_n 0, 1) := by decide +kernel
theorem dX5_visit_16 : decode cX5_visit 16 = .ok (.iconst (-1), 1) := by decide +kernel
theorem dX5_visit_17 : decode cX5_visit 17 = .ok (.invokevirtual 53, 3) := by decide +kernel
theorem dX5_visit_20 : decode cX5_visit 20 = .ok (.ireturn, 1) := by decide +kernel
theorem dX5_visit_21 : decode cX5_visit 21 = .ok (.iload_n 3, 1) := by decide +kernel
theorem dX5_visit_22 : decode cX5_visit 22 = .ok (.ifCond .ge 10, 3) := by decide +kernel
theorem dX5_visit_25 : decode cX5_visit 25 = .ok (.aload_n 0, 1) := by decide +kernel
theorem dX5_visit_26 : decode cX5_visit 26 = .ok (.bipush (-4), 2) := by decide +kernel
theorem dX5_visit_28 : decode cX5_visit 28 = .ok (.invokevirtual 53, 3) := by decide +kernel
theorem dX5_visit_31 : decode cX5_visit 31 = .ok (.ireturn, 1) := by decide +kernel
theorem dX5_visit_32 : decode cX5_visit 32 = .ok (.iload_n 3, 1) := by decide +kernel
theorem dX5_visit_33 : decode cX5_visit 33 = .ok (.bipush 9, 2) := by decide +kernel
theorem dX5_visit_35 : decode cX5_visit 35 = .ok (.if_icmp .le 10, 3) := by decide +kernel
theorem dX5_visit_38 : decode cX5_visit 38 = .ok (.aload_n 0, 1) := by decide +kernel
theorem dX5_visit_39 : decode cX5_visit 39 = .ok (.bipush (-6), 2) := by decide +kernel
theorem dX5_visit_41 : decode cX5_visit 41 = .ok (.invokevirtual 53, 3) := by decide +kernel
theorem dX5_visit_44 : decode cX5_visit 44 = .ok (.ireturn, 1) := by decide +kernel
theorem dX5_visit_45 : decode cX5_visit 45 = .ok (.aload_n 0, 1) := by decide +kernel
theorem dX5_visit_46 : decode cX5_visit 46 = .ok (.getfield 10, 3) := by decide +kernel
theorem dX5_visit_49 : decode cX5_visit 49 = .ok (.iload_n 1, 1) := by decide +kernel
theorem dX5_visit_50 : decode cX5_visit 50 = .ok (.iload_n 2, 1) := by decide +kernel
theorem dX5_visit_51 : decode cX5_visit 51 = .ok (.invokevirtual 103, 3) := by decide +kernel
theorem dX5_visit_54 : decode cX5_visit 54 = .ok (.istore 4, 2) := by decide +kernel
theorem dX5_visit_56 : decode cX5_visit 56 = .ok (.aload_n 0, 1) := by decide +kernel
theorem dX5_visit_57 : decode cX5_visit 57 = .ok (.getfield 10, 3) := by decide +kernel
theorem dX5_visit_60 : decode cX5_visit 60 = .ok (.iload_n 1, 1) := by decide +kernel
theorem dX5_visit_61 : decode cX5_visit 61 = .ok (.iload_n 2, 1) := by decide +kernel
theorem dX5_visit_62 : decode cX5_visit 62 = .ok (.iload_n 3, 1) := by decide +kernel
theorem dX5_visit_63 : decode cX5_visit 63 = .ok (.invokevirtual 115, 3) := by decide +kernel
theorem dX5_visit_66 : decode cX5_visit 66 = .ok (.iload 4, 2) := by decide +kernel
theorem dX5_visit_68 : decode cX5_visit 68 = .ok (.ireturn, 1) := by decide +kernel
theorem dX5_nights_0 : decode cX5_nights 0 = .ok (.iload_n 1, 1) := by decide +kernel
theorem dX5_nights_1 : decode cX5_nights 1 = .ok (.iconst 1, 1) := by decide +kernel
theorem dX5_nights_2 : decode cX5_nights 2 = .ok (.if_icmp .ge 10, 3) := by decide +kernel
theorem dX5_nights_5 : decode cX5_nights 5 = .ok (.aload_n 0, 1) := by decide +kernel
theorem dX5_nights_6 : decode cX5_nights 6 = .ok (.bipush (-4), 2) := by decide +kernel
theorem dX5_nights_8 : decode cX5_nights 8 = .ok (.invokevirtual 53, 3) := by decide +kernel
theorem dX5_nights_11 : decode cX5_nights 11 = .ok (.ireturn, 1) := by decide +kernel
theorem dX5_nights_12 : decode cX5_nights 12 = .ok (.iload_n 1, 1) := by decide +kernel
theorem dX5_nights_13 : decode cX5_nights 13 = .ok (.bipush 60, 2) := by decide +kernel
theorem dX5_nights_15 : decode cX5_nights 15 = .ok (.if_icmp .gt 18, 3) := by decide +kernel
theorem dX5_nights_18 : decode cX5_nights 18 = .ok (.aload_n 0, 1) := by decide +kernel
theorem dX5_nights_19 : decode cX5_nights 19 = .ok (.getfield 10, 3) := by decide +kernel
theorem dX5_nights_22 : decode cX5_nights 22 = .ok (.getfield 118, 3) := by decide +kernel
theorem dX5_nights_25 : decode cX5_nights 25 = .ok (.iload_n 1, 1) := by decide +kernel
theorem dX5_nights_26 : decode cX5_nights 26 = .ok (.iadd, 1) := by decide +kernel
theorem dX5_nights_27 : decode cX5_nights 27 = .ok (.sipush 999, 3) := by decide +kernel
theorem dX5_nights_30 : decode cX5_nights 30 = .ok (.if_icmp .le 10, 3) := by decide +kernel
theorem dX5_nights_33 : decode cX5_nights 33 = .ok (.aload_n 0, 1) := by decide +kernel
theorem dX5_nights_34 : decode cX5_nights 34 = .ok (.bipush (-6), 2) := by decide +kernel
theorem dX5_nights_36 : decode cX5_nights 36 = .ok (.invokevirtual 53, 3) := by decide +kernel
theorem dX5_nights_39 : decode cX5_nights 39 = .ok (.ireturn, 1) := by decide +kernel
theorem dX5_nights_40 : decode cX5_nights 40 = .ok (.aload_n 0, 1) := by decide +kernel
theorem dX5_nights_41 : decode cX5_nights 41 = .ok (.getfield 10, 3) := by decide +kernel
theorem dX5_nights_44 : decode cX5_nights 44 = .ok (.iload_n 1, 1) := by decide +kernel
theorem dX5_nights_45 : decode cX5_nights 45 = .ok (.invokevirtual 122, 3) := by decide +kernel
theorem dX5_nights_48 : decode cX5_nights 48 = .ok (.aload_n 0, 1) := by decide +kernel
theorem dX5_nights_49 : decode cX5_nights 49 = .ok (.getfield 10, 3) := by decide +kernel
theorem dX5_nights_52 : decode cX5_nights 52 = .ok (.invokevirtual 125, 3) := by decide +kernel
theorem dX5_nights_55 : decode cX5_nights 55 = .ok (.ireturn, 1) := by decide +kernel
theorem dX5_fire_0 : decode cX5_fire 0 = .ok (.iload_n 1, 1) := by decide +kernel
theorem dX5_fire_1 : decode cX5_fire 1 = .ok (.invokestatic 78, 3) := by decide +kernel
theorem dX5_fire_4 : decode cX5_fire 4 = .ok (.ifCond .eq 11, 3) := by decide +kernel
theorem dX5_fire_7 : decode cX5_fire 7 = .ok (.aload_n 0, 1) := by decide +kernel
theorem dX5_fire_8 : decode cX5_fire 8 = .ok (.iload_n 2, 1) := by decide +kernel
theorem dX5_fire_9 : decode cX5_fire 9 = .ok (.invokevirtual 129, 3) := by decide +kernel
theorem dX5_fire_12 : decode cX5_fire 12 = .ok (.ifCond .ne 9, 3) := by decide +kernel
theorem dX5_fire_15 : decode cX5_fire 15 = .ok (.aload_n 0, 1) := by decide +kernel
theorem dX5_fire_16 : decode cX5_fire 16 = .ok (.iconst (-1), 1) := by decide +kernel
theorem dX5_fire_17 : decode cX5_fire 17 = .ok (.invokevirtual 53, 3) := by decide +kernel
theorem dX5_fire_20 : decode cX5_fire 20 = .ok (.ireturn, 1) := by decide +kernel
theorem dX5_fire_21 : decode cX5_fire 21 = .ok (.iload_n 3, 1) := by decide +kernel
theorem dX5_fire_22 : decode cX5_fire 22 = .ok (.ifCond .lt 8, 3) := by decide +kernel
theorem dX5_fire_25 : decode cX5_fire 25 = .ok (.iload_n 3, 1) := by decide +kernel
theorem dX5_fire_26 : decode cX5_fire 26 = .ok (.iconst 2, 1) := by decide +kernel
theorem dX5_fire_27 : decode cX5_fire 27 = .ok (.if_icmp .le 10, 3) := by decide +kernel
theorem dX5_fire_30 : decode cX5_fire 30 = .ok (.aload_n 0, 1) := by decide +kernel
theorem dX5_fire_31 : decode cX5_fire 31 = .ok (.bipush (-2), 2) := by decide +kernel
theorem dX5_fire_33 : decode cX5_fire 33 = .ok (.invokevirtual 53, 3) := by decide +kernel
theorem dX5_fire_36 : decode cX5_fire 36 = .ok (.ireturn, 1) := by decide +kernel
theorem dX5_fire_37 : decode cX5_fire 37 = .ok (.aload_n 0, 1) := by decide +kernel
theorem dX5_fire_38 : decode cX5_fire 38 = .ok (.iload_n 1, 1) := by decide +kernel
theorem dX5_fire_39 : decode cX5_fire 39 = .ok (.iload_n 2, 1) := by decide +kernel
theorem dX5_fire_40 : decode cX5_fire 40 = .ok (.invokevirtual 132, 3) := by decide +kernel
theorem dX5_fire_43 : decode cX5_fire 43 = .ok (.iload_n 3, 1) := by decide +kernel
theorem dX5_fire_44 : decode cX5_fire 44 = .ok (.ifCond .ne 11, 3) := by decide +kernel
theorem dX5_fire_47 : decode cX5_fire 47 = .ok (.aload_n 0, 1) := by decide +kernel
theorem dX5_fire_48 : decode cX5_fire 48 = .ok (.getfield 25, 3) := by decide +kernel
theorem dX5_fire_51 : decode cX5_fire 51 = .ok (.invokevirtual 135, 3) := by decide +kernel
theorem dX5_fire_54 : decode cX5_fire 54 = .ok (.ireturn, 1) := by decide +kernel
theorem dX5_fire_55 : decode cX5_fire 55 = .ok (.iload_n 3, 1) := by decide +kernel
theorem dX5_fire_56 : decode cX5_fire 56 = .ok (.iconst 1, 1) := by decide +kernel
theorem dX5_fire_57 : decode cX5_fire 57 = .ok (.if_icmp .ne 13, 3) := by decide +kernel
theorem dX5_fire_60 : decode cX5_fire 60 = .ok (.aload_n 0, 1) := by decide +kernel
theorem dX5_fire_61 : decode cX5_fire 61 = .ok (.getfield 25, 3) := by decide +kernel
theorem dX5_fire_64 : decode cX5_fire 64 = .ok (.invokevirtual 138, 3) := by decide +kernel
theorem dX5_fire_67 : decode cX5_fire 67 = .ok (.goto 10, 3) := by decide +kernel
theorem dX5_fire_70 : decode cX5_fire 70 = .ok (.aload_n 0, 1) := by decide +kernel
theorem dX5_fire_71 : decode cX5_fire 71 = .ok (.getfield 25, 3) := by decide +kernel
theorem dX5_fire_74 : decode cX5_fire 74 = .ok (.invokevirtual 141, 3) := by decide +kernel
theorem dX5_fire_77 : decode cX5_fire 77 = .ok (.ireturn, 1) := by decide +kernel
theorem dX5_burns_0 : decode cX5_burns 0 = .ok (.iload_n 1, 1) := by decide +kernel
theorem dX5_burns_1 : decode cX5_burns 1 = .ok (.invokestatic 78, 3) := by decide +kernel
theorem dX5_burns_4 : decode cX5_burns 4 = .ok (.ifCond .eq 18, 3) := by decide +kernel
theorem dX5_burns_7 : decode cX5_burns 7 = .ok (.aload_n 0, 1) := by decide +kernel
theorem dX5_burns_8 : decode cX5_burns 8 = .ok (.iload_n 2, 1) := by decide +kernel
theorem dX5_burns_9 : decode cX5_burns 9 = .ok (.invokevirtual 129, 3) := by decide +kernel
theorem dX5_burns_12 : decode cX5_burns 12 = .ok (.ifCond .eq 10, 3) := by decide +kernel
theorem dX5_burns_15 : decode cX5_burns 15 = .ok (.iload_n 3, 1) := by decide +kernel
theorem dX5_burns_16 : decode cX5_burns 16 = .ok (.invokestatic 78, 3) := by decide +kernel
theorem dX5_burns_19 : decode cX5_burns 19 = .ok (.ifCond .ne 9, 3) := by decide +kernel
theorem dX5_burns_22 : decode cX5_burns 22 = .ok (.aload_n 0, 1) := by decide +kernel
theorem dX5_burns_23 : decode cX5_burns 23 = .ok (.iconst (-1), 1) := by decide +kernel
theorem dX5_burns_24 : decode cX5_burns 24 = .ok (.invokevirtual 53, 3) := by decide +kernel
theorem dX5_burns_27 : decode cX5_burns 27 = .ok (.ireturn, 1) := by decide +kernel
theorem dX5_burns_28 : decode cX5_burns 28 = .ok (.aload_n 0, 1) := by decide +kernel
theorem dX5_burns_29 : decode cX5_burns 29 = .ok (.iload_n 1, 1) := by decide +kernel
theorem dX5_burns_30 : decode cX5_burns 30 = .ok (.iload_n 2, 1) := by decide +kernel
theorem dX5_burns_31 : decode cX5_burns 31 = .ok (.invokevirtual 132, 3) := by decide +kernel
theorem dX5_burns_34 : decode cX5_burns 34 = .ok (.aload_n 0, 1) := by decide +kernel
theorem dX5_burns_35 : decode cX5_burns 35 = .ok (.getfield 25, 3) := by decide +kernel
theorem dX5_burns_38 : decode cX5_burns 38 = .ok (.iload_n 3, 1) := by decide +kernel
theorem dX5_burns_39 : decode cX5_burns 39 = .ok (.invokevirtual 144, 3) := by decide +kernel
theorem dX5_burns_42 : decode cX5_burns 42 = .ok (.ireturn, 1) := by decide +kernel
theorem dX5_said_0 : decode cX5_said 0 = .ok (.iload_n 1, 1) := by decide +kernel
theorem dX5_said_1 : decode cX5_said 1 = .ok (.invokestatic 78, 3) := by decide +kernel
theorem dX5_said_4 : decode cX5_said 4 = .ok (.ifCond .eq 18, 3) := by decide +kernel
theorem dX5_said_7 : decode cX5_said 7 = .ok (.aload_n 0, 1) := by decide +kernel
theorem dX5_said_8 : decode cX5_said 8 = .ok (.iload_n 2, 1) := by decide +kernel
theorem dX5_said_9 : decode cX5_said 9 = .ok (.invokevirtual 129, 3) := by decide +kernel
theorem dX5_said_12 : decode cX5_said 12 = .ok (.ifCond .eq 10, 3) := by decide +kernel
theorem dX5_said_15 : decode cX5_said 15 = .ok (.iload_n 3, 1) := by decide +kernel
theorem dX5_said_16 : decode cX5_said 16 = .ok (.invokestatic 78, 3) := by decide +kernel
theorem dX5_said_19 : decode cX5_said 19 = .ok (.ifCond .ne 9, 3) := by decide +kernel
theorem dX5_said_22 : decode cX5_said 22 = .ok (.aload_n 0, 1) := by decide +kernel
theorem dX5_said_23 : decode cX5_said 23 = .ok (.iconst (-1), 1) := by decide +kernel
theorem dX5_said_24 : decode cX5_said 24 = .ok (.invokevirtual 53, 3) := by decide +kernel
theorem dX5_said_27 : decode cX5_said 27 = .ok (.ireturn, 1) := by decide +kernel
theorem dX5_said_28 : decode cX5_said 28 = .ok (.iload 4, 2) := by decide +kernel
theorem dX5_said_30 : decode cX5_said 30 = .ok (.ifCond .eq 16, 3) := by decide +kernel
theorem dX5_said_33 : decode cX5_said 33 = .ok (.iload 4, 2) := by decide +kernel
theorem dX5_said_35 : decode cX5_said 35 = .ok (.iconst 1, 1) := by decide +kernel
theorem dX5_said_36 : decode cX5_said 36 = .ok (.if_icmp .eq 10, 3) := by decide +kernel
theorem dX5_said_39 : decode cX5_said 39 = .ok (.aload_n 0, 1) := by decide +kernel
theorem dX5_said_40 : decode cX5_said 40 = .ok (.bipush (-2), 2) := by decide +kernel
theorem dX5_said_42 : decode cX5_said 42 = .ok (.invokevirtual 53, 3) := by decide +kernel
theorem dX5_said_45 : decode cX5_said 45 = .ok (.ireturn, 1) := by decide +kernel
theorem dX5_said_46 : decode cX5_said 46 = .ok (.aload_n 0, 1) := by decide +kernel
theorem dX5_said_47 : decode cX5_said 47 = .ok (.iload_n 1, 1) := by decide +kernel
theorem dX5_said_48 : decode cX5_said 48 = .ok (.iload_n 2, 1) := by decide +kernel
theorem dX5_said_49 : decode cX5_said 49 = .ok (.invokevirtual 132, 3) := by decide +kernel
theorem dX5_said_52 : decode cX5_said 52 = .ok (.aload_n 0, 1) := by decide +kernel
theorem dX5_said_53 : decode cX5_said 53 = .ok (.getfield 25, 3) := by decide +kernel
theorem dX5_said_56 : decode cX5_said 56 = .ok (.iload_n 3, 1) := by decide +kernel
theorem dX5_said_57 : decode cX5_said 57 = .ok (.invokevirtual 147, 3) := by decide +kernel
theorem dX5_said_60 : decode cX5_said 60 = .ok (.istore 5, 2) := by decide +kernel
theorem dX5_said_62 : decode cX5_said 62 = .ok (.iload 4, 2) := by decide +kernel
theorem dX5_said_64 : decode cX5_said 64 = .ok (.ifCond .ne 8, 3) := by decide +kernel
theorem dX5_said_67 : decode cX5_said 67 = .ok (.iload 5, 2) := by decide +kernel
theorem dX5_said_69 : decode cX5_said 69 = .ok (.goto 12, 3) := by decide +kernel
theorem dX5_said_72 : decode cX5_said 72 = .ok (.aload_n 0, 1) := by decide +kernel
theorem dX5_said_73 : decode cX5_said 73 = .ok (.getfield 25, 3) := by decide +kernel
theorem dX5_said_76 : decode cX5_said 76 = .ok (.iload 5, 2) := by decide +kernel
theorem dX5_said_78 : decode cX5_said 78 = .ok (.invokevirtual 150, 3) := by decide +kernel
theorem dX5_said_81 : decode cX5_said 81 = .ok (.ireturn, 1) := by decide +kernel
theorem dX5_talker_0 : decode cX5_talker 0 = .ok (.iload_n 1, 1) := by decide +kernel
theorem dX5_talker_1 : decode cX5_talker 1 = .ok (.invokestatic 78, 3) := by decide +kernel
theorem dX5_talker_4 : decode cX5_talker 4 = .ok (.ifCond .eq 11, 3) := by decide +kernel
theorem dX5_talker_7 : decode cX5_talker 7 = .ok (.aload_n 0, 1) := by decide +kernel
theorem dX5_talker_8 : decode cX5_talker 8 = .ok (.iload_n 2, 1) := by decide +kernel
theorem dX5_talker_9 : decode cX5_talker 9 = .ok (.invokevirtual 129, 3) := by decide +kernel
theorem dX5_talker_12 : decode cX5_talker 12 = .ok (.ifCond .ne 9, 3) := by decide +kernel
theorem dX5_talker_15 : decode cX5_talker 15 = .ok (.aload_n 0, 1) := by decide +kernel
theorem dX5_talker_16 : decode cX5_talker 16 = .ok (.iconst (-1), 1) := by decide +kernel
theorem dX5_talker_17 : decode cX5_talker 17 = .ok (.invokevirtual 53, 3) := by decide +kernel
theorem dX5_talker_20 : decode cX5_talker 20 = .ok (.ireturn, 1) := by decide +kernel
theorem dX5_talker_21 : decode cX5_talker 21 = .ok (.aload_n 0, 1) := by decide +kernel
theorem dX5_talker_22 : decode cX5_talker 22 = .ok (.iload_n 1, 1) := by decide +kernel
theorem dX5_talker_23 : decode cX5_talker 23 = .ok (.iload_n 2, 1) := by decide +kernel
theorem dX5_talker_24 : decode cX5_talker 24 = .ok (.invokevirtual 132, 3) := by decide +kernel
theorem dX5_talker_27 : decode cX5_talker 27 = .ok (.bipush (-9), 2) := by decide +kernel
theorem dX5_talker_29 : decode cX5_talker 29 = .ok (.istore_n 3, 1) := by decide +kernel
theorem dX5_talker_30 : decode cX5_talker 30 = .ok (.iconst 0, 1) := by decide +kernel
theorem dX5_talker_31 : decode cX5_talker 31 = .ok (.istore 4, 2) := by decide +kernel
theorem dX5_talker_33 : decode cX5_talker 33 = .ok (.iconst 0, 1) := by decide +kernel
theorem dX5_talker_34 : decode cX5_talker 34 = .ok (.istore 5, 2) := by decide +kernel
theorem dX5_talker_36 : decode cX5_talker 36 = .ok (.iload 5, 2) := by decide +kernel
theorem dX5_talker_38 : decode cX5_talker 38 = .ok (.aload_n 0, 1) := by decide +kernel
theorem dX5_talker_39 : decode cX5_talker 39 = .ok (.getfield 10, 3) := by decide +kernel
theorem dX5_talker_42 : decode cX5_talker 42 = .ok (.getfield 153, 3) := by decide +kernel
theorem dX5_talker_45 : decode cX5_talker 45 = .ok (.if_icmp .ge 34, 3) := by decide +kernel
theorem dX5_talker_48 : decode cX5_talker 48 = .ok (.aload_n 0, 1) := by decide +kernel
theorem dX5_talker_49 : decode cX5_talker 49 = .ok (.getfield 25, 3) := by decide +kernel
theorem dX5_talker_52 : decode cX5_talker 52 = .ok (.iload 5, 2) := by decide +kernel
theorem dX5_talker_54 : decode cX5_talker 54 = .ok (.invokevirtual 156, 3) := by decide +kernel
theorem dX5_talker_57 : decode cX5_talker 57 = .ok (.istore 6, 2) := by decide +kernel
theorem dX5_talker_59 : decode cX5_talker 59 = .ok (.iload 6, 2) := by decide +kernel
theorem dX5_talker_61 : decode cX5_talker 61 = .ok (.iload 4, 2) := by decide +kernel
theorem dX5_talker_63 : decode cX5_talker 63 = .ok (.if_icmp .le 10, 3) := by decide +kernel
theorem dX5_talker_66 : decode cX5_talker 66 = .ok (.iload 6, 2) := by decide +kernel
theorem dX5_talker_68 : decode cX5_talker 68 = .ok (.istore 4, 2) := by decide +kernel
theorem dX5_talker_70 : decode cX5_talker 70 = .ok (.iload 5, 2) := by decide +kernel
theorem dX5_talker_72 : decode cX5_talker 72 = .ok (.istore_n 3, 1) := by decide +kernel
theorem dX5_talker_73 : decode cX5_talker 73 = .ok (.iinc 5 1, 3) := by decide +kernel
theorem dX5_talker_76 : decode cX5_talker 76 = .ok (.goto (-40), 3) := by decide +kernel
theorem dX5_talker_79 : decode cX5_talker 79 = .ok (.iload_n 3, 1) := by decide +kernel
theorem dX5_talker_80 : decode cX5_talker 80 = .ok (.ireturn, 1) := by decide +kernel
theorem dX5_alone_0 : decode cX5_alone 0 = .ok (.iload_n 1, 1) := by decide +kernel
theorem dX5_alone_1 : decode cX5_alone 1 = .ok (.invokestatic 78, 3) := by decide +kernel
theorem dX5_alone_4 : decode cX5_alone 4 = .ok (.ifCond .ne 9, 3) := by decide +kernel
theorem dX5_alone_7 : decode cX5_alone 7 = .ok (.aload_n 0, 1) := by decide +kernel
theorem dX5_alone_8 : decode cX5_alone 8 = .ok (.iconst (-1), 1) := by decide +kernel
theorem dX5_alone_9 : decode cX5_alone 9 = .ok (.invokevirtual 53, 3) := by decide +kernel
theorem dX5_alone_12 : decode cX5_alone 12 = .ok (.ireturn, 1) := by decide +kernel
theorem dX5_alone_13 : decode cX5_alone 13 = .ok (.aload_n 0, 1) := by decide +kernel
theorem dX5_alone_14 : decode cX5_alone 14 = .ok (.getfield 25, 3) := by decide +kernel
theorem dX5_alone_17 : decode cX5_alone 17 = .ok (.aload_n 0, 1) := by decide +kernel
theorem dX5_alone_18 : decode cX5_alone 18 = .ok (.getfield 10, 3) := by decide +kernel
theorem dX5_alone_21 : decode cX5_alone 21 = .ok (.invokevirtual 159, 3) := by decide +kernel
theorem dX5_alone_24 : decode cX5_alone 24 = .ok (.aload_n 0, 1) := by decide +kernel
theorem dX5_alone_25 : decode cX5_alone 25 = .ok (.iload_n 1, 1) := by decide +kernel
theorem dX5_alone_26 : decode cX5_alone 26 = .ok (.iconst 0, 1) := by decide +kernel
theorem dX5_alone_27 : decode cX5_alone 27 = .ok (.invokevirtual 162, 3) := by decide +kernel
theorem dX5_alone_30 : decode cX5_alone 30 = .ok (.ireturn, 1) := by decide +kernel
theorem dX5_bestSpeaker_0 : decode cX5_bestSpeaker 0 = .ok (.iload_n 1, 1) := by decide +kernel
theorem dX5_bestSpeaker_1 : decode cX5_bestSpeaker 1 = .ok (.invokestatic 78, 3) := by decide +kernel
theorem dX5_bestSpeaker_4 : decode cX5_bestSpeaker 4 = .ok (.ifCond .ne 9, 3) := by decide +kernel
theorem dX5_bestSpeaker_7 : decode cX5_bestSpeaker 7 = .ok (.aload_n 0, 1) := by decide +kernel
theorem dX5_bestSpeaker_8 : decode cX5_bestSpeaker 8 = .ok (.iconst (-1), 1) := by decide +kernel
theorem dX5_bestSpeaker_9 : decode cX5_bestSpeaker 9 = .ok (.invokevirtual 53, 3) := by decide +kernel
theorem dX5_bestSpeaker_12 : decode cX5_bestSpeaker 12 = .ok (.ireturn, 1) := by decide +kernel
theorem dX5_bestSpeaker_13 : decode cX5_bestSpeaker 13 = .ok (.aload_n 0, 1) := by decide +kernel
theorem dX5_bestSpeaker_14 : decode cX5_bestSpeaker 14 = .ok (.iload_n 1, 1) := by decide +kernel
theorem dX5_bestSpeaker_15 : decode cX5_bestSpeaker 15 = .ok (.iload_n 1, 1) := by decide +kernel
theorem dX5_bestSpeaker_16 : decode cX5_bestSpeaker 16 = .ok (.invokevirtual 165, 3) := by decide +kernel
theorem dX5_bestSpeaker_19 : decode cX5_bestSpeaker 19 = .ok (.ireturn, 1) := by decide +kernel
theorem dX5_worstRoom_0 : decode cX5_worstRoom 0 = .ok (.aload_n 0, 1) := by decide +kernel
theorem dX5_worstRoom_1 : decode cX5_worstRoom 1 = .ok (.getfield 25, 3) := by decide +kernel
theorem dX5_worstRoom_4 : decode cX5_worstRoom 4 = .ok (.aload_n 0, 1) := by decide +kernel
theorem dX5_worstRoom_5 : decode cX5_worstRoom 5 = .ok (.getfield 10, 3) := by decide +kernel
theorem dX5_worstRoom_8 : decode cX5_worstRoom 8 = .ok (.invokevirtual 159, 3) := by decide +kernel
theorem dX5_worstRoom_11 : decode cX5_worstRoom 11 = .ok (.iconst 0, 1) := by decide +kernel
theorem dX5_worstRoom_12 : decode cX5_worstRoom 12 = .ok (.istore_n 1, 1) := by decide +kernel
theorem dX5_worstRoom_13 : decode cX5_worstRoom 13 = .ok (.iconst (-1), 1) := by decide +kernel
theorem dX5_worstRoom_14 : decode cX5_worstRoom 14 = .ok (.istore_n 2, 1) := by decide +kernel
theorem dX5_worstRoom_15 : decode cX5_worstRoom 15 = .ok (.iconst 0, 1) := by decide +kernel
theorem dX5_worstRoom_16 : decode cX5_worstRoom 16 = .ok (.istore_n 3, 1) := by decide +kernel
theorem dX5_worstRoom_17 : decode cX5_worstRoom 17 = .ok (.iload_n 3, 1) := by decide +kernel
theorem dX5_worstRoom_18 : decode cX5_worstRoom 18 = .ok (.bipush 25, 2) := by decide +kernel
theorem dX5_worstRoom_20 : decode cX5_worstRoom 20 = .ok (.if_icmp .ge 28, 3) := by decide +kernel
theorem dX5_worstRoom_23 : decode cX5_worstRoom 23 = .ok (.aload_n 0, 1) := by decide +kernel
theorem dX5_worstRoom_24 : decode cX5_worstRoom 24 = .ok (.iload_n 3, 1) := by decide +kernel
theorem dX5_worstRoom_25 : decode cX5_worstRoom 25 = .ok (.iconst 0, 1) := by decide +kernel
theorem dX5_worstRoom_26 : decode cX5_worstRoom 26 = .ok (.invokevirtual 168, 3) := by decide +kernel
theorem dX5_worstRoom_29 : decode cX5_worstRoom 29 = .ok (.istore 4, 2) := by decide +kernel
theorem dX5_worstRoom_31 : decode cX5_worstRoom 31 = .ok (.iload 4, 2) := by decide +kernel
theorem dX5_worstRoom_33 : decode cX5_worstRoom 33 = .ok (.iload_n 2, 1) := by decide +kernel
theorem dX5_worstRoom_34 : decode cX5_worstRoom 34 = .ok (.if_icmp .le 8, 3) := by decide +kernel
theorem dX5_worstRoom_37 : decode cX5_worstRoom 37 = .ok (.iload 4, 2) := by decide +kernel
theorem dX5_worstRoom_39 : decode cX5_worstRoom 39 = .ok (.istore_n 2, 1) := by decide +kernel
theorem dX5_worstRoom_40 : decode cX5_worstRoom 40 = .ok (.iload_n 3, 1) := by decide +kernel
theorem dX5_worstRoom_41 : decode cX5_worstRoom 41 = .ok (.istore_n 1, 1) := by decide +kernel
theorem dX5_worstRoom_42 : decode cX5_worstRoom 42 = .ok (.iinc 3 1, 3) := by decide +kernel
theorem dX5_worstRoom_45 : decode cX5_worstRoom 45 = .ok (.goto (-28), 3) := by decide +kernel
theorem dX5_worstRoom_48 : decode cX5_worstRoom 48 = .ok (.iload_n 1, 1) := by decide +kernel
theorem dX5_worstRoom_49 : decode cX5_worstRoom 49 = .ok (.ireturn, 1) := by decide +kernel
theorem dX5_show_0 : decode cX5_show 0 = .ok (.iload_n 1, 1) := by decide +kernel
theorem dX5_show_1 : decode cX5_show 1 = .ok (.invokestatic 78, 3) := by decide +kernel
theorem dX5_show_4 : decode cX5_show 4 = .ok (.ifCond .eq 11, 3) := by decide +kernel
theorem dX5_show_7 : decode cX5_show 7 = .ok (.aload_n 0, 1) := by decide +kernel
theorem dX5_show_8 : decode cX5_show 8 = .ok (.iload_n 2, 1) := by decide +kernel
theorem dX5_show_9 : decode cX5_show 9 = .ok (.invokevirtual 97, 3) := by decide +kernel
theorem dX5_show_12 : decode cX5_show 12 = .ok (.ifCond .ne 9, 3) := by decide +kernel
theorem dX5_show_15 : decode cX5_show 15 = .ok (.aload_n 0, 1) := by decide +kernel
theorem dX5_show_16 : decode cX5_show 16 = .ok (.iconst (-1), 1) := by decide +kernel
theorem dX5_show_17 : decode cX5_show 17 = .ok (.invokevirtual 53, 3) := by decide +kernel
theorem dX5_show_20 : decode cX5_show 20 = .ok (.ireturn, 1) := by decide +kernel
theorem dX5_show_21 : decode cX5_show 21 = .ok (.aload_n 0, 1) := by decide +kernel
theorem dX5_show_22 : decode cX5_show 22 = .ok (.aload_n 0, 1) := by decide +kernel
theorem dX5_show_23 : decode cX5_show 23 = .ok (.getfield 10, 3) := by decide +kernel
theorem dX5_show_26 : decode cX5_show 26 = .ok (.iload_n 1, 1) := by decide +kernel
theorem dX5_show_27 : decode cX5_show 27 = .ok (.invokevirtual 171, 3) := by decide +kernel
theorem dX5_show_30 : decode cX5_show 30 = .ok (.istore_n 3, 1) := by decide +kernel
theorem dX5_show_31 : decode cX5_show 31 = .ok (.bipush (-9), 2) := by decide +kernel
theorem dX5_show_33 : decode cX5_show 33 = .ok (.istore 4, 2) := by decide +kernel
theorem dX5_show_35 : decode cX5_show 35 = .ok (.aload_n 0, 1) := by decide +kernel
theorem dX5_show_36 : decode cX5_show 36 = .ok (.getfield 19, 3) := by decide +kernel
theorem dX5_show_39 : decode cX5_show 39 = .ok (.aload_n 0, 1) := by decide +kernel
theorem dX5_show_40 : decode cX5_show 40 = .ok (.getfield 10, 3) := by decide +kernel
theorem dX5_show_43 : decode cX5_show 43 = .ok (.invokevirtual 67, 3) := by decide +kernel
theorem dX5_show_46 : decode cX5_show 46 = .ok (.iconst 0, 1) := by decide +kernel
theorem dX5_show_47 : decode cX5_show 47 = .ok (.istore 5, 2) := by decide +kernel
theorem dX5_show_49 : decode cX5_show 49 = .ok (.iload 5, 2) := by decide +kernel
theorem dX5_show_51 : decode cX5_show 51 = .ok (.bipush 25, 2) := by decide +kernel
theorem dX5_show_53 : decode cX5_show 53 = .ok (.if_icmp .ge 65, 3) := by decide +kernel
theorem dX5_show_56 : decode cX5_show 56 = .ok (.aload_n 0, 1) := by decide +kernel
theorem dX5_show_57 : decode cX5_show 57 = .ok (.getfield 19, 3) := by decide +kernel
theorem dX5_show_60 : decode cX5_show 60 = .ok (.iload_n 2, 1) := by decide +kernel
theorem dX5_show_61 : decode cX5_show 61 = .ok (.iload 5, 2) := by decide +kernel
theorem dX5_show_63 : decode cX5_show 63 = .ok (.bipush 9, 2) := by decide +kernel
theorem dX5_show_65 : decode cX5_show 65 = .ok (.invokevirtual 115, 3) := by decide +kernel
theorem dX5_show_68 : decode cX5_show 68 = .ok (.aload_n 0, 1) := by decide +kernel
theorem dX5_show_69 : decode cX5_show 69 = .ok (.aload_n 0, 1) := by decide +kernel
theorem dX5_show_70 : decode cX5_show 70 = .ok (.getfield 19, 3) := by decide +kernel
theorem dX5_show_73 : decode cX5_show 73 = .ok (.iload_n 1, 1) := by decide +kernel
theorem dX5_show_74 : decode cX5_show 74 = .ok (.invokevirtual 171, 3) := by decide +kernel
theorem dX5_show_77 : decode cX5_show 77 = .ok (.istore 6, 2) := by decide +kernel
theorem dX5_show_79 : decode cX5_show 79 = .ok (.iload 6, 2) := by decide +kernel
theorem dX5_show_81 : decode cX5_show 81 = .ok (.iload_n 3, 1) := by decide +kernel
theorem dX5_show_82 : decode cX5_show 82 = .ok (.if_icmp .ge 10, 3) := by decide +kernel
theorem dX5_show_85 : decode cX5_show 85 = .ok (.iload 6, 2) := by decide +kernel
theorem dX5_show_87 : decode cX5_show 87 = .ok (.istore_n 3, 1) := by decide +kernel
theorem dX5_show_88 : decode cX5_show 88 = .ok (.iload 5, 2) := by decide +kernel
theorem dX5_show_90 : decode cX5_show 90 = .ok (.istore 4, 2) := by decide +kernel
theorem dX5_show_92 : decode cX5_show 92 = .ok (.aload_n 0, 1) := by decide +kernel
theorem dX5_show_93 : decode cX5_show 93 = .ok (.getfield 19, 3) := by decide +kernel
theorem dX5_show_96 : decode cX5_show 96 = .ok (.iload_n 2, 1) := by decide +kernel
theorem dX5_show_97 : decode cX5_show 97 = .ok (.iload 5, 2) := by decide +kernel
theorem dX5_show_99 : decode cX5_show 99 = .ok (.aload_n 0, 1) := by decide +kernel
theorem dX5_show_100 : decode cX5_show 100 = .ok (.getfield 10, 3) := by decide +kernel
theorem dX5_show_103 : decode cX5_show 103 = .ok (.iload_n 2, 1) := by decide +kernel
theorem dX5_show_104 : decode cX5_show 104 = .ok (.iload 5, 2) := by decide +kernel
theorem dX5_show_106 : decode cX5_show 106 = .ok (.invokevirtual 103, 3) := by decide +kernel
theorem dX5_show_109 : decode cX5_show 109 = .ok (.invokevirtual 115, 3) := by decide +kernel
theorem dX5_show_112 : decode cX5_show 112 = .ok (.iinc 5 1, 3) := by decide +kernel
theorem dX5_show_115 : decode cX5_show 115 = .ok (.goto (-66), 3) := by decide +kernel
theorem dX5_show_118 : decode cX5_show 118 = .ok (.iload 4, 2) := by decide +kernel
theorem dX5_show_120 : decode cX5_show 120 = .ok (.ireturn, 1) := by decide +kernel
theorem dX5_mayWait_0 : decode cX5_mayWait 0 = .ok (.iload_n 1, 1) := by decide +kernel
theorem dX5_mayWait_1 : decode cX5_mayWait 1 = .ok (.invokestatic 78, 3) := by decide +kernel
theorem dX5_mayWait_4 : decode cX5_mayWait 4 = .ok (.ifCond .ne 9, 3) := by decide +kernel
theorem dX5_mayWait_7 : decode cX5_mayWait 7 = .ok (.aload_n 0, 1) := by decide +kernel
theorem dX5_mayWait_8 : decode cX5_mayWait 8 = .ok (.iconst (-1), 1) := by decide +kernel
theorem dX5_mayWait_9 : decode cX5_mayWait 9 = .ok (.invokevirtual 53, 3) := by decide +kernel
theorem dX5_mayWait_12 : decode cX5_mayWait 12 = .ok (.ireturn, 1) := by decide +kernel
theorem dX5_mayWait_13 : decode cX5_mayWait 13 = .ok (.aload_n 0, 1) := by decide +kernel
theorem dX5_mayWait_14 : decode cX5_mayWait 14 = .ok (.aload_n 0, 1) := by decide +kernel
theorem dX5_mayWait_15 : decode cX5_mayWait 15 = .ok (.getfield 10, 3) := by decide +kernel
theorem dX5_mayWait_18 : decode cX5_mayWait 18 = .ok (.iload_n 1, 1) := by decide +kernel
theorem dX5_mayWait_19 : decode cX5_mayWait 19 = .ok (.invokevirtual 171, 3) := by decide +kernel
theorem dX5_mayWait_22 : decode cX5_mayWait 22 = .ok (.istore_n 2, 1) := by decide +kernel
theorem dX5_mayWait_23 : decode cX5_mayWait 23 = .ok (.aload_n 0, 1) := by decide +kernel
theorem dX5_mayWait_24 : decode cX5_mayWait 24 = .ok (.getfield 19, 3) := by decide +kernel
theorem dX5_mayWait_27 : decode cX5_mayWait 27 = .ok (.aload_n 0, 1) := by decide +kernel
theorem dX5_mayWait_28 : decode cX5_mayWait 28 = .ok (.getfield 10, 3) := by decide +kernel
theorem dX5_mayWait_31 : decode cX5_mayWait 31 = .ok (.invokevirtual 67, 3) := by decide +kernel
theorem dX5_mayWait_34 : decode cX5_mayWait 34 = .ok (.iconst 1, 1) := by decide +kernel
theorem dX5_mayWait_35 : decode cX5_mayWait 35 = .ok (.istore_n 3, 1) := by decide +kernel
theorem dX5_mayWait_36 : decode cX5_mayWait 36 = .ok (.iload_n 3, 1) := by decide +kernel
theorem dX5_mayWait_37 : decode cX5_mayWait 37 = .ok (.bipush 99, 2) := by decide +kernel
theorem dX5_mayWait_39 : decode cX5_mayWait 39 = .ok (.if_icmp .gt 32, 3) := by decide +kernel
theorem dX5_mayWait_42 : decode cX5_mayWait 42 = .ok (.aload_n 0, 1) := by decide +kernel
theorem dX5_mayWait_43 : decode cX5_mayWait 43 = .ok (.getfield 19, 3) := by decide +kernel
theorem dX5_mayWait_46 : decode cX5_mayWait 46 = .ok (.iconst 1, 1) := by decide +kernel
theorem dX5_mayWait_47 : decode cX5_mayWait 47 = .ok (.invokevirtual 122, 3) := by decide +kernel
theorem dX5_mayWait_50 : decode cX5_mayWait 50 = .ok (.aload_n 0, 1) := by decide +kernel
theorem dX5_mayWait_51 : decode cX5_mayWait 51 = .ok (.aload_n 0, 1) := by decide +kernel
theorem dX5_mayWait_52 : decode cX5_mayWait 52 = .ok (.getfield 19, 3) := by decide +kernel
theorem dX5_mayWait_55 : decode cX5_mayWait 55 = .ok (.iload_n 1, 1) := by decide +kernel
theorem dX5_mayWait_56 : decode cX5_mayWait 56 = .ok (.invokevirtual 171, 3) := by decide +kernel
theorem dX5_mayWait_59 : decode cX5_mayWait 59 = .ok (.iload_n 2, 1) := by decide +kernel
theorem dX5_mayWait_60 : decode cX5_mayWait 60 = .ok (.if_icmp .le 5, 3) := by decide +kernel
theorem dX5_mayWait_63 : decode cX5_mayWait 63 = .ok (.iload_n 3, 1) := by decide +kernel
theorem dX5_mayWait_64 : decode cX5_mayWait 64 = .ok (.ireturn, 1) := by decide +kernel
theorem dX5_mayWait_65 : decode cX5_mayWait 65 = .ok (.iinc 3 1, 3) := by decide +kernel
theorem dX5_mayWait_68 : decode cX5_mayWait 68 = .ok (.goto (-32), 3) := by decide +kernel
theorem dX5_mayWait_71 : decode cX5_mayWait 71 = .ok (.bipush (-9), 2) := by decide +kernel
theorem dX5_mayWait_73 : decode cX5_mayWait 73 = .ok (.ireturn, 1) := by decide +kernel
theorem dX5_leftOut_0 : decode cX5_leftOut 0 = .ok (.iload_n 1, 1) := by decide +kernel
theorem dX5_leftOut_1 : decode cX5_leftOut 1 = .ok (.invokestatic 78, 3) := by decide +kernel
theorem dX5_leftOut_4 : decode cX5_leftOut 4 = .ok (.ifCond .ne 9, 3) := by decide +kernel
theorem dX5_leftOut_7 : decode cX5_leftOut 7 = .ok (.aload_n 0, 1) := by decide +kernel
theorem dX5_leftOut_8 : decode cX5_leftOut 8 = .ok (.iconst (-1), 1) := by decide +kernel
theorem dX5_leftOut_9 : decode cX5_leftOut 9 = .ok (.invokevirtual 53, 3) := by decide +kernel
theorem dX5_leftOut_12 : decode cX5_leftOut 12 = .ok (.ireturn, 1) := by decide +kernel
theorem dX5_leftOut_13 : decode cX5_leftOut 13 = .ok (.aload_n 0, 1) := by decide +kernel
theorem dX5_leftOut_14 : decode cX5_leftOut 14 = .ok (.getfield 25, 3) := by decide +kernel
theorem dX5_leftOut_17 : decode cX5_leftOut 17 = .ok (.aload_n 0, 1) := by decide +kernel
theorem dX5_leftOut_18 : decode cX5_leftOut 18 = .ok (.getfield 10, 3) := by decide +kernel
theorem dX5_leftOut_21 : decode cX5_leftOut 21 = .ok (.invokevirtual 159, 3) := by decide +kernel
theorem dX5_leftOut_24 : decode cX5_leftOut 24 = .ok (.iconst 1, 1) := by decide +kernel
theorem dX5_leftOut_25 : decode cX5_leftOut 25 = .ok (.aload_n 0, 1) := by decide +kernel
theorem dX5_leftOut_26 : decode cX5_leftOut 26 = .ok (.getfield 10, 3) := by decide +kernel
theorem dX5_leftOut_29 : decode cX5_leftOut 29 = .ok (.getfield 153, 3) := by decide +kernel
theorem dX5_leftOut_32 : decode cX5_leftOut 32 = .ok (.ishl, 1) := by decide +kernel
theorem dX5_leftOut_33 : decode cX5_leftOut 33 = .ok (.iconst 1, 1) := by decide +kernel
theorem dX5_leftOut_34 : decode cX5_leftOut 34 = .ok (.isub, 1) := by decide +kernel
theorem dX5_leftOut_35 : decode cX5_leftOut 35 = .ok (.istore_n 2, 1) := by decide +kernel
theorem dX5_leftOut_36 : decode cX5_leftOut 36 = .ok (.bipush (-9), 2) := by decide +kernel
theorem dX5_leftOut_38 : decode cX5_leftOut 38 = .ok (.istore_n 3, 1) := by decide +kernel
theorem dX5_leftOut_39 : decode cX5_leftOut 39 = .ok (.iconst (-1), 1) := by decide +kernel
theorem dX5_leftOut_40 : decode cX5_leftOut 40 = .ok (.istore 4, 2) := by decide +kernel
theorem dX5_leftOut_42 : decode cX5_leftOut 42 = .ok (.iconst 0, 1) := by decide +kernel
theorem dX5_leftOut_43 : decode cX5_leftOut 43 = .ok (.istore 5, 2) := by decide +kernel
theorem dX5_leftOut_45 : decode cX5_leftOut 45 = .ok (.iload 5, 2) := by decide +kernel
theorem dX5_leftOut_47 : decode cX5_leftOut 47 = .ok (.aload_n 0, 1) := by decide +kernel
theorem dX5_leftOut_48 : decode cX5_leftOut 48 = .ok (.getfield 10, 3) := by decide +kernel
theorem dX5_leftOut_51 : decode cX5_leftOut 51 = .ok (.getfield 153, 3) := by decide +kernel
theorem dX5_leftOut_54 : decode cX5_leftOut 54 = .ok (.if_icmp .ge 38, 3) := by decide +kernel
theorem dX5_leftOut_57 : decode cX5_leftOut 57 = .ok (.aload_n 0, 1) := by decide +kernel
theorem dX5_leftOut_58 : decode cX5_leftOut 58 = .ok (.iload_n 1, 1) := by decide +kernel
theorem dX5_leftOut_59 : decode cX5_leftOut 59 = .ok (.iload_n 2, 1) := by decide +kernel
theorem dX5_leftOut_60 : decode cX5_leftOut 60 = .ok (.iconst 1, 1) := by decide +kernel
theorem dX5_leftOut_61 : decode cX5_leftOut 61 = .ok (.iload 5, 2) := by decide +kernel
theorem dX5_leftOut_63 : decode cX5_leftOut 63 = .ok (.ishl, 1) := by decide +kernel
theorem dX5_leftOut_64 : decode cX5_leftOut 64 = .ok (.iconst (-1), 1) := by decide +kernel
theorem dX5_leftOut_65 : decode cX5_leftOut 65 = .ok (.ixor, 1) := by decide +kernel
theorem dX5_leftOut_66 : decode cX5_leftOut 66 = .ok (.iand, 1) := by decide +kernel
theorem dX5_leftOut_67 : decode cX5_leftOut 67 = .ok (.invokevirtual 162, 3) := by decide +kernel
theorem dX5_leftOut_70 : decode cX5_leftOut 70 = .ok (.istore 6, 2) := by decide +kernel
theorem dX5_leftOut_72 : decode cX5_leftOut 72 = .ok (.iload 6, 2) := by decide +kernel
theorem dX5_leftOut_74 : decode cX5_leftOut 74 = .ok (.iload 4, 2) := by decide +kernel
theorem dX5_leftOut_76 : decode cX5_leftOut 76 = .ok (.if_icmp .le 10, 3) := by decide +kernel
theorem dX5_leftOut_79 : decode cX5_leftOut 79 = .ok (.iload 6, 2) := by decide +kernel
theorem dX5_leftOut_81 : decode cX5_leftOut 81 = .ok (.istore 4, 2) := by decide +kernel
theorem dX5_leftOut_83 : decode cX5_leftOut 83 = .ok (.iload 5, 2) := by decide +kernel
theorem dX5_leftOut_85 : decode cX5_leftOut 85 = .ok (.istore_n 3, 1) := by decide +kernel
theorem dX5_leftOut_86 : decode cX5_leftOut 86 = .ok (.iinc 5 1, 3) := by decide +kernel
theorem dX5_leftOut_89 : decode cX5_leftOut 89 = .ok (.goto (-44), 3) := by decide +kernel
theorem dX5_leftOut_92 : decode cX5_leftOut 92 = .ok (.iload_n 3, 1) := by decide +kernel
theorem dX5_leftOut_93 : decode cX5_leftOut 93 = .ok (.ireturn, 1) := by decide +kernel
theorem dX5_enough_0 : decode cX5_enough 0 = .ok (.iload_n 1, 1) := by decide +kernel
theorem dX5_enough_1 : decode cX5_enough 1 = .ok (.invokestatic 78, 3) := by decide +kernel
theorem dX5_enough_4 : decode cX5_enough 4 = .ok (.ifCond .ne 9, 3) := by decide +kernel
theorem dX5_enough_7 : decode cX5_enough 7 = .ok (.aload_n 0, 1) := by decide +kernel
theorem dX5_enough_8 : decode cX5_enough 8 = .ok (.iconst (-1), 1) := by decide +kernel
theorem dX5_enough_9 : decode cX5_enough 9 = .ok (.invokevirtual 53, 3) := by decide +kernel
theorem dX5_enough_12 : decode cX5_enough 12 = .ok (.ireturn, 1) := by decide +kernel
theorem dX5_enough_13 : decode cX5_enough 13 = .ok (.aload_n 0, 1) := by decide +kernel
theorem dX5_enough_14 : decode cX5_enough 14 = .ok (.aload_n 0, 1) := by decide +kernel
theorem dX5_enough_15 : decode cX5_enough 15 = .ok (.getfield 10, 3) := by decide +kernel
theorem dX5_enough_18 : decode cX5_enough 18 = .ok (.iload_n 1, 1) := by decide +kernel
theorem dX5_enough_19 : decode cX5_enough 19 = .ok (.invokevirtual 171, 3) := by decide +kernel
theorem dX5_enough_22 : decode cX5_enough 22 = .ok (.istore_n 2, 1) := by decide +kernel
theorem dX5_enough_23 : decode cX5_enough 23 = .ok (.iconst 1, 1) := by decide +kernel
theorem dX5_enough_24 : decode cX5_enough 24 = .ok (.aload_n 0, 1) := by decide +kernel
theorem dX5_enough_25 : decode cX5_enough 25 = .ok (.getfield 10, 3) := by decide +kernel
theorem dX5_enough_28 : decode cX5_enough 28 = .ok (.getfield 153, 3) := by decide +kernel
theorem dX5_enough_31 : decode cX5_enough 31 = .ok (.ishl, 1) := by decide +kernel
theorem dX5_enough_32 : decode cX5_enough 32 = .ok (.iconst 1, 1) := by decide +kernel
theorem dX5_enough_33 : decode cX5_enough 33 = .ok (.isub, 1) := by decide +kernel
theorem dX5_enough_34 : decode cX5_enough 34 = .ok (.istore_n 3, 1) := by decide +kernel
theorem dX5_enough_35 : decode cX5_enough 35 = .ok (.iload_n 3, 1) := by decide +kernel
theorem dX5_enough_36 : decode cX5_enough 36 = .ok (.istore 4, 2) := by decide +kernel
theorem dX5_enough_38 : decode cX5_enough 38 = .ok (.iconst 0, 1) := by decide +kernel
theorem dX5_enough_39 : decode cX5_enough 39 = .ok (.istore 5, 2) := by decide +kernel
theorem dX5_enough_41 : decode cX5_enough 41 = .ok (.iload 5, 2) := by decide +kernel
theorem dX5_enough_43 : decode cX5_enough 43 = .ok (.iload_n 3, 1) := by decide +kernel
theorem dX5_enough_44 : decode cX5_enough 44 = .ok (.if_icmp .ge 37, 3) := by decide +kernel
theorem dX5_enough_47 : decode cX5_enough 47 = .ok (.iload 5, 2) := by decide +kernel
theorem dX5_enough_49 : decode cX5_enough 49 = .ok (.invokestatic 175, 3) := by decide +kernel
theorem dX5_enough_52 : decode cX5_enough 52 = .ok (.iload 4, 2) := by decide +kernel
theorem dX5_enough_54 : decode cX5_enough 54 = .ok (.invokestatic 175, 3) := by decide +kernel
theorem dX5_enough_57 : decode cX5_enough 57 = .ok (.if_icmp .ge 18, 3) := by decide +kernel
theorem dX5_enough_60 : decode cX5_enough 60 = .ok (.aload_n 0, 1) := by decide +kernel
theorem dX5_enough_61 : decode cX5_enough 61 = .ok (.iload_n 1, 1) := by decide +kernel
theorem dX5_enough_62 : decode cX5_enough 62 = .ok (.iload 5, 2) := by decide +kernel
theorem dX5_enough_64 : decode cX5_enough 64 = .ok (.invokevirtual 162, 3) := by decide +kernel
theorem dX5_enough_67 : decode cX5_enough 67 = .ok (.iload_n 2, 1) := by decide +kernel
theorem dX5_enough_68 : decode cX5_enough 68 = .ok (.if_icmp .gt 7, 3) := by decide +kernel
theorem dX5_enough_71 : decode cX5_enough 71 = .ok (.iload 5, 2) := by decide +kernel
theorem dX5_enough_73 : decode cX5_enough 73 = .ok (.istore 4, 2) := by decide +kernel
theorem dX5_enough_75 : decode cX5_enough 75 = .ok (.iinc 5 1, 3) := by decide +kernel
theorem dX5_enough_78 : decode cX5_enough 78 = .ok (.goto (-37), 3) := by decide +kernel
theorem dX5_enough_81 : decode cX5_enough 81 = .ok (.iload 4, 2) := by decide +kernel
theorem dX5_enough_83 : decode cX5_enough 83 = .ok (.ireturn, 1) := by decide +kernel
theorem dX5_wall_0 : decode cX5_wall 0 = .ok (.iload_n 1, 1) := by decide +kernel
theorem dX5_wall_1 : decode cX5_wall 1 = .ok (.invokestatic 78, 3) := by decide +kernel
theorem dX5_wall_4 : decode cX5_wall 4 = .ok (.ifCond .ne 9, 3) := by decide +kernel
theorem dX5_wall_7 : decode cX5_wall 7 = .ok (.aload_n 0, 1) := by decide +kernel
theorem dX5_wall_8 : decode cX5_wall 8 = .ok (.iconst (-1), 1) := by decide +kernel
theorem dX5_wall_9 : decode cX5_wall 9 = .ok (.invokevirtual 53, 3) := by decide +kernel
theorem dX5_wall_12 : decode cX5_wall 12 = .ok (.ireturn, 1) := by decide +kernel
theorem dX5_wall_13 : decode cX5_wall 13 = .ok (.aload_n 0, 1) := by decide +kernel
theorem dX5_wall_14 : decode cX5_wall 14 = .ok (.aload_n 0, 1) := by decide +kernel
theorem dX5_wall_15 : decode cX5_wall 15 = .ok (.getfield 10, 3) := by decide +kernel
theorem dX5_wall_18 : decode cX5_wall 18 = .ok (.iload_n 1, 1) := by decide +kernel
theorem dX5_wall_19 : decode cX5_wall 19 = .ok (.invokevirtual 171, 3) := by decide +kernel
theorem dX5_wall_22 : decode cX5_wall 22 = .ok (.istore_n 2, 1) := by decide +kernel
theorem dX5_wall_23 : decode cX5_wall 23 = .ok (.bipush (-9), 2) := by decide +kernel
theorem dX5_wall_25 : decode cX5_wall 25 = .ok (.istore_n 3, 1) := by decide +kernel
theorem dX5_wall_26 : decode cX5_wall 26 = .ok (.aload_n 0, 1) := by decide +kernel
theorem dX5_wall_27 : decode cX5_wall 27 = .ok (.getfield 19, 3) := by decide +kernel
theorem dX5_wall_30 : decode cX5_wall 30 = .ok (.aload_n 0, 1) := by decide +kernel
theorem dX5_wall_31 : decode cX5_wall 31 = .ok (.getfield 10, 3) := by decide +kernel
theorem dX5_wall_34 : decode cX5_wall 34 = .ok (.invokevirtual 67, 3) := by decide +kernel
theorem dX5_wall_37 : decode cX5_wall 37 = .ok (.iconst 0, 1) := by decide +kernel
theorem dX5_wall_38 : decode cX5_wall 38 = .ok (.istore 4, 2) := by decide +kernel
theorem dX5_wall_40 : decode cX5_wall 40 = .ok (.iload 4, 2) := by decide +kernel
theorem dX5_wall_42 : decode cX5_wall 42 = .ok (.bipush 25, 2) := by decide +kernel
theorem dX5_wall_44 : decode cX5_wall 44 = .ok (.if_icmp .ge 79, 3) := by decide +kernel
theorem dX5_wall_47 : decode cX5_wall 47 = .ok (.iload 4, 2) := by decide +kernel
theorem dX5_wall_49 : decode cX5_wall 49 = .ok (.iload_n 1, 1) := by decide +kernel
theorem dX5_wall_50 : decode cX5_wall 50 = .ok (.if_icmp .ne 6, 3) := by decide +kernel
theorem dX5_wall_53 : decode cX5_wall 53 = .ok (.goto 64, 3) := by decide +kernel
theorem dX5_wall_56 : decode cX5_wall 56 = .ok (.aload_n 0, 1) := by decide +kernel
theorem dX5_wall_57 : decode cX5_wall 57 = .ok (.getfield 19, 3) := by decide +kernel
theorem dX5_wall_60 : decode cX5_wall 60 = .ok (.iload 4, 2) := by decide +kernel
theorem dX5_wall_62 : decode cX5_wall 62 = .ok (.iconst 4, 1) := by decide +kernel
theorem dX5_wall_63 : decode cX5_wall 63 = .ok (.iconst 0, 1) := by decide +kernel
theorem dX5_wall_64 : decode cX5_wall 64 = .ok (.invokevirtual 107, 3) := by decide +kernel
theorem dX5_wall_67 : decode cX5_wall 67 = .ok (.aload_n 0, 1) := by decide +kernel
theorem dX5_wall_68 : decode cX5_wall 68 = .ok (.aload_n 0, 1) := by decide +kernel
theorem dX5_wall_69 : decode cX5_wall 69 = .ok (.getfield 19, 3) := by decide +kernel
theorem dX5_wall_72 : decode cX5_wall 72 = .ok (.iload_n 1, 1) := by decide +kernel
theorem dX5_wall_73 : decode cX5_wall 73 = .ok (.invokevirtual 171, 3) := by decide +kernel
theorem dX5_wall_76 : decode cX5_wall 76 = .ok (.istore 5, 2) := by decide +kernel
theorem dX5_wall_78 : decode cX5_wall 78 = .ok (.iload 5, 2) := by decide +kernel
theorem dX5_wall_80 : decode cX5_wall 80 = .ok (.iload_n 2, 1) := by decide +kernel
theorem dX5_wall_81 : decode cX5_wall 81 = .ok (.if_icmp .ge 9, 3) := by decide +kernel
theorem dX5_wall_84 : decode cX5_wall 84 = .ok (.iload 5, 2) := by decide +kernel
theorem dX5_wall_86 : decode cX5_wall 86 = .ok (.istore_n 2, 1) := by decide +kernel
theorem dX5_wall_87 : decode cX5_wall 87 = .ok (.iload 4, 2) := by decide +kernel
theorem dX5_wall_89 : decode cX5_wall 89 = .ok (.istore_n 3, 1) := by decide +kernel
theorem dX5_wall_90 : decode cX5_wall 90 = .ok (.aload_n 0, 1) := by decide +kernel
theorem dX5_wall_91 : decode cX5_wall 91 = .ok (.getfield 19, 3) := by decide +kernel
theorem dX5_wall_94 : decode cX5_wall 94 = .ok (.iload 4, 2) := by decide +kernel
theorem dX5_wall_96 : decode cX5_wall 96 = .ok (.aload_n 0, 1) := by decide +kernel
theorem dX5_wall_97 : decode cX5_wall 97 = .ok (.getfield 10, 3) := by decide +kernel
theorem dX5_wall_100 : decode cX5_wall 100 = .ok (.iload 4, 2) := by decide +kernel
theorem dX5_wall_102 : decode cX5_wall 102 = .ok (.invokevirtual 82, 3) := by decide +kernel
theorem dX5_wall_105 : decode cX5_wall 105 = .ok (.aload_n 0, 1) := by decide +kernel
theorem dX5_wall_106 : decode cX5_wall 106 = .ok (.getfield 10, 3) := by decide +kernel
theorem dX5_wall_109 : decode cX5_wall 109 = .ok (.iload 4, 2) := by decide +kernel
theorem dX5_wall_111 : decode cX5_wall 111 = .ok (.invokevirtual 85, 3) := by decide +kernel
theorem dX5_wall_114 : decode cX5_wall 114 = .ok (.invokevirtual 107, 3) := by decide +kernel
theorem dX5_wall_117 : decode cX5_wall 117 = .ok (.iinc 4 1, 3) := by decide +kernel
theorem dX5_wall_120 : decode cX5_wall 120 = .ok (.goto (-80), 3) := by decide +kernel
theorem dX5_wall_123 : decode cX5_wall 123 = .ok (.iload_n 3, 1) := by decide +kernel
theorem dX5_wall_124 : decode cX5_wall 124 = .ok (.ireturn, 1) := by decide +kernel
theorem dX5_captain_0 : decode cX5_captain 0 = .ok (.iload_n 1, 1) := by decide +kernel
theorem dX5_captain_1 : decode cX5_captain 1 = .ok (.invokestatic 78, 3) := by decide +kernel
theorem dX5_captain_4 : decode cX5_captain 4 = .ok (.ifCond .eq 15, 3) := by decide +kernel
theorem dX5_captain_7 : decode cX5_captain 7 = .ok (.iload_n 2, 1) := by decide +kernel
theorem dX5_captain_8 : decode cX5_captain 8 = .ok (.invokestatic 78, 3) := by decide +kernel
theorem dX5_captain_11 : decode cX5_captain 11 = .ok (.ifCond .eq 8, 3) := by decide +kernel
theorem dX5_captain_14 : decode cX5_captain 14 = .ok (.iload_n 1, 1) := by decide +kernel
theorem dX5_captain_15 : decode cX5_captain 15 = .ok (.iload_n 2, 1) := by decide +kernel
theorem dX5_captain_16 : decode cX5_captain 16 = .ok (.if_icmp .ne 9, 3) := by decide +kernel
theorem dX5_captain_19 : decode cX5_captain 19 = .ok (.aload_n 0, 1) := by decide +kernel
theorem dX5_captain_20 : decode cX5_captain 20 = .ok (.iconst (-1), 1) := by decide +kernel
theorem dX5_captain_21 : decode cX5_captain 21 = .ok (.invokevirtual 53, 3) := by decide +kernel
theorem dX5_captain_24 : decode cX5_captain 24 = .ok (.ireturn, 1) := by decide +kernel
theorem dX5_captain_25 : decode cX5_captain 25 = .ok (.iload_n 3, 1) := by decide +kernel
theorem dX5_captain_26 : decode cX5_captain 26 = .ok (.ifCond .eq 15, 3) := by decide +kernel
theorem dX5_captain_29 : decode cX5_captain 29 = .ok (.iload_n 3, 1) := by decide +kernel
theorem dX5_captain_30 : decode cX5_captain 30 = .ok (.iconst 1, 1) := by decide +kernel
theorem dX5_captain_31 : decode cX5_captain 31 = .ok (.if_icmp .eq 10, 3) := by decide +kernel
theorem dX5_captain_34 : decode cX5_captain 34 = .ok (.aload_n 0, 1) := by decide +kernel
theorem dX5_captain_35 : decode cX5_captain 35 = .ok (.bipush (-2), 2) := by decide +kernel
theorem dX5_captain_37 : decode cX5_captain 37 = .ok (.invokevirtual 53, 3) := by decide +kernel
theorem dX5_captain_40 : decode cX5_captain 40 = .ok (.ireturn, 1) := by decide +kernel
theorem dX5_captain_41 : decode cX5_captain 41 = .ok (.aload_n 0, 1) := by decide +kernel
theorem dX5_captain_42 : decode cX5_captain 42 = .ok (.iload_n 1, 1) := by decide +kernel
theorem dX5_captain_43 : decode cX5_captain 43 = .ok (.iload_n 2, 1) := by decide +kernel
theorem dX5_captain_44 : decode cX5_captain 44 = .ok (.invokevirtual 165, 3) := by decide +kernel
theorem dX5_captain_47 : decode cX5_captain 47 = .ok (.istore 4, 2) := by decide +kernel
theorem dX5_captain_49 : decode cX5_captain 49 = .ok (.iload_n 3, 1) := by decide +kernel
theorem dX5_captain_50 : decode cX5_captain 50 = .ok (.ifCond .eq 10, 3) := by decide +kernel
theorem dX5_captain_53 : decode cX5_captain 53 = .ok (.iload 4, 2) := by decide +kernel
theorem dX5_captain_55 : decode cX5_captain 55 = .ok (.bipush (-9), 2) := by decide +kernel
theorem dX5_captain_57 : decode cX5_captain 57 = .ok (.if_icmp .ne 6, 3) := by decide +kernel
theorem dX5_captain_60 : decode cX5_captain 60 = .ok (.iload 4, 2) := by decide +kernel
theorem dX5_captain_62 : decode cX5_captain 62 = .ok (.ireturn, 1) := by decide +kernel
theorem dX5_captain_63 : decode cX5_captain 63 = .ok (.aload_n 0, 1) := by decide +kernel
theorem dX5_captain_64 : decode cX5_captain 64 = .ok (.iload_n 1, 1) := by decide +kernel
theorem dX5_captain_65 : decode cX5_captain 65 = .ok (.iload 4, 2) := by decide +kernel
theorem dX5_captain_67 : decode cX5_captain 67 = .ok (.invokevirtual 168, 3) := by decide +kernel
theorem dX5_captain_70 : decode cX5_captain 70 = .ok (.aload_n 0, 1) := by decide +kernel
theorem dX5_captain_71 : decode cX5_captain 71 = .ok (.iload_n 2, 1) := by decide +kernel
theorem dX5_captain_72 : decode cX5_captain 72 = .ok (.iload 4, 2) := by decide +kernel
theorem dX5_captain_74 : decode cX5_captain 74 = .ok (.invokevirtual 168, 3) := by decide +kernel
theorem dX5_captain_77 : decode cX5_captain 77 = .ok (.invokestatic 180, 3) := by decide +kernel
theorem dX5_captain_80 : decode cX5_captain 80 = .ok (.ireturn, 1) := by decide +kernel
theorem dX5_unlike_0 : decode cX5_unlike 0 = .ok (.aload_n 0, 1) := by decide +kernel
theorem dX5_unlike_1 : decode cX5_unlike 1 = .ok (.iload_n 1, 1) := by decide +kernel
theorem dX5_unlike_2 : decode cX5_unlike 2 = .ok (.invokevirtual 97, 3) := by decide +kernel
theorem dX5_unlike_5 : decode cX5_unlike 5 = .ok (.ifCond .eq 16, 3) := by decide +kernel
theorem dX5_unlike_8 : decode cX5_unlike 8 = .ok (.aload_n 0, 1) := by decide +kernel
theorem dX5_unlike_9 : decode cX5_unlike 9 = .ok (.iload_n 2, 1) := by decide +kernel
theorem dX5_unlike_10 : decode cX5_unlike 10 = .ok (.invokevirtual 97, 3) := by decide +kernel
theorem dX5_unlike_13 : decode cX5_unlike 13 = .ok (.ifCond .eq 8, 3) := by decide +kernel
theorem dX5_unlike_16 : decode cX5_unlike 16 = .ok (.iload_n 1, 1) := by decide +kernel
theorem dX5_unlike_17 : decode cX5_unlike 17 = .ok (.iload_n 2, 1) := by decide +kernel
theorem dX5_unlike_18 : decode cX5_unlike 18 = .ok (.if_icmp .ne 9, 3) := by decide +kernel
theorem dX5_unlike_21 : decode cX5_unlike 21 = .ok (.aload_n 0, 1) := by decide +kernel
theorem dX5_unlike_22 : decode cX5_unlike 22 = .ok (.iconst (-1), 1) := by decide +kernel
theorem dX5_unlike_23 : decode cX5_unlike 23 = .ok (.invokevirtual 53, 3) := by decide +kernel
theorem dX5_unlike_26 : decode cX5_unlike 26 = .ok (.ireturn, 1) := by decide +kernel
theorem dX5_unlike_27 : decode cX5_unlike 27 = .ok (.iload_n 3, 1) := by decide +kernel
theorem dX5_unlike_28 : decode cX5_unlike 28 = .ok (.ifCond .eq 15, 3) := by decide +kernel
theorem dX5_unlike_31 : decode cX5_unlike 31 = .ok (.iload_n 3, 1) := by decide +kernel
theorem dX5_unlike_32 : decode cX5_unlike 32 = .ok (.iconst 1, 1) := by decide +kernel
theorem dX5_unlike_33 : decode cX5_unlike 33 = .ok (.if_icmp .eq 10, 3) := by decide +kernel
theorem dX5_unlike_36 : decode cX5_unlike 36 = .ok (.aload_n 0, 1) := by decide +kernel
theorem dX5_unlike_37 : decode cX5_unlike 37 = .ok (.bipush (-2), 2) := by decide +kernel
theorem dX5_unlike_39 : decode cX5_unlike 39 = .ok (.invokevirtual 53, 3) := by decide +kernel
theorem dX5_unlike_42 : decode cX5_unlike 42 = .ok (.ireturn, 1) := by decide +kernel
theorem dX5_unlike_43 : decode cX5_unlike 43 = .ok (.aload_n 0, 1) := by decide +kernel
theorem dX5_unlike_44 : decode cX5_unlike 44 = .ok (.getfield 10, 3) := by decide +kernel
theorem dX5_unlike_47 : decode cX5_unlike 47 = .ok (.iload_n 1, 1) := by decide +kernel
theorem dX5_unlike_48 : decode cX5_unlike 48 = .ok (.invokevirtual 185, 3) := by decide +kernel
theorem dX5_unlike_51 : decode cX5_unlike 51 = .ok (.aload_n 0, 1) := by decide +kernel
theorem dX5_unlike_52 : decode cX5_unlike 52 = .ok (.getfield 10, 3) := by decide +kernel
theorem dX5_unlike_55 : decode cX5_unlike 55 = .ok (.iload_n 2, 1) := by decide +kernel
theorem dX5_unlike_56 : decode cX5_unlike 56 = .ok (.invokevirtual 185, 3) := by decide +kernel
theorem dX5_unlike_59 : decode cX5_unlike 59 = .ok (.iconst (-1), 1) := by decide +kernel
theorem dX5_unlike_60 : decode cX5_unlike 60 = .ok (.ixor, 1) := by decide +kernel
theorem dX5_unlike_61 : decode cX5_unlike 61 = .ok (.iand, 1) := by decide +kernel
theorem dX5_unlike_62 : decode cX5_unlike 62 = .ok (.istore 4, 2) := by decide +kernel
theorem dX5_unlike_64 : decode cX5_unlike 64 = .ok (.iload_n 3, 1) := by decide +kernel
theorem dX5_unlike_65 : decode cX5_unlike 65 = .ok (.ifCond .ne 9, 3) := by decide +kernel
theorem dX5_unlike_68 : decode cX5_unlike 68 = .ok (.iload 4, 2) := by decide +kernel
theorem dX5_unlike_70 : decode cX5_unlike 70 = .ok (.invokestatic 175, 3) := by decide +kernel
theorem dX5_unlike_73 : decode cX5_unlike 73 = .ok (.ireturn, 1) := by decide +kernel
theorem dX5_unlike_74 : decode cX5_unlike 74 = .ok (.iload 4, 2) := by decide +kernel
theorem dX5_unlike_76 : decode cX5_unlike 76 = .ok (.invokestatic 188, 3) := by decide +kernel
theorem dX5_unlike_79 : decode cX5_unlike 79 = .ok (.ireturn, 1) := by decide +kernel
theorem dX5_sure_0 : decode cX5_sure 0 = .ok (.iload_n 1, 1) := by decide +kernel
theorem dX5_sure_1 : decode cX5_sure 1 = .ok (.ifCond .ne 11, 3) := by decide +kernel
theorem dX5_sure_4 : decode cX5_sure 4 = .ok (.aload_n 0, 1) := by decide +kernel
theorem dX5_sure_5 : decode cX5_sure 5 = .ok (.getfield 10, 3) := by decide +kernel
theorem dX5_sure_8 : decode cX5_sure 8 = .ok (.invokevirtual 125, 3) := by decide +kernel
theorem dX5_sure_11 : decode cX5_sure 11 = .ok (.ireturn, 1) := by decide +kernel
theorem dX5_sure_12 : decode cX5_sure 12 = .ok (.iload_n 1, 1) := by decide +kernel
theorem dX5_sure_13 : decode cX5_sure 13 = .ok (.iconst 1, 1) := by decide +kernel
theorem dX5_sure_14 : decode cX5_sure 14 = .ok (.if_icmp .ne 14, 3) := by decide +kernel
theorem dX5_sure_17 : decode cX5_sure 17 = .ok (.bipush 25, 2) := by decide +kernel
theorem dX5_sure_19 : decode cX5_sure 19 = .ok (.aload_n 0, 1) := by decide +kernel
theorem dX5_sure_20 : decode cX5_sure 20 = .ok (.getfield 10, 3) := by decide +kernel
theorem dX5_sure_23 : decode cX5_sure 23 = .ok (.invokevirtual 191, 3) := by decide +kernel
theorem dX5_sure_26 : decode cX5_sure 26 = .ok (.isub, 1) := by decide +kernel
theorem dX5_sure_27 : decode cX5_sure 27 = .ok (.ireturn, 1) := by decide +kernel
theorem dX5_sure_28 : decode cX5_sure 28 = .ok (.aload_n 0, 1) := by decide +kernel
theorem dX5_sure_29 : decode cX5_sure 29 = .ok (.bipush (-2), 2) := by decide +kernel
theorem dX5_sure_31 : decode cX5_sure 31 = .ok (.invokevirtual 53, 3) := by decide +kernel
theorem dX5_sure_34 : decode cX5_sure 34 = .ok (.ireturn, 1) := by decide +kernel
theorem dX5_slip_0 : decode cX5_slip 0 = .ok (.iload_n 1, 1) := by decide +kernel
theorem dX5_slip_1 : decode cX5_slip 1 = .ok (.invokestatic 78, 3) := by decide +kernel
theorem dX5_slip_4 : decode cX5_slip 4 = .ok (.ifCond .ne 9, 3) := by decide +kernel
theorem dX5_slip_7 : decode cX5_slip 7 = .ok (.aload_n 0, 1) := by decide +kernel
theorem dX5_slip_8 : decode cX5_slip 8 = .ok (.iconst (-1), 1) := by decide +kernel
theorem dX5_slip_9 : decode cX5_slip 9 = .ok (.invokevirtual 194, 3) := by decide +kernel
theorem dX5_slip_12 : decode cX5_slip 12 = .ok (.lreturn, 1) := by decide +kernel
theorem dX5_slip_13 : decode cX5_slip 13 = .ok (.iload_n 2, 1) := by decide +kernel
theorem dX5_slip_14 : decode cX5_slip 14 = .ok (.ifCond .lt 13, 3) := by decide +kernel
theorem dX5_slip_17 : decode cX5_slip 17 = .ok (.iload 4, 2) := by decide +kernel
theorem dX5_slip_19 : decode cX5_slip 19 = .ok (.ifCond .lt 8, 3) := by decide +kernel
theorem dX5_slip_22 : decode cX5_slip 22 = .ok (.iload_n 3, 1) := by decide +kernel
theorem dX5_slip_23 : decode cX5_slip 23 = .ok (.iconst 2, 1) := by decide +kernel
theorem dX5_slip_24 : decode cX5_slip 24 = .ok (.if_icmp .ge 10, 3) := by decide +kernel
theorem dX5_slip_27 : decode cX5_slip 27 = .ok (.aload_n 0, 1) := by decide +kernel
theorem dX5_slip_28 : decode cX5_slip 28 = .ok (.bipush (-4), 2) := by decide +kernel
theorem dX5_slip_30 : decode cX5_slip 30 = .ok (.invokevirtual 194, 3) := by decide +kernel
theorem dX5_slip_33 : decode cX5_slip 33 = .ok (.lreturn, 1) := by decide +kernel
theorem dX5_slip_34 : decode cX5_slip 34 = .ok (.iload_n 2, 1) := by decide +kernel
theorem dX5_slip_35 : decode cX5_slip 35 = .ok (.bipush 7, 2) := by decide +kernel
theorem dX5_slip_37 : decode cX5_slip 37 = .ok (.if_icmp .gt 17, 3) := by decide +kernel
theorem dX5_slip_40 : decode cX5_slip 40 = .ok (.iload_n 3, 1) := by decide +kernel
theorem dX5_slip_41 : decode cX5_slip 41 = .ok (.bipush 20, 2) := by decide +kernel
theorem dX5_slip_43 : decode cX5_slip 43 = .ok (.if_icmp .gt 11, 3) := by decide +kernel
theorem dX5_slip_46 : decode cX5_slip 46 = .ok (.iload 4, 2) := by decide +kernel
theorem dX5_slip_48 : decode cX5_slip 48 = .ok (.sipush 999, 3) := by decide +kernel
theorem dX5_slip_51 : decode cX5_slip 51 = .ok (.if_icmp .le 10, 3) := by decide +kernel
theorem dX5_slip_54 : decode cX5_slip 54 = .ok (.aload_n 0, 1) := by decide +kernel
theorem dX5_slip_55 : decode cX5_slip 55 = .ok (.bipush (-6), 2) := by decide +kernel
theorem dX5_slip_57 : decode cX5_slip 57 = .ok (.invokevirtual 194, 3) := by decide +kernel
theorem dX5_slip_60 : decode cX5_slip 60 = .ok (.lreturn, 1) := by decide +kernel
theorem dX5_slip_61 : decode cX5_slip 61 = .ok (.iload 5, 2) := by decide +kernel
theorem dX5_slip_63 : decode cX5_slip 63 = .ok (.ifCond .eq 16, 3) := by decide +kernel
theorem dX5_slip_66 : decode cX5_slip 66 = .ok (.iload 5, 2) := by decide +kernel
theorem dX5_slip_68 : decode cX5_slip 68 = .ok (.iconst 1, 1) := by decide +kernel
theorem dX5_slip_69 : decode cX5_slip 69 = .ok (.if_icmp .eq 10, 3) := by decide +kernel
theorem dX5_slip_72 : decode cX5_slip 72 = .ok (.aload_n 0, 1) := by decide +kernel
theorem dX5_slip_73 : decode cX5_slip 73 = .ok (.bipush (-2), 2) := by decide +kernel
theorem dX5_slip_75 : decode cX5_slip 75 = .ok (.invokevirtual 194, 3) := by decide +kernel
theorem dX5_slip_78 : decode cX5_slip 78 = .ok (.lreturn, 1) := by decide +kernel
theorem dX5_slip_79 : decode cX5_slip 79 = .ok (.aload_n 0, 1) := by decide +kernel
theorem dX5_slip_80 : decode cX5_slip 80 = .ok (.iload_n 1, 1) := by decide +kernel
theorem dX5_slip_81 : decode cX5_slip 81 = .ok (.iload_n 2, 1) := by decide +kernel
theorem dX5_slip_82 : decode cX5_slip 82 = .ok (.iload_n 3, 1) := by decide +kernel
theorem dX5_slip_83 : decode cX5_slip 83 = .ok (.iload 4, 2) := by decide +kernel
theorem dX5_slip_85 : decode cX5_slip 85 = .ok (.invokevirtual 198, 3) := by decide +kernel
theorem dX5_slip_88 : decode cX5_slip 88 = .ok (.lstore 6, 2) := by decide +kernel
theorem dX5_slip_90 : decode cX5_slip 90 = .ok (.iload_n 3, 1) := by decide +kernel
theorem dX5_slip_91 : decode cX5_slip 91 = .ok (.iload_n 2, 1) := by decide +kernel
theorem dX5_slip_92 : decode cX5_slip 92 = .ok (.invokestatic 202, 3) := by decide +kernel
theorem dX5_slip_95 : decode cX5_slip 95 = .ok (.lstore 8, 2) := by decide +kernel
theorem dX5_slip_97 : decode cX5_slip 97 = .ok (.lload 6, 2) := by decide +kernel
theorem dX5_slip_99 : decode cX5_slip 99 = .ok (.lload 8, 2) := by decide +kernel
theorem dX5_slip_101 : decode cX5_slip 101 = .ok (.invokestatic 206, 3) := by decide +kernel
theorem dX5_slip_104 : decode cX5_slip 104 = .ok (.lstore 10, 2) := by decide +kernel
theorem dX5_slip_106 : decode cX5_slip 106 = .ok (.lload 10, 2) := by decide +kernel
theorem dX5_slip_108 : decode cX5_slip 108 = .ok (.lconst 1, 1) := by decide +kernel
theorem dX5_slip_109 : decode cX5_slip 109 = .ok (.lcmp, 1) := by decide +kernel
theorem dX5_slip_110 : decode cX5_slip 110 = .ok (.ifCond .ge 5, 3) := by decide +kernel
theorem dX5_slip_113 : decode cX5_slip 113 = .ok (.lconst 0, 1) := by decide +kernel
theorem dX5_slip_114 : decode cX5_slip 114 = .ok (.lreturn, 1) := by decide +kernel
theorem dX5_slip_115 : decode cX5_slip 115 = .ok (.iload 5, 2) := by decide +kernel
theorem dX5_slip_117 : decode cX5_slip 117 = .ok (.ifCond .ne 8, 3) := by decide +kernel
theorem dX5_slip_120 : decode cX5_slip 120 = .ok (.lload 6, 2) := by decide +kernel
theorem dX5_slip_122 : decode cX5_slip 122 = .ok (.goto 5, 3) := by decide +kernel
theorem dX5_slip_125 : decode cX5_slip 125 = .ok (.lload 8, 2) := by decide +kernel
theorem dX5_slip_127 : decode cX5_slip 127 = .ok (.lload 10, 2) := by decide +kernel
theorem dX5_slip_129 : decode cX5_slip 129 = .ok (.ldiv, 1) := by decide +kernel
theorem dX5_slip_130 : decode cX5_slip 130 = .ok (.lreturn, 1) := by decide +kernel
theorem dX5_whatWas_0 : decode cX5_whatWas 0 = .ok (.iload_n 1, 1) := by decide +kernel
theorem dX5_whatWas_1 : decode cX5_whatWas 1 = .ok (.invokestatic 78, 3) := by decide +kernel
theorem dX5_whatWas_4 : decode cX5_whatWas 4 = .ok (.ifCond .eq 10, 3) := by decide +kernel
theorem dX5_whatWas_7 : decode cX5_whatWas 7 = .ok (.iload_n 2, 1) := by decide +kernel
theorem dX5_whatWas_8 : decode cX5_whatWas 8 = .ok (.invokestatic 78, 3) := by decide +kernel
theorem dX5_whatWas_11 : decode cX5_whatWas 11 = .ok (.ifCond .ne 9, 3) := by decide +kernel
theorem dX5_whatWas_14 : decode cX5_whatWas 14 = .ok (.aload_n 0, 1) := by decide +kernel
theorem dX5_whatWas_15 : decode cX5_whatWas 15 = .ok (.iconst (-1), 1) := by decide +kernel
theorem dX5_whatWas_16 : decode cX5_whatWas 16 = .ok (.invokevirtual 53, 3) := by decide +kernel
theorem dX5_whatWas_19 : decode cX5_whatWas 19 = .ok (.ireturn, 1) := by decide +kernel
theorem dX5_whatWas_20 : decode cX5_whatWas 20 = .ok (.iload_n 3, 1) := by decide +kernel
theorem dX5_whatWas_21 : decode cX5_whatWas 21 = .ok (.ifCond .eq 15, 3) := by decide +kernel
theorem dX5_whatWas_24 : decode cX5_whatWas 24 = .ok (.iload_n 3, 1) := by decide +kernel
theorem dX5_whatWas_25 : decode cX5_whatWas 25 = .ok (.iconst 1, 1) := by decide +kernel
theorem dX5_whatWas_26 : decode cX5_whatWas 26 = .ok (.if_icmp .eq 10, 3) := by decide +kernel
theorem dX5_whatWas_29 : decode cX5_whatWas 29 = .ok (.aload_n 0, 1) := by decide +kernel
theorem dX5_whatWas_30 : decode cX5_whatWas 30 = .ok (.bipush (-2), 2) := by decide +kernel
theorem dX5_whatWas_32 : decode cX5_whatWas 32 = .ok (.invokevirtual 53, 3) := by decide +kernel
theorem dX5_whatWas_35 : decode cX5_whatWas 35 = .ok (.ireturn, 1) := by decide +kernel
theorem dX5_whatWas_36 : decode cX5_whatWas 36 = .ok (.aload_n 0, 1) := by decide +kernel
theorem dX5_whatWas_37 : decode cX5_whatWas 37 = .ok (.getfield 19, 3) := by decide +kernel
theorem dX5_whatWas_40 : decode cX5_whatWas 40 = .ok (.aload_n 0, 1) := by decide +kernel
theorem dX5_whatWas_41 : decode cX5_whatWas 41 = .ok (.getfield 10, 3) := by decide +kernel
theorem dX5_whatWas_44 : decode cX5_whatWas 44 = .ok (.invokevirtual 67, 3) := by decide +kernel
theorem dX5_whatWas_47 : decode cX5_whatWas 47 = .ok (.iload_n 3, 1) := by decide +kernel
theorem dX5_whatWas_48 : decode cX5_whatWas 48 = .ok (.ifCond .ne 8, 3) := by decide +kernel
theorem dX5_whatWas_51 : decode cX5_whatWas 51 = .ok (.bipush 6, 2) := by decide +kernel
theorem dX5_whatWas_53 : decode cX5_whatWas 53 = .ok (.goto 5, 3) := by decide +kernel
theorem dX5_whatWas_56 : decode cX5_whatWas 56 = .ok (.bipush 10, 2) := by decide +kernel
theorem dX5_whatWas_58 : decode cX5_whatWas 58 = .ok (.istore 4, 2) := by decide +kernel
theorem dX5_whatWas_60 : decode cX5_whatWas 60 = .ok (.iconst 0, 1) := by decide +kernel
theorem dX5_whatWas_61 : decode cX5_whatWas 61 = .ok (.istore 5, 2) := by decide +kernel
theorem dX5_whatWas_63 : decode cX5_whatWas 63 = .ok (.iconst 0, 1) := by decide +kernel
theorem dX5_whatWas_64 : decode cX5_whatWas 64 = .ok (.istore 6, 2) := by decide +kernel
theorem dX5_whatWas_66 : decode cX5_whatWas 66 = .ok (.iload 6, 2) := by decide +kernel
theorem dX5_whatWas_68 : decode cX5_whatWas 68 = .ok (.iload 4, 2) := by decide +kernel
theorem dX5_whatWas_70 : decode cX5_whatWas 70 = .ok (.if_icmp .ge 69, 3) := by decide +kernel
theorem dX5_whatWas_73 : decode cX5_whatWas 73 = .ok (.iload_n 3, 1) := by decide +kernel
theorem dX5_whatWas_74 : decode cX5_whatWas 74 = .ok (.ifCond .ne 24, 3) := by decide +kernel
theorem dX5_whatWas_77 : decode cX5_whatWas 77 = .ok (.aload_n 0, 1) := by decide +kernel
theorem dX5_whatWas_78 : decode cX5_whatWas 78 = .ok (.getfield 19, 3) := by decide +kernel
theorem dX5_whatWas_81 : decode cX5_whatWas 81 = .ok (.iload_n 2, 1) := by decide +kernel
theorem dX5_whatWas_82 : decode cX5_whatWas 82 = .ok (.iload 6, 2) := by decide +kernel
theorem dX5_whatWas_84 : decode cX5_whatWas 84 = .ok (.aload_n 0, 1) := by decide +kernel
theorem dX5_whatWas_85 : decode cX5_whatWas 85 = .ok (.getfield 10, 3) := by decide +kernel
theorem dX5_whatWas_88 : decode cX5_whatWas 88 = .ok (.iload_n 2, 1) := by decide +kernel
theorem dX5_whatWas_89 : decode cX5_whatWas 89 = .ok (.invokevirtual 85, 3) := by decide +kernel
theorem dX5_whatWas_92 : decode cX5_whatWas 92 = .ok (.invokevirtual 107, 3) := by decide +kernel
theorem dX5_whatWas_95 : decode cX5_whatWas 95 = .ok (.goto 21, 3) := by decide +kernel
theorem dX5_whatWas_98 : decode cX5_whatWas 98 = .ok (.aload_n 0, 1) := by decide +kernel
theorem dX5_whatWas_99 : decode cX5_whatWas 99 = .ok (.getfield 19, 3) := by decide +kernel
theorem dX5_whatWas_102 : decode cX5_whatWas 102 = .ok (.iload_n 2, 1) := by decide +kernel
theorem dX5_whatWas_103 : decode cX5_whatWas 103 = .ok (.aload_n 0, 1) := by decide +kernel
theorem dX5_whatWas_104 : decode cX5_whatWas 104 = .ok (.getfield 10, 3) := by decide +kernel
theorem dX5_whatWas_107 : decode cX5_whatWas 107 = .ok (.iload_n 2, 1) := by decide +kernel
theorem dX5_whatWas_108 : decode cX5_whatWas 108 = .ok (.invokevirtual 82, 3) := by decide +kernel
theorem dX5_whatWas_111 : decode cX5_whatWas 111 = .ok (.iload 6, 2) := by decide +kernel
theorem dX5_whatWas_113 : decode cX5_whatWas 113 = .ok (.invokevirtual 107, 3) := by decide +kernel
theorem dX5_whatWas_116 : decode cX5_whatWas 116 = .ok (.aload_n 0, 1) := by decide +kernel
theorem dX5_whatWas_117 : decode cX5_whatWas 117 = .ok (.iload_n 1, 1) := by decide +kernel
theorem dX5_whatWas_118 : decode cX5_whatWas 118 = .ok (.invokevirtual 210, 3) := by decide +kernel
theorem dX5_whatWas_121 : decode cX5_whatWas 121 = .ok (.ifCond .eq 12, 3) := by decide +kernel
theorem dX5_whatWas_124 : decode cX5_whatWas 124 = .ok (.iload 5, 2) := by decide +kernel
theorem dX5_whatWas_126 : decode cX5_whatWas 126 = .ok (.iconst 1, 1) := by decide +kernel
theorem dX5_whatWas_127 : decode cX5_whatWas 127 = .ok (.iload 6, 2) := by decide +kernel
theorem dX5_whatWas_129 : decode cX5_whatWas 129 = .ok (.ishl, 1) := by decide +kernel
theorem dX5_whatWas_130 : decode cX5_whatWas 130 = .ok (.ior, 1) := by decide +kernel
theorem dX5_whatWas_131 : decode cX5_whatWas 131 = .ok (.istore 5, 2) := by decide +kernel
theorem dX5_whatWas_133 : decode cX5_whatWas 133 = .ok (.iinc 6 1, 3) := by decide +kernel
theorem dX5_whatWas_136 : decode cX5_whatWas 136 = .ok (.goto (-70), 3) := by decide +kernel
theorem dX5_whatWas_139 : decode cX5_whatWas 139 = .ok (.iload 5, 2) := by decide +kernel
theorem dX5_whatWas_141 : decode cX5_whatWas 141 = .ok (.ireturn, 1) := by decide +kernel
theorem dX5_row_0 : decode cX5_row 0 = .ok (.iload_n 1, 1) := by decide +kernel
theorem dX5_row_1 : decode cX5_row 1 = .ok (.ifCond .ge 10, 3) := by decide +kernel
theorem dX5_row_4 : decode cX5_row 4 = .ok (.aload_n 0, 1) := by decide +kernel
theorem dX5_row_5 : decode cX5_row 5 = .ok (.bipush (-4), 2) := by decide +kernel
theorem dX5_row_7 : decode cX5_row 7 = .ok (.invokevirtual 53, 3) := by decide +kernel
theorem dX5_row_10 : decode cX5_row 10 = .ok (.ireturn, 1) := by decide +kernel
theorem dX5_row_11 : decode cX5_row 11 = .ok (.iload_n 1, 1) := by decide +kernel
theorem dX5_row_12 : decode cX5_row 12 = .ok (.bipush 99, 2) := by decide +kernel
theorem dX5_row_14 : decode cX5_row 14 = .ok (.if_icmp .gt 13, 3) := by decide +kernel
theorem dX5_row_17 : decode cX5_row 17 = .ok (.aload_n 0, 1) := by decide +kernel
theorem dX5_row_18 : decode cX5_row 18 = .ok (.getfield 41, 3) := by decide +kernel
theorem dX5_row_21 : decode cX5_row 21 = .ok (.invokevirtual 60, 3) := by decide +kernel
theorem dX5_row_24 : decode cX5_row 24 = .ok (.ifCond .eq 10, 3) := by decide +kernel
theorem dX5_row_27 : decode cX5_row 27 = .ok (.aload_n 0, 1) := by decide +kernel
theorem dX5_row_28 : decode cX5_row 28 = .ok (.bipush (-6), 2) := by decide +kernel
theorem dX5_row_30 : decode cX5_row 30 = .ok (.invokevirtual 53, 3) := by decide +kernel
theorem dX5_row_33 : decode cX5_row 33 = .ok (.ireturn, 1) := by decide +kernel
theorem dX5_row_34 : decode cX5_row 34 = .ok (.aload_n 0, 1) := by decide +kernel
theorem dX5_row_35 : decode cX5_row 35 = .ok (.getfield 41, 3) := by decide +kernel
theorem dX5_row_38 : decode cX5_row 38 = .ok (.iload_n 1, 1) := by decide +kernel
theorem dX5_row_39 : decode cX5_row 39 = .ok (.invokevirtual 64, 3) := by decide +kernel
theorem dX5_row_42 : decode cX5_row 42 = .ok (.ireturn, 1) := by decide +kernel
theorem dX5_judge_0 : decode cX5_judge 0 = .ok (.iload_n 1, 1) := by decide +kernel
theorem dX5_judge_1 : decode cX5_judge 1 = .ok (.invokestatic 78, 3) := by decide +kernel
theorem dX5_judge_4 : decode cX5_judge 4 = .ok (.ifCond .ne 9, 3) := by decide +kernel
theorem dX5_judge_7 : decode cX5_judge 7 = .ok (.aload_n 0, 1) := by decide +kernel
theorem dX5_judge_8 : decode cX5_judge 8 = .ok (.iconst (-1), 1) := by decide +kernel
theorem dX5_judge_9 : decode cX5_judge 9 = .ok (.invokevirtual 53, 3) := by decide +kernel
theorem dX5_judge_12 : decode cX5_judge 12 = .ok (.ireturn, 1) := by decide +kernel
theorem dX5_judge_13 : decode cX5_judge 13 = .ok (.aload_n 0, 1) := by decide +kernel
theorem dX5_judge_14 : decode cX5_judge 14 = .ok (.iload_n 1, 1) := by decide +kernel
theorem dX5_judge_15 : decode cX5_judge 15 = .ok (.iconst 0, 1) := by decide +kernel
theorem dX5_judge_16 : decode cX5_judge 16 = .ok (.invokevirtual 132, 3) := by decide +kernel
theorem dX5_judge_19 : decode cX5_judge 19 = .ok (.bipush (-9), 2) := by decide +kernel
theorem dX5_judge_21 : decode cX5_judge 21 = .ok (.istore_n 2, 1) := by decide +kernel
theorem dX5_judge_22 : decode cX5_judge 22 = .ok (.iconst 0, 1) := by decide +kernel
theorem dX5_judge_23 : decode cX5_judge 23 = .ok (.istore_n 3, 1) := by decide +kernel
theorem dX5_judge_24 : decode cX5_judge 24 = .ok (.iload_n 3, 1) := by decide +kernel
theorem dX5_judge_25 : decode cX5_judge 25 = .ok (.aload_n 0, 1) := by decide +kernel
theorem dX5_judge_26 : decode cX5_judge 26 = .ok (.getfield 41, 3) := by decide +kernel
theorem dX5_judge_29 : decode cX5_judge 29 = .ok (.getfield 213, 3) := by decide +kernel
theorem dX5_judge_32 : decode cX5_judge 32 = .ok (.if_icmp .ge 41, 3) := by decide +kernel
theorem dX5_judge_35 : decode cX5_judge 35 = .ok (.iload_n 2, 1) := by decide +kernel
theorem dX5_judge_36 : decode cX5_judge 36 = .ok (.bipush (-9), 2) := by decide +kernel
theorem dX5_judge_38 : decode cX5_judge 38 = .ok (.if_icmp .ne 35, 3) := by decide +kernel
theorem dX5_judge_41 : decode cX5_judge 41 = .ok (.aload_n 0, 1) := by decide +kernel
theorem dX5_judge_42 : decode cX5_judge 42 = .ok (.getfield 41, 3) := by decide +kernel
theorem dX5_judge_45 : decode cX5_judge 45 = .ok (.iload_n 3, 1) := by decide +kernel
theorem dX5_judge_46 : decode cX5_judge 46 = .ok (.invokevirtual 216, 3) := by decide +kernel
theorem dX5_judge_49 : decode cX5_judge 49 = .ok (.aload_n 0, 1) := by decide +kernel
theorem dX5_judge_50 : decode cX5_judge 50 = .ok (.getfield 25, 3) := by decide +kernel
theorem dX5_judge_53 : decode cX5_judge 53 = .ok (.iload_n 3, 1) := by decide +kernel
theorem dX5_judge_54 : decode cX5_judge 54 = .ok (.iconst 1, 1) := by decide +kernel
theorem dX5_judge_55 : decode cX5_judge 55 = .ok (.iadd, 1) := by decide +kernel
theorem dX5_judge_56 : decode cX5_judge 56 = .ok (.invokevirtual 219, 3) := by decide +kernel
theorem dX5_judge_59 : decode cX5_judge 59 = .ok (.invokestatic 222, 3) := by decide +kernel
theorem dX5_judge_62 : decode cX5_judge 62 = .ok (.if_icmp .eq 5, 3) := by decide +kernel
theorem dX5_judge_65 : decode cX5_judge 65 = .ok (.iload_n 3, 1) := by decide +kernel
theorem dX5_judge_66 : decode cX5_judge 66 = .ok (.istore_n 2, 1) := by decide +kernel
theorem dX5_judge_67 : decode cX5_judge 67 = .ok (.iinc 3 1, 3) := by decide +kernel
theorem dX5_judge_70 : decode cX5_judge 70 = .ok (.goto (-46), 3) := by decide +kernel
theorem dX5_judge_73 : decode cX5_judge 73 = .ok (.aload_n 0, 1) := by decide +kernel
theorem dX5_judge_74 : decode cX5_judge 74 = .ok (.getfield 41, 3) := by decide +kernel
theorem dX5_judge_77 : decode cX5_judge 77 = .ok (.invokevirtual 75, 3) := by decide +kernel
theorem dX5_judge_80 : decode cX5_judge 80 = .ok (.iload_n 2, 1) := by decide +kernel
theorem dX5_judge_81 : decode cX5_judge 81 = .ok (.ireturn, 1) := by decide +kernel
theorem dX5_clear_0 : decode cX5_clear 0 = .ok (.aload_n 0, 1) := by decide +kernel
theorem dX5_clear_1 : decode cX5_clear 1 = .ok (.getfield 41, 3) := by decide +kernel
theorem dX5_clear_4 : decode cX5_clear 4 = .ok (.getfield 213, 3) := by decide +kernel
theorem dX5_clear_7 : decode cX5_clear 7 = .ok (.istore_n 1, 1) := by decide +kernel
theorem dX5_clear_8 : decode cX5_clear 8 = .ok (.aload_n 0, 1) := by decide +kernel
theorem dX5_clear_9 : decode cX5_clear 9 = .ok (.getfield 41, 3) := by decide +kernel
theorem dX5_clear_12 : decode cX5_clear 12 = .ok (.invokevirtual 75, 3) := by decide +kernel
theorem dX5_clear_15 : decode cX5_clear 15 = .ok (.iload_n 1, 1) := by decide +kernel
theorem dX5_clear_16 : decode cX5_clear 16 = .ok (.ireturn, 1) := by decide +kernel
theorem dX5_lots_0 : decode cX5_lots 0 = .ok (.iload_n 1, 1) := by decide +kernel
theorem dX5_lots_1 : decode cX5_lots 1 = .ok (.iconst 1, 1) := by decide +kernel
theorem dX5_lots_2 : decode cX5_lots 2 = .ok (.if_icmp .ge 10, 3) := by decide +kernel
theorem dX5_lots_5 : decode cX5_lots 5 = .ok (.aload_n 0, 1) := by decide +kernel
theorem dX5_lots_6 : decode cX5_lots 6 = .ok (.bipush (-4), 2) := by decide +kernel
theorem dX5_lots_8 : decode cX5_lots 8 = .ok (.invokevirtual 53, 3) := by decide +kernel
theorem dX5_lots_11 : decode cX5_lots 11 = .ok (.ireturn, 1) := by decide +kernel
theorem dX5_lots_12 : decode cX5_lots 12 = .ok (.iload_n 1, 1) := by decide +kernel
theorem dX5_lots_13 : decode cX5_lots 13 = .ok (.bipush 20, 2) := by decide +kernel
theorem dX5_lots_15 : decode cX5_lots 15 = .ok (.if_icmp .le 10, 3) := by decide +kernel
theorem dX5_lots_18 : decode cX5_lots 18 = .ok (.aload_n 0, 1) := by decide +kernel
theorem dX5_lots_19 : decode cX5_lots 19 = .ok (.bipush (-6), 2) := by decide +kernel
theorem dX5_lots_21 : decode cX5_lots 21 = .ok (.invokevirtual 53, 3) := by decide +kernel
theorem dX5_lots_24 : decode cX5_lots 24 = .ok (.ireturn, 1) := by decide +kernel
theorem dX5_lots_25 : decode cX5_lots 25 = .ok (.iload_n 3, 1) := by decide +kernel
theorem dX5_lots_26 : decode cX5_lots 26 = .ok (.ifCond .eq 15, 3) := by decide +kernel
theorem dX5_lots_29 : decode cX5_lots 29 = .ok (.iload_n 3, 1) := by decide +kernel
theorem dX5_lots_30 : decode cX5_lots 30 = .ok (.iconst 1, 1) := by decide +kernel
theorem dX5_lots_31 : decode cX5_lots 31 = .ok (.if_icmp .eq 10, 3) := by decide +kernel
theorem dX5_lots_34 : decode cX5_lots 34 = .ok (.aload_n 0, 1) := by decide +kernel
theorem dX5_lots_35 : decode cX5_lots 35 = .ok (.bipush (-2), 2) := by decide +kernel
theorem dX5_lots_37 : decode cX5_lots 37 = .ok (.invokevirtual 53, 3) := by decide +kernel
theorem dX5_lots_40 : decode cX5_lots 40 = .ok (.ireturn, 1) := by decide +kernel
theorem dX5_lots_41 : decode cX5_lots 41 = .ok (.aload_n 0, 1) := by decide +kernel
theorem dX5_lots_42 : decode cX5_lots 42 = .ok (.getfield 25, 3) := by decide +kernel
theorem dX5_lots_45 : decode cX5_lots 45 = .ok (.aload_n 0, 1) := by decide +kernel
theorem dX5_lots_46 : decode cX5_lots 46 = .ok (.getfield 10, 3) := by decide +kernel
theorem dX5_lots_49 : decode cX5_lots 49 = .ok (.invokevirtual 159, 3) := by decide +kernel
theorem dX5_lots_52 : decode cX5_lots 52 = .ok (.iload_n 2, 1) := by decide +kernel
theorem dX5_lots_53 : decode cX5_lots 53 = .ok (.istore 4, 2) := by decide +kernel
theorem dX5_lots_55 : decode cX5_lots 55 = .ok (.iconst 0, 1) := by decide +kernel
theorem dX5_lots_56 : decode cX5_lots 56 = .ok (.istore 5, 2) := by decide +kernel
theorem dX5_lots_58 : decode cX5_lots 58 = .ok (.iconst 0, 1) := by decide +kernel
theorem dX5_lots_59 : decode cX5_lots 59 = .ok (.istore 6, 2) := by decide +kernel
theorem dX5_lots_61 : decode cX5_lots 61 = .ok (.iload 6, 2) := by decide +kernel
theorem dX5_lots_63 : decode cX5_lots 63 = .ok (.iload_n 1, 1) := by decide +kernel
theorem dX5_lots_64 : decode cX5_lots 64 = .ok (.if_icmp .ge 90, 3) := by decide +kernel
theorem dX5_lots_67 : decode cX5_lots 67 = .ok (.iload 4, 2) := by decide +kernel
theorem dX5_lots_69 : decode cX5_lots 69 = .ok (.invokestatic 225, 3) := by decide +kernel
theorem dX5_lots_72 : decode cX5_lots 72 = .ok (.istore 4, 2) := by decide +kernel
theorem dX5_lots_74 : decode cX5_lots 74 = .ok (.iload 4, 2) := by decide +kernel
theorem dX5_lots_76 : decode cX5_lots 76 = .ok (.bipush 25, 2) := by decide +kernel
theorem dX5_lots_78 : decode cX5_lots 78 = .ok (.invokestatic 228, 3) := by decide +kernel
theorem dX5_lots_81 : decode cX5_lots 81 = .ok (.istore 7, 2) := by decide +kernel
theorem dX5_lots_83 : decode cX5_lots 83 = .ok (.iconst 0, 1) := by decide +kernel
theorem dX5_lots_84 : decode cX5_lots 84 = .ok (.istore 8, 2) := by decide +kernel
theorem dX5_lots_86 : decode cX5_lots 86 = .ok (.aload_n 0, 1) := by decide +kernel
theorem dX5_lots_87 : decode cX5_lots 87 = .ok (.getfield 10, 3) := by decide +kernel
theorem dX5_lots_90 : decode cX5_lots 90 = .ok (.getfield 153, 3) := by decide +kernel
theorem dX5_lots_93 : decode cX5_lots 93 = .ok (.ifCond .le 24, 3) := by decide +kernel
theorem dX5_lots_96 : decode cX5_lots 96 = .ok (.iload 4, 2) := by decide +kernel
theorem dX5_lots_98 : decode cX5_lots 98 = .ok (.invokestatic 225, 3) := by decide +kernel
theorem dX5_lots_101 : decode cX5_lots 101 = .ok (.istore 4, 2) := by decide +kernel
theorem dX5_lots_103 : decode cX5_lots 103 = .ok (.iload 4, 2) := by decide +kernel
theorem dX5_lots_105 : decode cX5_lots 105 = .ok (.aload_n 0, 1) := by decide +kernel
theorem dX5_lots_106 : decode cX5_lots 106 = .ok (.getfield 10, 3) := by decide +kernel
theorem dX5_lots_109 : decode cX5_lots 109 = .ok (.getfield 153, 3) := by decide +kernel
theorem dX5_lots_112 : decode cX5_lots 112 = .ok (.invokestatic 228, 3) := by decide +kernel
theorem dX5_lots_115 : decode cX5_lots 115 = .ok (.istore 8, 2) := by decide +kernel
theorem dX5_lots_117 : decode cX5_lots 117 = .ok (.aload_n 0, 1) := by decide +kernel
theorem dX5_lots_118 : decode cX5_lots 118 = .ok (.iload 7, 2) := by decide +kernel
theorem dX5_lots_120 : decode cX5_lots 120 = .ok (.iload 8, 2) := by decide +kernel
theorem dX5_lots_122 : decode cX5_lots 122 = .ok (.invokevirtual 168, 3) := by decide +kernel
theorem dX5_lots_125 : decode cX5_lots 125 = .ok (.istore 9, 2) := by decide +kernel
theorem dX5_lots_127 : decode cX5_lots 127 = .ok (.iload 5, 2) := by decide +kernel
theorem dX5_lots_129 : decode cX5_lots 129 = .ok (.iload_n 3, 1) := by decide +kernel
theorem dX5_lots_130 : decode cX5_lots 130 = .ok (.ifCond .ne 8, 3) := by decide +kernel
theorem dX5_lots_133 : decode cX5_lots 133 = .ok (.iload 9, 2) := by decide +kernel
theorem dX5_lots_135 : decode cX5_lots 135 = .ok (.goto 10, 3) := by decide +kernel
theorem dX5_lots_138 : decode cX5_lots 138 = .ok (.aload_n 0, 1) := by decide +kernel
theorem dX5_lots_139 : decode cX5_lots 139 = .ok (.getfield 25, 3) := by decide +kernel
theorem dX5_lots_142 : decode cX5_lots 142 = .ok (.invokevirtual 135, 3) := by decide +kernel
theorem dX5_lots_145 : decode cX5_lots 145 = .ok (.iadd, 1) := by decide +kernel
theorem dX5_lots_146 : decode cX5_lots 146 = .ok (.istore 5, 2) := by decide +kernel
theorem dX5_lots_148 : decode cX5_lots 148 = .ok (.iinc 6 1, 3) := by decide +kernel
theorem dX5_lots_151 : decode cX5_lots 151 = .ok (.goto (-90), 3) := by decide +kernel
theorem dX5_lots_154 : decode cX5_lots 154 = .ok (.iload 5, 2) := by decide +kernel
theorem dX5_lots_156 : decode cX5_lots 156 = .ok (.ireturn, 1) := by decide +kernel
theorem dX5_image_0 : decode cX5_image 0 = .ok (.aload_n 0, 1) := by decide +kernel
theorem dX5_image_1 : decode cX5_image 1 = .ok (.getfield 16, 3) := by decide +kernel
theorem dX5_image_4 : decode cX5_image 4 = .ok (.aload_n 0, 1) := by decide +kernel
theorem dX5_image_5 : decode cX5_image 5 = .ok (.getfield 10, 3) := by decide +kernel
theorem dX5_image_8 : decode cX5_image 8 = .ok (.invokevirtual 67, 3) := by decide +kernel
theorem dX5_image_11 : decode cX5_image 11 = .ok (.aload_n 0, 1) := by decide +kernel
theorem dX5_image_12 : decode cX5_image 12 = .ok (.iconst 1, 1) := by decide +kernel
theorem dX5_image_13 : decode cX5_image 13 = .ok (.putfield 49, 3) := by decide +kernel
theorem dX5_image_16 : decode cX5_image 16 = .ok (.aload_n 0, 1) := by decide +kernel
theorem dX5_image_17 : decode cX5_image 17 = .ok (.getfield 10, 3) := by decide +kernel
theorem dX5_image_20 : decode cX5_image 20 = .ok (.getfield 118, 3) := by decide +kernel
theorem dX5_image_23 : decode cX5_image 23 = .ok (.ireturn, 1) := by decide +kernel
theorem dX5_on_0 : decode cX5_on 0 = .ok (.aload_n 0, 1) := by decide +kernel
theorem dX5_on_1 : decode cX5_on 1 = .ok (.getfield 49, 3) := by decide +kernel
theorem dX5_on_4 : decode cX5_on 4 = .ok (.ifCond .ne 10, 3) := by decide +kernel
theorem dX5_on_7 : decode cX5_on 7 = .ok (.aload_n 0, 1) := by decide +kernel
theorem dX5_on_8 : decode cX5_on 8 = .ok (.bipush (-3), 2) := by decide +kernel
theorem dX5_on_10 : decode cX5_on 10 = .ok (.invokevirtual 53, 3) := by decide +kernel
theorem dX5_on_13 : decode cX5_on 13 = .ok (.ireturn, 1) := by decide +kernel
theorem dX5_on_14 : decode cX5_on 14 = .ok (.aload_n 0, 1) := by decide +kernel
theorem dX5_on_15 : decode cX5_on 15 = .ok (.getfield 10, 3) := by decide +kernel
theorem dX5_on_18 : decode cX5_on 18 = .ok (.aload_n 0, 1) := by decide +kernel
theorem dX5_on_19 : decode cX5_on 19 = .ok (.getfield 16, 3) := by decide +kernel
theorem dX5_on_22 : decode cX5_on 22 = .ok (.invokevirtual 67, 3) := by decide +kernel
theorem dX5_on_25 : decode cX5_on 25 = .ok (.aload_n 0, 1) := by decide +kernel
theorem dX5_on_26 : decode cX5_on 26 = .ok (.getfield 10, 3) := by decide +kernel
theorem dX5_on_29 : decode cX5_on 29 = .ok (.getfield 118, 3) := by decide +kernel
theorem dX5_on_32 : decode cX5_on 32 = .ok (.ireturn, 1) := by decide +kernel
theorem dX5_count_0 : decode cX5_count 0 = .ok (.iload_n 1, 1) := by decide +kernel
theorem dX5_count_1 : decode cX5_count 1 = .ok (.tableswitch 114 0 7 #[47, 55, 63, 71, 79, 87, 95, 103], 47) := by decide +kernel
theorem dX5_count_48 : decode cX5_count 48 = .ok (.aload_n 0, 1) := by decide +kernel
theorem dX5_count_49 : decode cX5_count 49 = .ok (.getfield 10, 3) := by decide +kernel
theorem dX5_count_52 : decode cX5_count 52 = .ok (.getfield 153, 3) := by decide +kernel
theorem dX5_count_55 : decode cX5_count 55 = .ok (.ireturn, 1) := by decide +kernel
theorem dX5_count_56 : decode cX5_count 56 = .ok (.aload_n 0, 1) := by decide +kernel
theorem dX5_count_57 : decode cX5_count 57 = .ok (.getfield 10, 3) := by decide +kernel
theorem dX5_count_60 : decode cX5_count 60 = .ok (.getfield 118, 3) := by decide +kernel
theorem dX5_count_63 : decode cX5_count 63 = .ok (.ireturn, 1) := by decide +kernel
theorem dX5_count_64 : decode cX5_count 64 = .ok (.aload_n 0, 1) := by decide +kernel
theorem dX5_count_65 : decode cX5_count 65 = .ok (.getfield 10, 3) := by decide +kernel
theorem dX5_count_68 : decode cX5_count 68 = .ok (.invokevirtual 231, 3) := by decide +kernel
theorem dX5_count_71 : decode cX5_count 71 = .ok (.ireturn, 1) := by decide +kernel
theorem dX5_count_72 : decode cX5_count 72 = .ok (.aload_n 0, 1) := by decide +kernel
theorem dX5_count_73 : decode cX5_count 73 = .ok (.getfield 10, 3) := by decide +kernel
theorem dX5_count_76 : decode cX5_count 76 = .ok (.invokevirtual 234, 3) := by decide +kernel
theorem dX5_count_79 : decode cX5_count 79 = .ok (.ireturn, 1) := by decide +kernel
theorem dX5_count_80 : decode cX5_count 80 = .ok (.aload_n 0, 1) := by decide +kernel
theorem dX5_count_81 : decode cX5_count 81 = .ok (.getfield 10, 3) := by decide +kernel
theorem dX5_count_84 : decode cX5_count 84 = .ok (.invokevirtual 191, 3) := by decide +kernel
theorem dX5_count_87 : decode cX5_count 87 = .ok (.ireturn, 1) := by decide +kernel
theorem dX5_count_88 : decode cX5_count 88 = .ok (.aload_n 0, 1) := by decide +kernel
theorem dX5_count_89 : decode cX5_count 89 = .ok (.getfield 10, 3) := by decide +kernel
theorem dX5_count_92 : decode cX5_count 92 = .ok (.invokevirtual 237, 3) := by decide +kernel
theorem dX5_count_95 : decode cX5_count 95 = .ok (.ireturn, 1) := by decide +kernel
theorem dX5_count_96 : decode cX5_count 96 = .ok (.aload_n 0, 1) := by decide +kernel
theorem dX5_count_97 : decode cX5_count 97 = .ok (.getfield 41, 3) := by decide +kernel
theorem dX5_count_100 : decode cX5_count 100 = .ok (.getfield 213, 3) := by decide +kernel
theorem dX5_count_103 : decode cX5_count 103 = .ok (.ireturn, 1) := by decide +kernel
theorem dX5_count_104 : decode cX5_count 104 = .ok (.aload_n 0, 1) := by decide +kernel
theorem dX5_count_105 : decode cX5_count 105 = .ok (.getfield 32, 3) := by decide +kernel
theorem dX5_count_108 : decode cX5_count 108 = .ok (.getfield 57, 3) := by decide +kernel
theorem dX5_count_111 : decode cX5_count 111 = .ok (.getfield 213, 3) := by decide +kernel
theorem dX5_count_114 : decode cX5_count 114 = .ok (.ireturn, 1) := by decide +kernel
theorem dX5_count_115 : decode cX5_count 115 = .ok (.iload_n 1, 1) := by decide +kernel
theorem dX5_count_116 : decode cX5_count 116 = .ok (.bipush 10, 2) := by decide +kernel
theorem dX5_count_118 : decode cX5_count 118 = .ok (.if_icmp .le 21, 3) := by decide +kernel
theorem dX5_count_121 : decode cX5_count 121 = .ok (.iload_n 1, 1) := by decide +kernel
theorem dX5_count_122 : decode cX5_count 122 = .ok (.bipush 16, 2) := by decide +kernel
theorem dX5_count_124 : decode cX5_count 124 = .ok (.if_icmp .gt 15, 3) := by decide +kernel
theorem dX5_count_127 : decode cX5_count 127 = .ok (.aload_n 0, 1) := by decide +kernel
theorem dX5_count_128 : decode cX5_count 128 = .ok (.getfield 45, 3) := by decide +kernel
theorem dX5_count_131 : decode cX5_count 131 = .ok (.iload_n 1, 1) := by decide +kernel
theorem dX5_count_132 : decode cX5_count 132 = .ok (.bipush 10, 2) := by decide +kernel
theorem dX5_count_134 : decode cX5_count 134 = .ok (.isub, 1) := by decide +kernel
theorem dX5_count_135 : decode cX5_count 135 = .ok (.iaload, 1) := by decide +kernel
theorem dX5_count_136 : decode cX5_count 136 = .ok (.goto 5, 3) := by decide +kernel
theorem dX5_count_139 : decode cX5_count 139 = .ok (.bipush (-9), 2) := by decide +kernel
theorem dX5_count_141 : decode cX5_count 141 = .ok (.ireturn, 1) := by decide +kernel
theorem dX5_refuse_0 : decode cX5_refuse 0 = .ok (.iload_n 1, 1) := by decide +kernel
theorem dX5_refuse_1 : decode cX5_refuse 1 = .ok (.ineg, 1) := by decide +kernel
theorem dX5_refuse_2 : decode cX5_refuse 2 = .ok (.istore_n 2, 1) := by decide +kernel
theorem dX5_refuse_3 : decode cX5_refuse 3 = .ok (.iload_n 2, 1) := by decide +kernel
theorem dX5_refuse_4 : decode cX5_refuse 4 = .ok (.iconst 1, 1) := by decide +kernel
theorem dX5_refuse_5 : decode cX5_refuse 5 = .ok (.if_icmp .lt 19, 3) := by decide +kernel
theorem dX5_refuse_8 : decode cX5_refuse 8 = .ok (.iload_n 2, 1) := by decide +kernel
theorem dX5_refuse_9 : decode cX5_refuse 9 = .ok (.bipush 6, 2) := by decide +kernel
theorem dX5_refuse_11 : decode cX5_refuse 11 = .ok (.if_icmp .gt 13, 3) := by decide +kernel
theorem dX5_refuse_14 : decode cX5_refuse 14 = .ok (.aload_n 0, 1) := by decide +kernel
theorem dX5_refuse_15 : decode cX5_refuse 15 = .ok (.getfield 45, 3) := by decide +kernel
theorem dX5_refuse_18 : decode cX5_refuse 18 = .ok (.iload_n 2, 1) := by decide +kernel
theorem dX5_refuse_19 : decode cX5_refuse 19 = .ok (.dup2, 1) := by decide +kernel
theorem dX5_refuse_20 : decode cX5_refuse 20 = .ok (.iaload, 1) := by decide +kernel
theorem dX5_refuse_21 : decode cX5_refuse 21 = .ok (.iconst 1, 1) := by decide +kernel
theorem dX5_refuse_22 : decode cX5_refuse 22 = .ok (.iadd, 1) := by decide +kernel
theorem dX5_refuse_23 : decode cX5_refuse 23 = .ok (.iastore, 1) := by decide +kernel
theorem dX5_refuse_24 : decode cX5_refuse 24 = .ok (.iload_n 1, 1) := by decide +kernel
theorem dX5_refuse_25 : decode cX5_refuse 25 = .ok (.ireturn, 1) := by decide +kernel
theorem dX5_refuseLong_0 : decode cX5_refuseLong 0 = .ok (.ldc2_w 240, 3) := by decide +kernel
theorem dX5_refuseLong_3 : decode cX5_refuseLong 3 = .ok (.aload_n 0, 1) := by decide +kernel
theorem dX5_refuseLong_4 : decode cX5_refuseLong 4 = .ok (.iload_n 1, 1) := by decide +kernel
theorem dX5_refuseLong_5 : decode cX5_refuseLong 5 = .ok (.invokevirtual 53, 3) := by decide +kernel
theorem dX5_refuseLong_8 : decode cX5_refuseLong 8 = .ok (.i2l, 1) := by decide +kernel
theorem dX5_refuseLong_9 : decode cX5_refuseLong 9 = .ok (.lsub, 1) := by decide +kernel
theorem dX5_refuseLong_10 : decode cX5_refuseLong 10 = .ok (.lreturn, 1) := by decide +kernel
theorem dX5_isRoom_0 : decode cX5_isRoom 0 = .ok (.iload_n 0, 1) := by decide +kernel
theorem dX5_isRoom_1 : decode cX5_isRoom 1 = .ok (.ifCond .lt 13, 3) := by decide +kernel
theorem dX5_isRoom_4 : decode cX5_isRoom 4 = .ok (.iload_n 0, 1) := by decide +kernel
theorem dX5_isRoom_5 : decode cX5_isRoom 5 = .ok (.bipush 25, 2) := by decide +kernel
theorem dX5_isRoom_7 : decode cX5_isRoom 7 = .ok (.if_icmp .ge 7, 3) := by decide +kernel
theorem dX5_isRoom_10 : decode cX5_isRoom 10 = .ok (.iconst 1, 1) := by decide +kernel
theorem dX5_isRoom_11 : decode cX5_isRoom 11 = .ok (.goto 4, 3) := by decide +kernel
theorem dX5_isRoom_14 : decode cX5_isRoom 14 = .ok (.iconst 0, 1) := by decide +kernel
theorem dX5_isRoom_15 : decode cX5_isRoom 15 = .ok (.ireturn, 1) := by decide +kernel
theorem dX5_isPerson_0 : decode cX5_isPerson 0 = .ok (.aload_n 0, 1) := by decide +kernel
theorem dX5_isPerson_1 : decode cX5_isPerson 1 = .ok (.getfield 10, 3) := by decide +kernel
theorem dX5_isPerson_4 : decode cX5_isPerson 4 = .ok (.iload_n 1, 1) := by decide +kernel
theorem dX5_isPerson_5 : decode cX5_isPerson 5 = .ok (.invokevirtual 242, 3) := by decide +kernel
theorem dX5_isPerson_8 : decode cX5_isPerson 8 = .ok (.ireturn, 1) := by decide +kernel
theorem dX5_isSpeaker_0 : decode cX5_isSpeaker 0 = .ok (.aload_n 0, 1) := by decide +kernel
theorem dX5_isSpeaker_1 : decode cX5_isSpeaker 1 = .ok (.getfield 10, 3) := by decide +kernel
theorem dX5_isSpeaker_4 : decode cX5_isSpeaker 4 = .ok (.getfield 153, 3) := by decide +kernel
theorem dX5_isSpeaker_7 : decode cX5_isSpeaker 7 = .ok (.ifCond .ne 15, 3) := by decide +kernel
theorem dX5_isSpeaker_10 : decode cX5_isSpeaker 10 = .ok (.iload_n 1, 1) := by decide +kernel
theorem dX5_isSpeaker_11 : decode cX5_isSpeaker 11 = .ok (.ifCond .ne 7, 3) := by decide +kernel
theorem dX5_isSpeaker_14 : decode cX5_isSpeaker 14 = .ok (.iconst 1, 1) := by decide +kernel
theorem dX5_isSpeaker_15 : decode cX5_isSpeaker 15 = .ok (.goto 12, 3) := by decide +kernel
theorem dX5_isSpeaker_18 : decode cX5_isSpeaker 18 = .ok (.iconst 0, 1) := by decide +kernel
theorem dX5_isSpeaker_19 : decode cX5_isSpeaker 19 = .ok (.goto 8, 3) := by decide +kernel
theorem dX5_isSpeaker_22 : decode cX5_isSpeaker 22 = .ok (.aload_n 0, 1) := by decide +kernel
theorem dX5_isSpeaker_23 : decode cX5_isSpeaker 23 = .ok (.iload_n 1, 1) := by decide +kernel
theorem dX5_isSpeaker_24 : decode cX5_isSpeaker 24 = .ok (.invokevirtual 97, 3) := by decide +kernel
theorem dX5_isSpeaker_27 : decode cX5_isSpeaker 27 = .ok (.ireturn, 1) := by decide +kernel
theorem dX5_burnAsNow_0 : decode cX5_burnAsNow 0 = .ok (.aload_n 0, 1) := by decide +kernel
theorem dX5_burnAsNow_1 : decode cX5_burnAsNow 1 = .ok (.getfield 25, 3) := by decide +kernel
theorem dX5_burnAsNow_4 : decode cX5_burnAsNow 4 = .ok (.aload_n 0, 1) := by decide +kernel
theorem dX5_burnAsNow_5 : decode cX5_burnAsNow 5 = .ok (.getfield 10, 3) := by decide +kernel
theorem dX5_burnAsNow_8 : decode cX5_burnAsNow 8 = .ok (.invokevirtual 159, 3) := by decide +kernel
theorem dX5_burnAsNow_11 : decode cX5_burnAsNow 11 = .ok (.aload_n 0, 1) := by decide +kernel
theorem dX5_burnAsNow_12 : decode cX5_burnAsNow 12 = .ok (.getfield 25, 3) := by decide +kernel
theorem dX5_burnAsNow_15 : decode cX5_burnAsNow 15 = .ok (.iload_n 2, 1) := by decide +kernel
theorem dX5_burnAsNow_16 : decode cX5_burnAsNow 16 = .ok (.invokevirtual 245, 3) := by decide +kernel
theorem dX5_burnAsNow_19 : decode cX5_burnAsNow 19 = .ok (.aload_n 0, 1) := by decide +kernel
theorem dX5_burnAsNow_20 : decode cX5_burnAsNow 20 = .ok (.getfield 25, 3) := by decide +kernel
theorem dX5_burnAsNow_23 : decode cX5_burnAsNow 23 = .ok (.iload_n 1, 1) := by decide +kernel
theorem dX5_burnAsNow_24 : decode cX5_burnAsNow 24 = .ok (.iconst 0, 1) := by decide +kernel
theorem dX5_burnAsNow_25 : decode cX5_burnAsNow 25 = .ok (.invokevirtual 248, 3) := by decide +kernel
theorem dX5_burnAsNow_28 : decode cX5_burnAsNow 28 = .ok (.return_, 1) := by decide +kernel
theorem dX5_worthIn_0 : decode cX5_worthIn 0 = .ok (.aload_n 0, 1) := by decide +kernel
theorem dX5_worthIn_1 : decode cX5_worthIn 1 = .ok (.getfield 25, 3) := by decide +kernel
theorem dX5_worthIn_4 : decode cX5_worthIn 4 = .ok (.aload_n 1, 1) := by decide +kernel
theorem dX5_worthIn_5 : decode cX5_worthIn 5 = .ok (.invokevirtual 159, 3) := by decide +kernel
theorem dX5_worthIn_8 : decode cX5_worthIn 8 = .ok (.aload_n 0, 1) := by decide +kernel
theorem dX5_worthIn_9 : decode cX5_worthIn 9 = .ok (.iload_n 2, 1) := by decide +kernel
theorem dX5_worthIn_10 : decode cX5_worthIn 10 = .ok (.iconst 0, 1) := by decide +kernel
theorem dX5_worthIn_11 : decode cX5_worthIn 11 = .ok (.invokevirtual 168, 3) := by decide +kernel
theorem dX5_worthIn_14 : decode cX5_worthIn 14 = .ok (.ireturn, 1) := by decide +kernel
theorem dX5_worthBy_0 : decode cX5_worthBy 0 = .ok (.aload_n 0, 1) := by decide +kernel
theorem dX5_worthBy_1 : decode cX5_worthBy 1 = .ok (.getfield 25, 3) := by decide +kernel
theorem dX5_worthBy_4 : decode cX5_worthBy 4 = .ok (.iload_n 2, 1) := by decide +kernel
theorem dX5_worthBy_5 : decode cX5_worthBy 5 = .ok (.invokevirtual 245, 3) := by decide +kernel
theorem dX5_worthBy_8 : decode cX5_worthBy 8 = .ok (.aload_n 0, 1) := by decide +kernel
theorem dX5_worthBy_9 : decode cX5_worthBy 9 = .ok (.getfield 25, 3) := by decide +kernel
theorem dX5_worthBy_12 : decode cX5_worthBy 12 = .ok (.iload_n 1, 1) := by decide +kernel
theorem dX5_worthBy_13 : decode cX5_worthBy 13 = .ok (.iconst 0, 1) := by decide +kernel
theorem dX5_worthBy_14 : decode cX5_worthBy 14 = .ok (.invokevirtual 248, 3) := by decide +kernel
theorem dX5_worthBy_17 : decode cX5_worthBy 17 = .ok (.aload_n 0, 1) := by decide +kernel
theorem dX5_worthBy_18 : decode cX5_worthBy 18 = .ok (.getfield 25, 3) := by decide +kernel
theorem dX5_worthBy_21 : decode cX5_worthBy 21 = .ok (.invokevirtual 138, 3) := by decide +kernel
theorem dX5_worthBy_24 : decode cX5_worthBy 24 = .ok (.ireturn, 1) := by decide +kernel
theorem dX5_worthWithOnly_0 : decode cX5_worthWithOnly 0 = .ok (.aload_n 0, 1) := by decide +kernel
theorem dX5_worthWithOnly_1 : decode cX5_worthWithOnly 1 = .ok (.getfield 25, 3) := by decide +kernel
theorem dX5_worthWithOnly_4 : decode cX5_worthWithOnly 4 = .ok (.iconst 0, 1) := by decide +kernel
theorem dX5_worthWithOnly_5 : decode cX5_worthWithOnly 5 = .ok (.iload_n 2, 1) := by decide +kernel
theorem dX5_worthWithOnly_6 : decode cX5_worthWithOnly 6 = .ok (.invokevirtual 251, 3) := by decide +kernel
theorem dX5_worthWithOnly_9 : decode cX5_worthWithOnly 9 = .ok (.aload_n 0, 1) := by decide +kernel
theorem dX5_worthWithOnly_10 : decode cX5_worthWithOnly 10 = .ok (.getfield 25, 3) := by decide +kernel
theorem dX5_worthWithOnly_13 : decode cX5_worthWithOnly 13 = .ok (.iload_n 1, 1) := by decide +kernel
theorem dX5_worthWithOnly_14 : decode cX5_worthWithOnly 14 = .ok (.iconst 0, 1) := by decide +kernel
theorem dX5_worthWithOnly_15 : decode cX5_worthWithOnly 15 = .ok (.invokevirtual 248, 3) := by decide +kernel
theorem dX5_worthWithOnly_18 : decode cX5_worthWithOnly 18 = .ok (.aload_n 0, 1) := by decide +kernel
theorem dX5_worthWithOnly_19 : decode cX5_worthWithOnly 19 = .ok (.getfield 25, 3) := by decide +kernel
theorem dX5_worthWithOnly_22 : decode cX5_worthWithOnly 22 = .ok (.invokevirtual 138, 3) := by decide +kernel
theorem dX5_worthWithOnly_25 : decode cX5_worthWithOnly 25 = .ok (.ireturn, 1) := by decide +kernel
theorem dX5_bestAgainst_0 : decode cX5_bestAgainst 0 = .ok (.aload_n 0, 1) := by decide +kernel
theorem dX5_bestAgainst_1 : decode cX5_bestAgainst 1 = .ok (.getfield 25, 3) := by decide +kernel
theorem dX5_bestAgainst_4 : decode cX5_bestAgainst 4 = .ok (.aload_n 0, 1) := by decide +kernel
theorem dX5_bestAgainst_5 : decode cX5_bestAgainst 5 = .ok (.getfield 10, 3) := by decide +kernel
theorem dX5_bestAgainst_8 : decode cX5_bestAgainst 8 = .ok (.invokevirtual 159, 3) := by decide +kernel
theorem dX5_bestAgainst_11 : decode cX5_bestAgainst 11 = .ok (.bipush (-9), 2) := by decide +kernel
theorem dX5_bestAgainst_13 : decode cX5_bestAgainst 13 = .ok (.istore_n 3, 1) := by decide +kernel
theorem dX5_bestAgainst_14 : decode cX5_bestAgainst 14 = .ok (.iconst 0, 1) := by decide +kernel
theorem dX5_bestAgainst_15 : decode cX5_bestAgainst 15 = .ok (.istore 4, 2) := by decide +kernel
theorem dX5_bestAgainst_17 : decode cX5_bestAgainst 17 = .ok (.iconst 0, 1) := by decide +kernel
theorem dX5_bestAgainst_18 : decode cX5_bestAgainst 18 = .ok (.istore 5, 2) := by decide +kernel
theorem dX5_bestAgainst_20 : decode cX5_bestAgainst 20 = .ok (.iload 5, 2) := by decide +kernel
theorem dX5_bestAgainst_22 : decode cX5_bestAgainst 22 = .ok (.aload_n 0, 1) := by decide +kernel
theorem dX5_bestAgainst_23 : decode cX5_bestAgainst 23 = .ok (.getfield 10, 3) := by decide +kernel
theorem dX5_bestAgainst_26 : decode cX5_bestAgainst 26 = .ok (.getfield 153, 3) := by decide +kernel
theorem dX5_bestAgainst_29 : decode cX5_bestAgainst 29 = .ok (.if_icmp .ge 48, 3) := by decide +kernel
theorem dX5_bestAgainst_32 : decode cX5_bestAgainst 32 = .ok (.aload_n 0, 1) := by decide +kernel
theorem dX5_bestAgainst_33 : decode cX5_bestAgainst 33 = .ok (.iload_n 1, 1) := by decide +kernel
theorem dX5_bestAgainst_34 : decode cX5_bestAgainst 34 = .ok (.iload 5, 2) := by decide +kernel
theorem dX5_bestAgainst_36 : decode cX5_bestAgainst 36 = .ok (.invokevirtual 168, 3) := by decide +kernel
theorem dX5_bestAgainst_39 : decode cX5_bestAgainst 39 = .ok (.aload_n 0, 1) := by decide +kernel
theorem dX5_bestAgainst_40 : decode cX5_bestAgainst 40 = .ok (.iload_n 2, 1) := by decide +kernel
theorem dX5_bestAgainst_41 : decode cX5_bestAgainst 41 = .ok (.iload 5, 2) := by decide +kernel
theorem dX5_bestAgainst_43 : decode cX5_bestAgainst 43 = .ok (.invokevirtual 168, 3) := by decide +kernel
theorem dX5_bestAgainst_46 : decode cX5_bestAgainst 46 = .ok (.invokestatic 180, 3) := by decide +kernel
theorem dX5_bestAgainst_49 : decode cX5_bestAgainst 49 = .ok (.istore 6, 2) := by decide +kernel
theorem dX5_bestAgainst_51 : decode cX5_bestAgainst 51 = .ok (.iload_n 3, 1) := by decide +kernel
theorem dX5_bestAgainst_52 : decode cX5_bestAgainst 52 = .ok (.bipush (-9), 2) := by decide +kernel
theorem dX5_bestAgainst_54 : decode cX5_bestAgainst 54 = .ok (.if_icmp .eq 10, 3) := by decide +kernel
theorem dX5_bestAgainst_57 : decode cX5_bestAgainst 57 = .ok (.iload 6, 2) := by decide +kernel
theorem dX5_bestAgainst_59 : decode cX5_bestAgainst 59 = .ok (.iload 4, 2) := by decide +kernel
theorem dX5_bestAgainst_61 : decode cX5_bestAgainst 61 = .ok (.if_icmp .ge 10, 3) := by decide +kernel
theorem dX5_bestAgainst_64 : decode cX5_bestAgainst 64 = .ok (.iload 6, 2) := by decide +kernel
theorem dX5_bestAgainst_66 : decode cX5_bestAgainst 66 = .ok (.istore 4, 2) := by decide +kernel
theorem dX5_bestAgainst_68 : decode cX5_bestAgainst 68 = .ok (.iload 5, 2) := by decide +kernel
theorem dX5_bestAgainst_70 : decode cX5_bestAgainst 70 = .ok (.istore_n 3, 1) := by decide +kernel
theorem dX5_bestAgainst_71 : decode cX5_bestAgainst 71 = .ok (.iinc 5 1, 3) := by decide +kernel
theorem dX5_bestAgainst_74 : decode cX5_bestAgainst 74 = .ok (.goto (-54), 3) := by decide +kernel
theorem dX5_bestAgainst_77 : decode cX5_bestAgainst 77 = .ok (.iload_n 3, 1) := by decide +kernel
theorem dX5_bestAgainst_78 : decode cX5_bestAgainst 78 = .ok (.ireturn, 1) := by decide +kernel
theorem dX5_slipsWithin_0 : decode cX5_slipsWithin 0 = .ok (.aload_n 0, 1) := by decide +kernel
theorem dX5_slipsWithin_1 : decode cX5_slipsWithin 1 = .ok (.getfield 25, 3) := by decide +kernel
theorem dX5_slipsWithin_4 : decode cX5_slipsWithin 4 = .ok (.aload_n 0, 1) := by decide +kernel
theorem dX5_slipsWithin_5 : decode cX5_slipsWithin 5 = .ok (.getfield 10, 3) := by decide +kernel
theorem dX5_slipsWithin_8 : decode cX5_slipsWithin 8 = .ok (.invokevirtual 159, 3) := by decide +kernel
theorem dX5_slipsWithin_11 : decode cX5_slipsWithin 11 = .ok (.aload_n 0, 1) := by decide +kernel
theorem dX5_slipsWithin_12 : decode cX5_slipsWithin 12 = .ok (.getfield 25, 3) := by decide +kernel
theorem dX5_slipsWithin_15 : decode cX5_slipsWithin 15 = .ok (.iconst 0, 1) := by decide +kernel
theorem dX5_slipsWithin_16 : decode cX5_slipsWithin 16 = .ok (.invokevirtual 245, 3) := by decide +kernel
theorem dX5_slipsWithin_19 : decode cX5_slipsWithin 19 = .ok (.lconst 0, 1) := by decide +kernel
theorem dX5_slipsWithin_20 : decode cX5_slipsWithin 20 = .ok (.lstore 5, 2) := by decide +kernel
theorem dX5_slipsWithin_22 : decode cX5_slipsWithin 22 = .ok (.iconst 0, 1) := by decide +kernel
theorem dX5_slipsWithin_23 : decode cX5_slipsWithin 23 = .ok (.istore 7, 2) := by decide +kernel
theorem dX5_slipsWithin_25 : decode cX5_slipsWithin 25 = .ok (.iload 7, 2) := by decide +kernel
theorem dX5_slipsWithin_27 : decode cX5_slipsWithin 27 = .ok (.iconst 1, 1) := by decide +kernel
theorem dX5_slipsWithin_28 : decode cX5_slipsWithin 28 = .ok (.iload_n 2, 1) := by decide +kernel
theorem dX5_slipsWithin_29 : decode cX5_slipsWithin 29 = .ok (.ishl, 1) := by decide +kernel
theorem dX5_slipsWithin_30 : decode cX5_slipsWithin 30 = .ok (.if_icmp .ge 49, 3) := by decide +kernel
theorem dX5_slipsWithin_33 : decode cX5_slipsWithin 33 = .ok (.aload_n 0, 1) := by decide +kernel
theorem dX5_slipsWithin_34 : decode cX5_slipsWithin 34 = .ok (.getfield 25, 3) := by decide +kernel
theorem dX5_slipsWithin_37 : decode cX5_slipsWithin 37 = .ok (.iload_n 1, 1) := by decide +kernel
theorem dX5_slipsWithin_38 : decode cX5_slipsWithin 38 = .ok (.iload 7, 2) := by decide +kernel
theorem dX5_slipsWithin_40 : decode cX5_slipsWithin 40 = .ok (.invokevirtual 248, 3) := by decide +kernel
theorem dX5_slipsWithin_43 : decode cX5_slipsWithin 43 = .ok (.aload_n 0, 1) := by decide +kernel
theorem dX5_slipsWithin_44 : decode cX5_slipsWithin 44 = .ok (.getfield 25, 3) := by decide +kernel
theorem dX5_slipsWithin_47 : decode cX5_slipsWithin 47 = .ok (.invokevirtual 138, 3) := by decide +kernel
theorem dX5_slipsWithin_50 : decode cX5_slipsWithin 50 = .ok (.iload 4, 2) := by decide +kernel
theorem dX5_slipsWithin_52 : decode cX5_slipsWithin 52 = .ok (.if_icmp .gt 21, 3) := by decide +kernel
theorem dX5_slipsWithin_55 : decode cX5_slipsWithin 55 = .ok (.lload 5, 2) := by decide +kernel
theorem dX5_slipsWithin_57 : decode cX5_slipsWithin 57 = .ok (.iload_n 3, 1) := by decide +kernel
theorem dX5_slipsWithin_58 : decode cX5_slipsWithin 58 = .ok (.iconst 1, 1) := by decide +kernel
theorem dX5_slipsWithin_59 : decode cX5_slipsWithin 59 = .ok (.isub, 1) := by decide +kernel
theorem dX5_slipsWithin_60 : decode cX5_slipsWithin 60 = .ok (.iload_n 2, 1) := by decide +kernel
theorem dX5_slipsWithin_61 : decode cX5_slipsWithin 61 = .ok (.iload 7, 2) := by decide +kernel
theorem dX5_slipsWithin_63 : decode cX5_slipsWithin 63 = .ok (.invokestatic 175, 3) := by decide +kernel
theorem dX5_slipsWithin_66 : decode cX5_slipsWithin 66 = .ok (.isub, 1) := by decide +kernel
theorem dX5_slipsWithin_67 : decode cX5_slipsWithin 67 = .ok (.invokestatic 202, 3) := by decide +kernel
theorem dX5_slipsWithin_70 : decode cX5_slipsWithin 70 = .ok (.ladd, 1) := by decide +kernel
theorem dX5_slipsWithin_71 : decode cX5_slipsWithin 71 = .ok (.lstore 5, 2) := by decide +kernel
theorem dX5_slipsWithin_73 : decode cX5_slipsWithin 73 = .ok (.iinc 7 1, 3) := by decide +kernel
theorem dX5_slipsWithin_76 : decode cX5_slipsWithin 76 = .ok (.goto (-51), 3) := by decide +kernel
theorem dX5_slipsWithin_79 : decode cX5_slipsWithin 79 = .ok (.lload 5, 2) := by decide +kernel
theorem dX5_slipsWithin_81 : decode cX5_slipsWithin 81 = .ok (.lreturn, 1) := by decide +kernel
theorem dX5_power_0 : decode cX5_power 0 = .ok (.lconst 1, 1) := by decide +kernel
theorem dX5_power_1 : decode cX5_power 1 = .ok (.lstore_n 2, 1) := by decide +kernel
theorem dX5_power_2 : decode cX5_power 2 = .ok (.iconst 0, 1) := by decide +kernel
theorem dX5_power_3 : decode cX5_power 3 = .ok (.istore 4, 2) := by decide +kernel
theorem dX5_power_5 : decode cX5_power 5 = .ok (.iload 4, 2) := by decide +kernel
theorem dX5_power_7 : decode cX5_power 7 = .ok (.iload_n 1, 1) := by decide +kernel
theorem dX5_power_8 : decode cX5_power 8 = .ok (.if_icmp .ge 14, 3) := by decide +kernel
theorem dX5_power_11 : decode cX5_power 11 = .ok (.lload_n 2, 1) := by decide +kernel
theorem dX5_power_12 : decode cX5_power 12 = .ok (.iload_n 0, 1) := by decide +kernel
theorem dX5_power_13 : decode cX5_power 13 = .ok (.i2l, 1) := by decide +kernel
theorem dX5_power_14 : decode cX5_power 14 = .ok (.lmul, 1) := by decide +kernel
theorem dX5_power_15 : decode cX5_power 15 = .ok (.lstore_n 2, 1) := by decide +kernel
theorem dX5_power_16 : decode cX5_power 16 = .ok (.iinc 4 1, 3) := by decide +kernel
theorem dX5_power_19 : decode cX5_power 19 = .ok (.goto (-14), 3) := by decide +kernel
theorem dX5_power_22 : decode cX5_power 22 = .ok (.lload_n 2, 1) := by decide +kernel
theorem dX5_power_23 : decode cX5_power 23 = .ok (.lreturn, 1) := by decide +kernel
theorem dX5_commonDivisor_0 : decode cX5_commonDivisor 0 = .ok (.lload_n 0, 1) := by decide +kernel
theorem dX5_commonDivisor_1 : decode cX5_commonDivisor 1 = .ok (.lstore 4, 2) := by decide +kernel
theorem dX5_commonDivisor_3 : decode cX5_commonDivisor 3 = .ok (.lload_n 2, 1) := by decide +kernel
theorem dX5_commonDivisor_4 : decode cX5_commonDivisor 4 = .ok (.lstore 6, 2) := by decide +kernel
theorem dX5_commonDivisor_6 : decode cX5_commonDivisor 6 = .ok (.iconst 0, 1) := by decide +kernel
theorem dX5_commonDivisor_7 : decode cX5_commonDivisor 7 = .ok (.istore 8, 2) := by decide +kernel
theorem dX5_commonDivisor_9 : decode cX5_commonDivisor 9 = .ok (.iload 8, 2) := by decide +kernel
theorem dX5_commonDivisor_11 : decode cX5_commonDivisor 11 = .ok (.sipush 200, 3) := by decide +kernel
theorem dX5_commonDivisor_14 : decode cX5_commonDivisor 14 = .ok (.if_icmp .ge 31, 3) := by decide +kernel
theorem dX5_commonDivisor_17 : decode cX5_commonDivisor 17 = .ok (.lload 6, 2) := by decide +kernel
theorem dX5_commonDivisor_19 : decode cX5_commonDivisor 19 = .ok (.lconst 0, 1) := by decide +kernel
theorem dX5_commonDivisor_20 : decode cX5_commonDivisor 20 = .ok (.lcmp, 1) := by decide +kernel
theorem dX5_commonDivisor_21 : decode cX5_commonDivisor 21 = .ok (.ifCond .eq 24, 3) := by decide +kernel
theorem dX5_commonDivisor_24 : decode cX5_commonDivisor 24 = .ok (.lload 4, 2) := by decide +kernel
theorem dX5_commonDivisor_26 : decode cX5_commonDivisor 26 = .ok (.lload 6, 2) := by decide +kernel
theorem dX5_commonDivisor_28 : decode cX5_commonDivisor 28 = .ok (.lrem, 1) := by decide +kernel
theorem dX5_commonDivisor_29 : decode cX5_commonDivisor 29 = .ok (.lstore 9, 2) := by decide +kernel
theorem dX5_commonDivisor_31 : decode cX5_commonDivisor 31 = .ok (.lload 6, 2) := by decide +kernel
theorem dX5_commonDivisor_33 : decode cX5_commonDivisor 33 = .ok (.lstore 4, 2) := by decide +kernel
theorem dX5_commonDivisor_35 : decode cX5_commonDivisor 35 = .ok (.lload 9, 2) := by decide +kernel
theorem dX5_commonDivisor_37 : decode cX5_commonDivisor 37 = .ok (.lstore 6, 2) := by decide +kernel
theorem dX5_commonDivisor_39 : decode cX5_commonDivisor 39 = .ok (.iinc 8 1, 3) := by decide +kernel
theorem dX5_commonDivisor_42 : decode cX5_commonDivisor 42 = .ok (.goto (-33), 3) := by decide +kernel
theorem dX5_commonDivisor_45 : decode cX5_commonDivisor 45 = .ok (.lload 4, 2) := by decide +kernel
theorem dX5_commonDivisor_47 : decode cX5_commonDivisor 47 = .ok (.lreturn, 1) := by decide +kernel
theorem dX5_burnsAsRowTells_0 : decode cX5_burnsAsRowTells 0 = .ok (.aload_n 0, 1) := by decide +kernel
theorem dX5_burnsAsRowTells_1 : decode cX5_burnsAsRowTells 1 = .ok (.getfield 25, 3) := by decide +kernel
theorem dX5_burnsAsRowTells_4 : decode cX5_burnsAsRowTells 4 = .ok (.aload_n 0, 1) := by decide +kernel
theorem dX5_burnsAsRowTells_5 : decode cX5_burnsAsRowTells 5 = .ok (.getfield 19, 3) := by decide +kernel
theorem dX5_burnsAsRowTells_8 : decode cX5_burnsAsRowTells 8 = .ok (.invokevirtual 159, 3) := by decide +kernel
theorem dX5_burnsAsRowTells_11 : decode cX5_burnsAsRowTells 11 = .ok (.aload_n 0, 1) := by decide +kernel
theorem dX5_burnsAsRowTells_12 : decode cX5_burnsAsRowTells 12 = .ok (.getfield 25, 3) := by decide +kernel
theorem dX5_burnsAsRowTells_15 : decode cX5_burnsAsRowTells 15 = .ok (.iconst 0, 1) := by decide +kernel
theorem dX5_burnsAsRowTells_16 : decode cX5_burnsAsRowTells 16 = .ok (.invokevirtual 245, 3) := by decide +kernel
theorem dX5_burnsAsRowTells_19 : decode cX5_burnsAsRowTells 19 = .ok (.aload_n 0, 1) := by decide +kernel
theorem dX5_burnsAsRowTells_20 : decode cX5_burnsAsRowTells 20 = .ok (.getfield 25, 3) := by decide +kernel
theorem dX5_burnsAsRowTells_23 : decode cX5_burnsAsRowTells 23 = .ok (.iload_n 1, 1) := by decide +kernel
theorem dX5_burnsAsRowTells_24 : decode cX5_burnsAsRowTells 24 = .ok (.iconst 0, 1) := by decide +kernel
theorem dX5_burnsAsRowTells_25 : decode cX5_burnsAsRowTells 25 = .ok (.invokevirtual 248, 3) := by decide +kernel
theorem dX5_burnsAsRowTells_28 : decode cX5_burnsAsRowTells 28 = .ok (.iconst 0, 1) := by decide +kernel
theorem dX5_burnsAsRowTells_29 : decode cX5_burnsAsRowTells 29 = .ok (.istore_n 2, 1) := by decide +kernel
theorem dX5_burnsAsRowTells_30 : decode cX5_burnsAsRowTells 30 = .ok (.iload_n 2, 1) := by decide +kernel
theorem dX5_burnsAsRowTells_31 : decode cX5_burnsAsRowTells 31 = .ok (.aload_n 0, 1) := by decide +kernel
theorem dX5_burnsAsRowTells_32 : decode cX5_burnsAsRowTells 32 = .ok (.getfield 41, 3) := by decide +kernel
theorem dX5_burnsAsRowTells_35 : decode cX5_burnsAsRowTells 35 = .ok (.getfield 213, 3) := by decide +kernel
theorem dX5_burnsAsRowTells_38 : decode cX5_burnsAsRowTells 38 = .ok (.if_icmp .ge 33, 3) := by decide +kernel
theorem dX5_burnsAsRowTells_41 : decode cX5_burnsAsRowTells 41 = .ok (.aload_n 0, 1) := by decide +kernel
theorem dX5_burnsAsRowTells_42 : decode cX5_burnsAsRowTells 42 = .ok (.getfield 41, 3) := by decide +kernel
theorem dX5_burnsAsRowTells_45 : decode cX5_burnsAsRowTells 45 = .ok (.iload_n 2, 1) := by decide +kernel
theorem dX5_burnsAsRowTells_46 : decode cX5_burnsAsRowTells 46 = .ok (.invokevirtual 216, 3) := by decide +kernel
theorem dX5_burnsAsRowTells_49 : decode cX5_burnsAsRowTells 49 = .ok (.aload_n 0, 1) := by decide +kernel
theorem dX5_burnsAsRowTells_50 : decode cX5_burnsAsRowTells 50 = .ok (.getfield 25, 3) := by decide +kernel
theorem dX5_burnsAsRowTells_53 : decode cX5_burnsAsRowTells 53 = .ok (.iload_n 2, 1) := by decide +kernel
theorem dX5_burnsAsRowTells_54 : decode cX5_burnsAsRowTells 54 = .ok (.invokevirtual 144, 3) := by decide +kernel
theorem dX5_burnsAsRowTells_57 : decode cX5_burnsAsRowTells 57 = .ok (.invokestatic 222, 3) := by decide +kernel
theorem dX5_burnsAsRowTells_60 : decode cX5_burnsAsRowTells 60 = .ok (.if_icmp .eq 5, 3) := by decide +kernel
theorem dX5_burnsAsRowTells_63 : decode cX5_burnsAsRowTells 63 = .ok (.iconst 0, 1) := by decide +kernel
theorem dX5_burnsAsRowTells_64 : decode cX5_burnsAsRowTells 64 = .ok (.ireturn, 1) := by decide +kernel
theorem dX5_burnsAsRowTells_65 : decode cX5_burnsAsRowTells 65 = .ok (.iinc 2 1, 3) := by decide +kernel
theorem dX5_burnsAsRowTells_68 : decode cX5_burnsAsRowTells 68 = .ok (.goto (-38), 3) := by decide +kernel
theorem dX5_burnsAsRowTells_71 : decode cX5_burnsAsRowTells 71 = .ok (.iconst 1, 1) := by decide +kernel
theorem dX5_burnsAsRowTells_72 : decode cX5_burnsAsRowTells 72 = .ok (.ireturn, 1) := by decide +kernel
theorem dX5_firstOf_0 : decode cX5_firstOf 0 = .ok (.iconst 0, 1) := by decide +kernel
theorem dX5_firstOf_1 : decode cX5_firstOf 1 = .ok (.istore_n 1, 1) := by decide +kernel
theorem dX5_firstOf_2 : decode cX5_firstOf 2 = .ok (.iload_n 1, 1) := by decide +kernel
theorem dX5_firstOf_3 : decode cX5_firstOf 3 = .ok (.bipush 25, 2) := by decide +kernel
theorem dX5_firstOf_5 : decode cX5_firstOf 5 = .ok (.if_icmp .ge 20, 3) := by decide +kernel
theorem dX5_firstOf_8 : decode cX5_firstOf 8 = .ok (.iload_n 0, 1) := by decide +kernel
theorem dX5_firstOf_9 : decode cX5_firstOf 9 = .ok (.iload_n 1, 1) := by decide +kernel
theorem dX5_firstOf_10 : decode cX5_firstOf 10 = .ok (.ishr, 1) := by decide +kernel
theorem dX5_firstOf_11 : decode cX5_firstOf 11 = .ok (.iconst 1, 1) := by decide +kernel
theorem dX5_firstOf_12 : decode cX5_firstOf 12 = .ok (.iand, 1) := by decide +kernel
theorem dX5_firstOf_13 : decode cX5_firstOf 13 = .ok (.iconst 1, 1) := by decide +kernel
theorem dX5_firstOf_14 : decode cX5_firstOf 14 = .ok (.if_icmp .ne 5, 3) := by decide +kernel
theorem dX5_firstOf_17 : decode cX5_firstOf 17 = .ok (.iload_n 1, 1) := by decide +kernel
theorem dX5_firstOf_18 : decode cX5_firstOf 18 = .ok (.ireturn, 1) := by decide +kernel
theorem dX5_firstOf_19 : decode cX5_firstOf 19 = .ok (.iinc 1 1, 3) := by decide +kernel
theorem dX5_firstOf_22 : decode cX5_firstOf 22 = .ok (.goto (-20), 3) := by decide +kernel
theorem dX5_firstOf_25 : decode cX5_firstOf 25 = .ok (.bipush (-9), 2) := by decide +kernel
theorem dX5_firstOf_27 : decode cX5_firstOf 27 = .ok (.ireturn, 1) := by decide +kernel
theorem dX5_asRowTells_0 : decode cX5_asRowTells 0 = .ok (.iload_n 0, 1) := by decide +kernel
theorem dX5_asRowTells_1 : decode cX5_asRowTells 1 = .ok (.bipush (-9), 2) := by decide +kernel
theorem dX5_asRowTells_3 : decode cX5_asRowTells 3 = .ok (.if_icmp .ne 8, 3) := by decide +kernel
theorem dX5_asRowTells_6 : decode cX5_asRowTells 6 = .ok (.bipush 99, 2) := by decide +kernel
theorem dX5_asRowTells_8 : decode cX5_asRowTells 8 = .ok (.goto 4, 3) := by decide +kernel
theorem dX5_asRowTells_11 : decode cX5_asRowTells 11 = .ok (.iload_n 0, 1) := by decide +kernel
theorem dX5_asRowTells_12 : decode cX5_asRowTells 12 = .ok (.ireturn, 1) := by decide +kernel
theorem dX5_seedAfter_0 : decode cX5_seedAfter 0 = .ok (.iload_n 0, 1) := by decide +kernel
theorem dX5_seedAfter_1 : decode cX5_seedAfter 1 = .ok (.ldc 254, 2) := by decide +kernel
theorem dX5_seedAfter_3 : decode cX5_seedAfter 3 = .ok (.imul, 1) := by decide +kernel
theorem dX5_seedAfter_4 : decode cX5_seedAfter 4 = .ok (.ldc 255, 2) := by decide +kernel
theorem dX5_seedAfter_6 : decode cX5_seedAfter 6 = .ok (.iadd, 1) := by decide +kernel
theorem dX5_seedAfter_7 : decode cX5_seedAfter 7 = .ok (.ireturn, 1) := by decide +kernel
theorem dX5_drawn_0 : decode cX5_drawn 0 = .ok (.iload_n 1, 1) := by decide +kernel
theorem dX5_drawn_1 : decode cX5_drawn 1 = .ok (.iconst 1, 1) := by decide +kernel
theorem dX5_drawn_2 : decode cX5_drawn 2 = .ok (.if_icmp .ge 7, 3) := by decide +kernel
theorem dX5_drawn_5 : decode cX5_drawn 5 = .ok (.iconst 0, 1) := by decide +kernel
theorem dX5_drawn_6 : decode cX5_drawn 6 = .ok (.goto 14, 3) := by decide +kernel
theorem dX5_drawn_9 : decode cX5_drawn 9 = .ok (.iload_n 0, 1) := by decide +kernel
theorem dX5_drawn_10 : decode cX5_drawn 10 = .ok (.ldc_w 256, 3) := by decide +kernel
theorem dX5_drawn_13 : decode cX5_drawn 13 = .ok (.iand, 1) := by decide +kernel
theorem dX5_drawn_14 : decode cX5_drawn 14 = .ok (.sipush 256, 3) := by decide +kernel
theorem dX5_drawn_17 : decode cX5_drawn 17 = .ok (.idiv, 1) := by decide +kernel
theorem dX5_drawn_18 : decode cX5_drawn 18 = .ok (.iload_n 1, 1) := by decide +kernel
theorem dX5_drawn_19 : decode cX5_drawn 19 = .ok (.irem, 1) := by decide +kernel
theorem dX5_drawn_20 : decode cX5_drawn 20 = .ok (.ireturn, 1) := by decide +kernel
end
section
theorem dX6_init_0 : decode cX6_init 0 = .ok (.aload_n 0, 1) := by decide +kernel
theorem dX6_init_1 : decode cX6_init 1 = .ok (.invokespecial 1, 3) := by decide +kernel
theorem dX6_init_4 : decode cX6_init 4 = .ok (.aload_n 0, 1) := by decide +kernel
theorem dX6_init_5 : decode cX6_init 5 = .ok (.sipush 182, 3) := by decide +kernel
theorem dX6_init_8 : decode cX6_init 8 = .ok (.newarray .int, 2) := by decide +kernel
theorem dX6_init_10 : decode cX6_init 10 = .ok (.putfield 9, 3) := by decide +kernel
theorem dX6_init_13 : decode cX6_init 13 = .ok (.aload_n 0, 1) := by decide +kernel
theorem dX6_init_14 : decode cX6_init 14 = .ok (.sipush 182, 3) := by decide +kernel
theorem dX6_init_17 : decode cX6_init 17 = .ok (.newarray .int, 2) := by decide +kernel
theorem dX6_init_19 : decode cX6_init 19 = .ok (.putfield 13, 3) := by decide +kernel
theorem dX6_init_22 : decode cX6_init 22 = .ok (.aload_n 0, 1) := by decide +kernel
theorem dX6_init_23 : decode cX6_init 23 = .ok (.sipush 182, 3) := by decide +kernel
theorem dX6_init_26 : decode cX6_init 26 = .ok (.newarray .int, 2) := by decide +kernel
theorem dX6_init_28 : decode cX6_init 28 = .ok (.putfield 16, 3) := by decide +kernel
theorem dX6_init_31 : decode cX6_init 31 = .ok (.aload_n 0, 1) := by decide +kernel
theorem dX6_init_32 : decode cX6_init 32 = .ok (.sipush 182, 3) := by decide +kernel
theorem dX6_init_35 : decode cX6_init 35 = .ok (.newarray .int, 2) := by decide +kernel
theorem dX6_init_37 : decode cX6_init 37 = .ok (.putfield 19, 3) := by decide +kernel
theorem dX6_init_40 : decode cX6_init 40 = .ok (.aload_n 0, 1) := by decide +kernel
theorem dX6_init_41 : decode cX6_init 41 = .ok (.bipush 96, 2) := by decide +kernel
theorem dX6_init_43 : decode cX6_init 43 = .ok (.newarray .int, 2) := by decide +kernel
theorem dX6_init_45 : decode cX6_init 45 = .ok (.putfield 22, 3) := by decide +kernel
theorem dX6_init_48 : decode cX6_init 48 = .ok (.aload_n 0, 1) := by decide +kernel
theorem dX6_init_49 : decode cX6_init 49 = .ok (.bipush 25, 2) := by decide +kernel
theorem dX6_init_51 : decode cX6_init 51 = .ok (.newarray .int, 2) := by decide +kernel
theorem dX6_init_53 : decode cX6_init 53 = .ok (.putfield 25, 3) := by decide +kernel
theorem dX6_init_56 : decode cX6_init 56 = .ok (.aload_n 0, 1) := by decide +kernel
theorem dX6_init_57 : decode cX6_init 57 = .ok (.bipush 7, 2) := by decide +kernel
theorem dX6_init_59 : decode cX6_init 59 = .ok (.newarray .int, 2) := by decide +kernel
theorem dX6_init_61 : decode cX6_init 61 = .ok (.putfield 28, 3) := by decide +kernel
theorem dX6_init_64 : decode cX6_init 64 = .ok (.aload_n 0, 1) := by decide +kernel
theorem dX6_init_65 : decode cX6_init 65 = .ok (.bipush 25, 2) := by decide +kernel
theorem dX6_init_67 : decode cX6_init 67 = .ok (.newarray .int, 2) := by decide +kernel
theorem dX6_init_69 : decode cX6_init 69 = .ok (.putfield 31, 3) := by decide +kernel
theorem dX6_init_72 : decode cX6_init 72 = .ok (.aload_n 0, 1) := by decide +kernel
theorem dX6_init_73 : decode cX6_init 73 = .ok (.bipush 25, 2) := by decide +kernel
theorem dX6_init_75 : decode cX6_init 75 = .ok (.newarray .int, 2) := by decide +kernel
theorem dX6_init_77 : decode cX6_init 77 = .ok (.putfield 34, 3) := by decide +kernel
theorem dX6_init_80 : decode cX6_init 80 = .ok (.aload_n 0, 1) := by decide +kernel
theorem dX6_init_81 : decode cX6_init 81 = .ok (.bipush 25, 2) := by decide +kernel
theorem dX6_init_83 : decode cX6_init 83 = .ok (.newarray .int, 2) := by decide +kernel
theorem dX6_init_85 : decode cX6_init 85 = .ok (.putfield 37, 3) := by decide +kernel
theorem dX6_init_88 : decode cX6_init 88 = .ok (.aload_n 0, 1) := by decide +kernel
theorem dX6_init_89 : decode cX6_init 89 = .ok (.bipush 25, 2) := by decide +kernel
theorem dX6_init_91 : decode cX6_init 91 = .ok (.newarray .int, 2) := by decide +kernel
theorem dX6_init_93 : decode cX6_init 93 = .ok (.putfield 40, 3) := by decide +kernel
theorem dX6_init_96 : decode cX6_init 96 = .ok (.aload_n 0, 1) := by decide +kernel
theorem dX6_init_97 : decode cX6_init 97 = .ok (.iconst 5, 1) := by decide +kernel
theorem dX6_init_98 : decode cX6_init 98 = .ok (.newarray .int, 2) := by decide +kernel
theorem dX6_init_100 : decode cX6_init 100 = .ok (.putfield 43, 3) := by decide +kernel
theorem dX6_init_103 : decode cX6_init 103 = .ok (.aload_n 0, 1) := by decide +kernel
theorem dX6_init_104 : decode cX6_init 104 = .ok (.iconst 4, 1) := by decide +kernel
theorem dX6_init_105 : decode cX6_init 105 = .ok (.newarray .int, 2) := by decide +kernel
theorem dX6_init_107 : decode cX6_init 107 = .ok (.putfield 46, 3) := by decide +kernel
theorem dX6_init_110 : decode cX6_init 110 = .ok (.return_, 1) := by decide +kernel
theorem dX6_isIn_0 : decode cX6_isIn 0 = .ok (.iload_n 0, 1) := by decide +kernel
theorem dX6_isIn_1 : decode cX6_isIn 1 = .ok (.iload_n 1, 1) := by decide +kernel
theorem dX6_isIn_2 : decode cX6_isIn 2 = .ok (.if_icmp .lt 12, 3) := by decide +kernel
theorem dX6_isIn_5 : decode cX6_isIn 5 = .ok (.iload_n 0, 1) := by decide +kernel
theorem dX6_isIn_6 : decode cX6_isIn 6 = .ok (.iload_n 2, 1) := by decide +kernel
theorem dX6_isIn_7 : decode cX6_isIn 7 = .ok (.if_icmp .gt 7, 3) := by decide +kernel
theorem dX6_isIn_10 : decode cX6_isIn 10 = .ok (.iconst 1, 1) := by decide +kernel
theorem dX6_isIn_11 : decode cX6_isIn 11 = .ok (.goto 4, 3) := by decide +kernel
theorem dX6_isIn_14 : decode cX6_isIn 14 = .ok (.iconst 0, 1) := by decide +kernel
theorem dX6_isIn_15 : decode cX6_isIn 15 = .ok (.ireturn, 1) := by decide +kernel
theorem dX6_most_0 : decode cX6_most 0 = .ok (.iload_n 0, 1) := by decide +kernel
theorem dX6_most_1 : decode cX6_most 1 = .ok (.iload_n 1, 1) := by decide +kernel
theorem dX6_most_2 : decode cX6_most 2 = .ok (.if_icmp .le 7, 3) := by decide +kernel
theorem dX6_most_5 : decode cX6_most 5 = .ok (.iload_n 0, 1) := by decide +kernel
theorem dX6_most_6 : decode cX6_most 6 = .ok (.goto 4, 3) := by decide +kernel
theorem dX6_most_9 : decode cX6_most 9 = .ok (.iload_n 1, 1) := by decide +kernel
theorem dX6_most_10 : decode cX6_most 10 = .ok (.ireturn, 1) := by decide +kernel
theorem dX6_lays_0 : decode cX6_lays 0 = .ok (.iconst 0, 1) := by decide +kernel
theorem dX6_lays_1 : decode cX6_lays 1 = .ok (.istore_n 2, 1) := by decide +kernel
theorem dX6_lays_2 : decode cX6_lays 2 = .ok (.iload_n 2, 1) := by decide +kernel
theorem dX6_lays_3 : decode cX6_lays 3 = .ok (.sipush 182, 3) := by decide +kernel
theorem dX6_lays_6 : decode cX6_lays 6 = .ok (.if_icmp .ge 15, 3) := by decide +kernel
theorem dX6_lays_9 : decode cX6_lays 9 = .ok (.aload_n 1, 1) := by decide +kernel
theorem dX6_lays_10 : decode cX6_lays 10 = .ok (.iload_n 2, 1) := by decide +kernel
theorem dX6_lays_11 : decode cX6_lays 11 = .ok (.aload_n 0, 1) := by decide +kernel
theorem dX6_lays_12 : decode cX6_lays 12 = .ok (.iload_n 2, 1) := by decide +kernel
theorem dX6_lays_13 : decode cX6_lays 13 = .ok (.iaload, 1) := by decide +kernel
theorem dX6_lays_14 : decode cX6_lays 14 = .ok (.iastore, 1) := by decide +kernel
theorem dX6_lays_15 : decode cX6_lays 15 = .ok (.iinc 2 1, 3) := by decide +kernel
theorem dX6_lays_18 : decode cX6_lays 18 = .ok (.goto (-16), 3) := by decide +kernel
theorem dX6_lays_21 : decode cX6_lays 21 = .ok (.return_, 1) := by decide +kernel
theorem dX6_no_0 : decode cX6_no 0 = .ok (.aload_n 0, 1) := by decide +kernel
theorem dX6_no_1 : decode cX6_no 1 = .ok (.getfield 28, 3) := by decide +kernel
theorem dX6_no_4 : decode cX6_no 4 = .ok (.iload_n 1, 1) := by decide +kernel
theorem dX6_no_5 : decode cX6_no 5 = .ok (.ineg, 1) := by decide +kernel
theorem dX6_no_6 : decode cX6_no 6 = .ok (.dup2, 1) := by decide +kernel
theorem dX6_no_7 : decode cX6_no 7 = .ok (.iaload, 1) := by decide +kernel
theorem dX6_no_8 : decode cX6_no 8 = .ok (.iconst 1, 1) := by decide +kernel
theorem dX6_no_9 : decode cX6_no 9 = .ok (.iadd, 1) := by decide +kernel
theorem dX6_no_10 : decode cX6_no 10 = .ok (.iastore, 1) := by decide +kernel
theorem dX6_no_11 : decode cX6_no 11 = .ok (.iload_n 1, 1) := by decide +kernel
theorem dX6_no_12 : decode cX6_no 12 = .ok (.ireturn, 1) := by decide +kernel
theorem dX6_noWide_0 : decode cX6_noWide 0 = .ok (.ldc2_w 49, 3) := by decide +kernel
theorem dX6_noWide_3 : decode cX6_noWide 3 = .ok (.aload_n 0, 1) := by decide +kernel
theorem dX6_noWide_4 : decode cX6_noWide 4 = .ok (.iload_n 1, 1) := by decide +kernel
theorem dX6_noWide_5 : decode cX6_noWide 5 = .ok (.invokevirtual 51, 3) := by decide +kernel
theorem dX6_noWide_8 : decode cX6_noWide 8 = .ok (.i2l, 1) := by decide +kernel
theorem dX6_noWide_9 : decode cX6_noWide 9 = .ok (.lsub, 1) := by decide +kernel
theorem dX6_noWide_10 : decode cX6_noWide 10 = .ok (.lreturn, 1) := by decide +kernel
theorem dX6_isRoom_0 : decode cX6_isRoom 0 = .ok (.iload_n 0, 1) := by decide +kernel
theorem dX6_isRoom_1 : decode cX6_isRoom 1 = .ok (.iconst 0, 1) := by decide +kernel
theorem dX6_isRoom_2 : decode cX6_isRoom 2 = .ok (.bipush 24, 2) := by decide +kernel
theorem dX6_isRoom_4 : decode cX6_isRoom 4 = .ok (.invokestatic 55, 3) := by decide +kernel
theorem dX6_isRoom_7 : decode cX6_isRoom 7 = .ok (.ireturn, 1) := by decide +kernel
theorem dX6_isPerson_0 : decode cX6_isPerson 0 = .ok (.iload_n 1, 1) := by decide +kernel
theorem dX6_isPerson_1 : decode cX6_isPerson 1 = .ok (.iconst 0, 1) := by decide +kernel
theorem dX6_isPerson_2 : decode cX6_isPerson 2 = .ok (.aload_n 0, 1) := by decide +kernel
theorem dX6_isPerson_3 : decode cX6_isPerson 3 = .ok (.getfield 9, 3) := by decide +kernel
theorem dX6_isPerson_6 : decode cX6_isPerson 6 = .ok (.iconst 0, 1) := by decide +kernel
theorem dX6_isPerson_7 : decode cX6_isPerson 7 = .ok (.iaload, 1) := by decide +kernel
theorem dX6_isPerson_8 : decode cX6_isPerson 8 = .ok (.iconst 1, 1) := by decide +kernel
theorem dX6_isPerson_9 : decode cX6_isPerson 9 = .ok (.isub, 1) := by decide +kernel
theorem dX6_isPerson_10 : decode cX6_isPerson 10 = .ok (.invokestatic 55, 3) := by decide +kernel
theorem dX6_isPerson_13 : decode cX6_isPerson 13 = .ok (.ireturn, 1) := by decide +kernel
theorem dX6_isSpeaker_0 : decode cX6_isSpeaker 0 = .ok (.aload_n 0, 1) := by decide +kernel
theorem dX6_isSpeaker_1 : decode cX6_isSpeaker 1 = .ok (.iload_n 1, 1) := by decide +kernel
theorem dX6_isSpeaker_2 : decode cX6_isSpeaker 2 = .ok (.invokevirtual 59, 3) := by decide +kernel
theorem dX6_isSpeaker_5 : decode cX6_isSpeaker 5 = .ok (.ifCond .ne 7, 3) := by decide +kernel
theorem dX6_isSpeaker_8 : decode cX6_isSpeaker 8 = .ok (.iload_n 1, 1) := by decide +kernel
theorem dX6_isSpeaker_9 : decode cX6_isSpeaker 9 = .ok (.ifCond .ne 7, 3) := by decide +kernel
theorem dX6_isSpeaker_12 : decode cX6_isSpeaker 12 = .ok (.iconst 1, 1) := by decide +kernel
theorem dX6_isSpeaker_13 : decode cX6_isSpeaker 13 = .ok (.goto 4, 3) := by decide +kernel
theorem dX6_isSpeaker_16 : decode cX6_isSpeaker 16 = .ok (.iconst 0, 1) := by decide +kernel
theorem dX6_isSpeaker_17 : decode cX6_isSpeaker 17 = .ok (.ireturn, 1) := by decide +kernel
theorem dX6_known_0 : decode cX6_known 0 = .ok (.bipush 57, 2) := by decide +kernel
theorem dX6_known_2 : decode cX6_known 2 = .ok (.bipush 25, 2) := by decide +kernel
theorem dX6_known_4 : decode cX6_known 4 = .ok (.iload_n 0, 1) := by decide +kernel
theorem dX6_known_5 : decode cX6_known 5 = .ok (.imul, 1) := by decide +kernel
theorem dX6_known_6 : decode cX6_known 6 = .ok (.iadd, 1) := by decide +kernel
theorem dX6_known_7 : decode cX6_known 7 = .ok (.iload_n 1, 1) := by decide +kernel
theorem dX6_known_8 : decode cX6_known 8 = .ok (.iadd, 1) := by decide +kernel
theorem dX6_known_9 : decode cX6_known 9 = .ok (.ireturn, 1) := by decide +kernel
theorem dX6_needs_0 : decode cX6_needs 0 = .ok (.aload_n 0, 1) := by decide +kernel
theorem dX6_needs_1 : decode cX6_needs 1 = .ok (.iconst 2, 1) := by decide +kernel
theorem dX6_needs_2 : decode cX6_needs 2 = .ok (.iload_n 1, 1) := by decide +kernel
theorem dX6_needs_3 : decode cX6_needs 3 = .ok (.iadd, 1) := by decide +kernel
theorem dX6_needs_4 : decode cX6_needs 4 = .ok (.iaload, 1) := by decide +kernel
theorem dX6_needs_5 : decode cX6_needs 5 = .ok (.istore_n 2, 1) := by decide +kernel
theorem dX6_needs_6 : decode cX6_needs 6 = .ok (.iload_n 2, 1) := by decide +kernel
theorem dX6_needs_7 : decode cX6_needs 7 = .ok (.iconst 2, 1) := by decide +kernel
theorem dX6_needs_8 : decode cX6_needs 8 = .ok (.if_icmp .ne 7, 3) := by decide +kernel
theorem dX6_needs_11 : decode cX6_needs 11 = .ok (.iconst 2, 1) := by decide +kernel
theorem dX6_needs_12 : decode cX6_needs 12 = .ok (.goto 13, 3) := by decide +kernel
theorem dX6_needs_15 : decode cX6_needs 15 = .ok (.iload_n 2, 1) := by decide +kernel
theorem dX6_needs_16 : decode cX6_needs 16 = .ok (.iconst 3, 1) := by decide +kernel
theorem dX6_needs_17 : decode cX6_needs 17 = .ok (.if_icmp .ne 7, 3) := by decide +kernel
theorem dX6_needs_20 : decode cX6_needs 20 = .ok (.iconst 4, 1) := by decide +kernel
theorem dX6_needs_21 : decode cX6_needs 21 = .ok (.goto 4, 3) := by decide +kernel
theorem dX6_needs_24 : decode cX6_needs 24 = .ok (.iconst 1, 1) := by decide +kernel
theorem dX6_needs_25 : decode cX6_needs 25 = .ok (.ireturn, 1) := by decide +kernel
theorem dX6_catches_0 : decode cX6_catches 0 = .ok (.aload_n 0, 1) := by decide +kernel
theorem dX6_catches_1 : decode cX6_catches 1 = .ok (.iconst 2, 1) := by decide +kernel
theorem dX6_catches_2 : decode cX6_catches 2 = .ok (.iload_n 1, 1) := by decide +kernel
theorem dX6_catches_3 : decode cX6_catches 3 = .ok (.iadd, 1) := by decide +kernel
theorem dX6_catches_4 : decode cX6_catches 4 = .ok (.iaload, 1) := by decide +kernel
theorem dX6_catches_5 : decode cX6_catches 5 = .ok (.tableswitch 44 1 5 #[35, 37, 37, 39, 42], 35) := by decide +kernel
theorem dX6_catches_40 : decode cX6_catches 40 = .ok (.iconst 1, 1) := by decide +kernel
theorem dX6_catches_41 : decode cX6_catches 41 = .ok (.ireturn, 1) := by decide +kernel
theorem dX6_catches_42 : decode cX6_catches 42 = .ok (.iconst 3, 1) := by decide +kernel
theorem dX6_catches_43 : decode cX6_catches 43 = .ok (.ireturn, 1) := by decide +kernel
theorem dX6_catches_44 : decode cX6_catches 44 = .ok (.ldc 63, 2) := by decide +kernel
theorem dX6_catches_46 : decode cX6_catches 46 = .ok (.ireturn, 1) := by decide +kernel
theorem dX6_catches_47 : decode cX6_catches 47 = .ok (.iconst 4, 1) := by decide +kernel
theorem dX6_catches_48 : decode cX6_catches 48 = .ok (.ireturn, 1) := by decide +kernel
theorem dX6_catches_49 : decode cX6_catches 49 = .ok (.iconst 2, 1) := by decide +kernel
theorem dX6_catches_50 : decode cX6_catches 50 = .ok (.ireturn, 1) := by decide +kernel
theorem dX6_worth_0 : decode cX6_worth 0 = .ok (.aload_n 0, 1) := by decide +kernel
theorem dX6_worth_1 : decode cX6_worth 1 = .ok (.bipush 27, 2) := by decide +kernel
theorem dX6_worth_3 : decode cX6_worth 3 = .ok (.iload_n 1, 1) := by decide +kernel
theorem dX6_worth_4 : decode cX6_worth 4 = .ok (.iadd, 1) := by decide +kernel
theorem dX6_worth_5 : decode cX6_worth 5 = .ok (.iaload, 1) := by decide +kernel
theorem dX6_worth_6 : decode cX6_worth 6 = .ok (.istore_n 2, 1) := by decide +kernel
theorem dX6_worth_7 : decode cX6_worth 7 = .ok (.aload_n 0, 1) := by decide +kernel
theorem dX6_worth_8 : decode cX6_worth 8 = .ok (.iconst 2, 1) := by decide +kernel
theorem dX6_worth_9 : decode cX6_worth 9 = .ok (.iload_n 1, 1) := by decide +kernel
theorem dX6_worth_10 : decode cX6_worth 10 = .ok (.iadd, 1) := by decide +kernel
theorem dX6_worth_11 : decode cX6_worth 11 = .ok (.iaload, 1) := by decide +kernel
theorem dX6_worth_12 : decode cX6_worth 12 = .ok (.tableswitch 48 2 5 #[32, 37, 44, 46], 32) := by decide +kernel
theorem dX6_worth_44 : decode cX6_worth 44 = .ok (.bipush 6, 2) := by decide +kernel
theorem dX6_worth_46 : decode cX6_worth 46 = .ok (.iload_n 2, 1) := by decide +kernel
theorem dX6_worth_47 : decode cX6_worth 47 = .ok (.iadd, 1) := by decide +kernel
theorem dX6_worth_48 : decode cX6_worth 48 = .ok (.ireturn, 1) := by decide +kernel
theorem dX6_worth_49 : decode cX6_worth 49 = .ok (.bipush 12, 2) := by decide +kernel
theorem dX6_worth_51 : decode cX6_worth 51 = .ok (.iconst 2, 1) := by decide +kernel
theorem dX6_worth_52 : decode cX6_worth 52 = .ok (.iload_n 2, 1) := by decide +kernel
theorem dX6_worth_53 : decode cX6_worth 53 = .ok (.imul, 1) := by decide +kernel
theorem dX6_worth_54 : decode cX6_worth 54 = .ok (.iadd, 1) := by decide +kernel
theorem dX6_worth_55 : decode cX6_worth 55 = .ok (.ireturn, 1) := by decide +kernel
theorem dX6_worth_56 : decode cX6_worth 56 = .ok (.iconst 0, 1) := by decide +kernel
theorem dX6_worth_57 : decode cX6_worth 57 = .ok (.ireturn, 1) := by decide +kernel
theorem dX6_worth_58 : decode cX6_worth 58 = .ok (.iload_n 2, 1) := by decide +kernel
theorem dX6_worth_59 : decode cX6_worth 59 = .ok (.ireturn, 1) := by decide +kernel
theorem dX6_worth_60 : decode cX6_worth 60 = .ok (.iconst 1, 1) := by decide +kernel
theorem dX6_worth_61 : decode cX6_worth 61 = .ok (.iload_n 2, 1) := by decide +kernel
theorem dX6_worth_62 : decode cX6_worth 62 = .ok (.iadd, 1) := by decide +kernel
theorem dX6_worth_63 : decode cX6_worth 63 = .ok (.ireturn, 1) := by decide +kernel
theorem dX6_isKnown_0 : decode cX6_isKnown 0 = .ok (.aload_n 0, 1) := by decide +kernel
theorem dX6_isKnown_1 : decode cX6_isKnown 1 = .ok (.iload_n 1, 1) := by decide +kernel
theorem dX6_isKnown_2 : decode cX6_isKnown 2 = .ok (.iload_n 2, 1) := by decide +kernel
theorem dX6_isKnown_3 : decode cX6_isKnown 3 = .ok (.invokestatic 64, 3) := by decide +kernel
theorem dX6_isKnown_6 : decode cX6_isKnown 6 = .ok (.iaload, 1) := by decide +kernel
theorem dX6_isKnown_7 : decode cX6_isKnown 7 = .ok (.aload_n 0, 1) := by decide +kernel
theorem dX6_isKnown_8 : decode cX6_isKnown 8 = .ok (.iload_n 2, 1) := by decide +kernel
theorem dX6_isKnown_9 : decode cX6_isKnown 9 = .ok (.invokestatic 68, 3) := by decide +kernel
theorem dX6_isKnown_12 : decode cX6_isKnown 12 = .ok (.if_icmp .lt 7, 3) := by decide +kernel
theorem dX6_isKnown_15 : decode cX6_isKnown 15 = .ok (.iconst 1, 1) := by decide +kernel
theorem dX6_isKnown_16 : decode cX6_isKnown 16 = .ok (.goto 4, 3) := by decide +kernel
theorem dX6_isKnown_19 : decode cX6_isKnown 19 = .ok (.iconst 0, 1) := by decide +kernel
theorem dX6_isKnown_20 : decode cX6_isKnown 20 = .ok (.ireturn, 1) := by decide +kernel
theorem dX6_beside_0 : decode cX6_beside 0 = .ok (.iload_n 1, 1) := by decide +kernel
theorem dX6_beside_1 : decode cX6_beside 1 = .ok (.tableswitch 72 0 2 #[27, 41, 56], 27) := by decide +kernel
theorem dX6_beside_28 : decode cX6_beside 28 = .ok (.iload_n 0, 1) := by decide +kernel
theorem dX6_beside_29 : decode cX6_beside 29 = .ok (.iconst 5, 1) := by decide +kernel
theorem dX6_beside_30 : decode cX6_beside 30 = .ok (.if_icmp .ge 8, 3) := by decide +kernel
theorem dX6_beside_33 : decode cX6_beside 33 = .ok (.bipush (-9), 2) := by decide +kernel
theorem dX6_beside_35 : decode cX6_beside 35 = .ok (.goto 6, 3) := by decide +kernel
theorem dX6_beside_38 : decode cX6_beside 38 = .ok (.iload_n 0, 1) := by decide +kernel
theorem dX6_beside_39 : decode cX6_beside 39 = .ok (.iconst 5, 1) := by decide +kernel
theorem dX6_beside_40 : decode cX6_beside 40 = .ok (.isub, 1) := by decide +kernel
theorem dX6_beside_41 : decode cX6_beside 41 = .ok (.ireturn, 1) := by decide +kernel
theorem dX6_beside_42 : decode cX6_beside 42 = .ok (.iload_n 0, 1) := by decide +kernel
theorem dX6_beside_43 : decode cX6_beside 43 = .ok (.iconst 5, 1) := by decide +kernel
theorem dX6_beside_44 : decode cX6_beside 44 = .ok (.irem, 1) := by decide +kernel
theorem dX6_beside_45 : decode cX6_beside 45 = .ok (.ifCond .ne 8, 3) := by decide +kernel
theorem dX6_beside_48 : decode cX6_beside 48 = .ok (.bipush (-9), 2) := by decide +kernel
theorem dX6_beside_50 : decode cX6_beside 50 = .ok (.goto 6, 3) := by decide +kernel
theorem dX6_beside_53 : decode cX6_beside 53 = .ok (.iload_n 0, 1) := by decide +kernel
theorem dX6_beside_54 : decode cX6_beside 54 = .ok (.iconst 1, 1) := by decide +kernel
theorem dX6_beside_55 : decode cX6_beside 55 = .ok (.isub, 1) := by decide +kernel
theorem dX6_beside_56 : decode cX6_beside 56 = .ok (.ireturn, 1) := by decide +kernel
theorem dX6_beside_57 : decode cX6_beside 57 = .ok (.iload_n 0, 1) := by decide +kernel
theorem dX6_beside_58 : decode cX6_beside 58 = .ok (.iconst 5, 1) := by decide +kernel
theorem dX6_beside_59 : decode cX6_beside 59 = .ok (.irem, 1) := by decide +kernel
theorem dX6_beside_60 : decode cX6_beside 60 = .ok (.iconst 4, 1) := by decide +kernel
theorem dX6_beside_61 : decode cX6_beside 61 = .ok (.if_icmp .ne 8, 3) := by decide +kernel
theorem dX6_beside_64 : decode cX6_beside 64 = .ok (.bipush (-9), 2) := by decide +kernel
theorem dX6_beside_66 : decode cX6_beside 66 = .ok (.goto 6, 3) := by decide +kernel
theorem dX6_beside_69 : decode cX6_beside 69 = .ok (.iload_n 0, 1) := by decide +kernel
theorem dX6_beside_70 : decode cX6_beside 70 = .ok (.iconst 1, 1) := by decide +kernel
theorem dX6_beside_71 : decode cX6_beside 71 = .ok (.iadd, 1) := by decide +kernel
theorem dX6_beside_72 : decode cX6_beside 72 = .ok (.ireturn, 1) := by decide +kernel
theorem dX6_beside_73 : decode cX6_beside 73 = .ok (.iload_n 0, 1) := by decide +kernel
theorem dX6_beside_74 : decode cX6_beside 74 = .ok (.bipush 20, 2) := by decide +kernel
theorem dX6_beside_76 : decode cX6_beside 76 = .ok (.if_icmp .lt 8, 3) := by decide +kernel
theorem dX6_beside_79 : decode cX6_beside 79 = .ok (.bipush (-9), 2) := by decide +kernel
theorem dX6_beside_81 : decode cX6_beside 81 = .ok (.goto 6, 3) := by decide +kernel
theorem dX6_beside_84 : decode cX6_beside 84 = .ok (.iload_n 0, 1) := by decide +kernel
theorem dX6_beside_85 : decode cX6_beside 85 = .ok (.iconst 5, 1) := by decide +kernel
theorem dX6_beside_86 : decode cX6_beside 86 = .ok (.iadd, 1) := by decide +kernel
theorem dX6_beside_87 : decode cX6_beside 87 = .ok (.ireturn, 1) := by decide +kernel
theorem dX6_night_0 : decode cX6_night 0 = .ok (.aload_n 0, 1) := by decide +kernel
theorem dX6_night_1 : decode cX6_night 1 = .ok (.iconst 1, 1) := by decide +kernel
theorem dX6_night_2 : decode cX6_night 2 = .ok (.dup2, 1) := by decide +kernel
theorem dX6_night_3 : decode cX6_night 3 = .ok (.iaload, 1) := by decide +kernel
theorem dX6_night_4 : decode cX6_night 4 = .ok (.iconst 1, 1) := by decide +kernel
theorem dX6_night_5 : decode cX6_night 5 = .ok (.iadd, 1) := by decide +kernel
theorem dX6_night_6 : decode cX6_night 6 = .ok (.iastore, 1) := by decide +kernel
theorem dX6_night_7 : decode cX6_night 7 = .ok (.iconst 0, 1) := by decide +kernel
theorem dX6_night_8 : decode cX6_night 8 = .ok (.istore_n 1, 1) := by decide +kernel
theorem dX6_night_9 : decode cX6_night 9 = .ok (.iload_n 1, 1) := by decide +kernel
theorem dX6_night_10 : decode cX6_night 10 = .ok (.aload_n 0, 1) := by decide +kernel
theorem dX6_night_11 : decode cX6_night 11 = .ok (.iconst 0, 1) := by decide +kernel
theorem dX6_night_12 : decode cX6_night 12 = .ok (.iaload, 1) := by decide +kernel
theorem dX6_night_13 : decode cX6_night 13 = .ok (.if_icmp .ge 56, 3) := by decide +kernel
theorem dX6_night_16 : decode cX6_night 16 = .ok (.iconst 0, 1) := by decide +kernel
theorem dX6_night_17 : decode cX6_night 17 = .ok (.istore_n 2, 1) := by decide +kernel
theorem dX6_night_18 : decode cX6_night 18 = .ok (.iload_n 2, 1) := by decide +kernel
theorem dX6_night_19 : decode cX6_night 19 = .ok (.bipush 25, 2) := by decide +kernel
theorem dX6_night_21 : decode cX6_night 21 = .ok (.if_icmp .ge 42, 3) := by decide +kernel
theorem dX6_night_24 : decode cX6_night 24 = .ok (.aload_n 0, 1) := by decide +kernel
theorem dX6_night_25 : decode cX6_night 25 = .ok (.iconst 1, 1) := by decide +kernel
theorem dX6_night_26 : decode cX6_night 26 = .ok (.iaload, 1) := by decide +kernel
theorem dX6_night_27 : decode cX6_night 27 = .ok (.aload_n 0, 1) := by decide +kernel
theorem dX6_night_28 : decode cX6_night 28 = .ok (.bipush 52, 2) := by decide +kernel
theorem dX6_night_30 : decode cX6_night 30 = .ok (.iload_n 1, 1) := by decide +kernel
theorem dX6_night_31 : decode cX6_night 31 = .ok (.iadd, 1) := by decide +kernel
theorem dX6_night_32 : decode cX6_night 32 = .ok (.iaload, 1) := by decide +kernel
theorem dX6_night_33 : decode cX6_night 33 = .ok (.irem, 1) := by decide +kernel
theorem dX6_night_34 : decode cX6_night 34 = .ok (.ifCond .ne 29, 3) := by decide +kernel
theorem dX6_night_37 : decode cX6_night 37 = .ok (.aload_n 0, 1) := by decide +kernel
theorem dX6_night_38 : decode cX6_night 38 = .ok (.iload_n 1, 1) := by decide +kernel
theorem dX6_night_39 : decode cX6_night 39 = .ok (.iload_n 2, 1) := by decide +kernel
theorem dX6_night_40 : decode cX6_night 40 = .ok (.invokestatic 64, 3) := by decide +kernel
theorem dX6_night_43 : decode cX6_night 43 = .ok (.iconst 0, 1) := by decide +kernel
theorem dX6_night_44 : decode cX6_night 44 = .ok (.aload_n 0, 1) := by decide +kernel
theorem dX6_night_45 : decode cX6_night 45 = .ok (.iload_n 1, 1) := by decide +kernel
theorem dX6_night_46 : decode cX6_night 46 = .ok (.iload_n 2, 1) := by decide +kernel
theorem dX6_night_47 : decode cX6_night 47 = .ok (.invokestatic 64, 3) := by decide +kernel
theorem dX6_night_50 : decode cX6_night 50 = .ok (.iaload, 1) := by decide +kernel
theorem dX6_night_51 : decode cX6_night 51 = .ok (.iconst 1, 1) := by decide +kernel
theorem dX6_night_52 : decode cX6_night 52 = .ok (.isub, 1) := by decide +kernel
theorem dX6_night_53 : decode cX6_night 53 = .ok (.invokestatic 72, 3) := by decide +kernel
theorem dX6_night_56 : decode cX6_night 56 = .ok (.iastore, 1) := by decide +kernel
theorem dX6_night_57 : decode cX6_night 57 = .ok (.iinc 2 1, 3) := by decide +kernel
theorem dX6_night_60 : decode cX6_night 60 = .ok (.goto (-42), 3) := by decide +kernel
theorem dX6_night_63 : decode cX6_night 63 = .ok (.iinc 1 1, 3) := by decide +kernel
theorem dX6_night_66 : decode cX6_night 66 = .ok (.goto (-57), 3) := by decide +kernel
theorem dX6_night_69 : decode cX6_night 69 = .ok (.return_, 1) := by decide +kernel
theorem dX6_findsSoonest_0 : decode cX6_findsSoonest 0 = .ok (.iconst 0, 1) := by decide +kernel
theorem dX6_findsSoonest_1 : decode cX6_findsSoonest 1 = .ok (.istore_n 2, 1) := by decide +kernel
theorem dX6_findsSoonest_2 : decode cX6_findsSoonest 2 = .ok (.iload_n 2, 1) := by decide +kernel
theorem dX6_findsSoonest_3 : decode cX6_findsSoonest 3 = .ok (.bipush 25, 2) := by decide +kernel
theorem dX6_findsSoonest_5 : decode cX6_findsSoonest 5 = .ok (.if_icmp .ge 35, 3) := by decide +kernel
theorem dX6_findsSoonest_8 : decode cX6_findsSoonest 8 = .ok (.aload_n 0, 1) := by decide +kernel
theorem dX6_findsSoonest_9 : decode cX6_findsSoonest 9 = .ok (.getfield 34, 3) := by decide +kernel
theorem dX6_findsSoonest_12 : decode cX6_findsSoonest 12 = .ok (.iload_n 2, 1) := by decide +kernel
theorem dX6_findsSoonest_13 : decode cX6_findsSoonest 13 = .ok (.aload_n 0, 1) := by decide +kernel
theorem dX6_findsSoonest_14 : decode cX6_findsSoonest 14 = .ok (.getfield 31, 3) := by decide +kernel
theorem dX6_findsSoonest_17 : decode cX6_findsSoonest 17 = .ok (.iload_n 2, 1) := by decide +kernel
theorem dX6_findsSoonest_18 : decode cX6_findsSoonest 18 = .ok (.iaload, 1) := by decide +kernel
theorem dX6_findsSoonest_19 : decode cX6_findsSoonest 19 = .ok (.ifCond .lt 12, 3) := by decide +kernel
theorem dX6_findsSoonest_22 : decode cX6_findsSoonest 22 = .ok (.aload_n 0, 1) := by decide +kernel
theorem dX6_findsSoonest_23 : decode cX6_findsSoonest 23 = .ok (.getfield 31, 3) := by decide +kernel
theorem dX6_findsSoonest_26 : decode cX6_findsSoonest 26 = .ok (.iload_n 2, 1) := by decide +kernel
theorem dX6_findsSoonest_27 : decode cX6_findsSoonest 27 = .ok (.iaload, 1) := by decide +kernel
theorem dX6_findsSoonest_28 : decode cX6_findsSoonest 28 = .ok (.goto 5, 3) := by decide +kernel
theorem dX6_findsSoonest_31 : decode cX6_findsSoonest 31 = .ok (.ldc 63, 2) := by decide +kernel
theorem dX6_findsSoonest_33 : decode cX6_findsSoonest 33 = .ok (.iastore, 1) := by decide +kernel
theorem dX6_findsSoonest_34 : decode cX6_findsSoonest 34 = .ok (.iinc 2 1, 3) := by decide +kernel
theorem dX6_findsSoonest_37 : decode cX6_findsSoonest 37 = .ok (.goto (-35), 3) := by decide +kernel
theorem dX6_findsSoonest_40 : decode cX6_findsSoonest 40 = .ok (.iconst 1, 1) := by decide +kernel
theorem dX6_findsSoonest_41 : decode cX6_findsSoonest 41 = .ok (.istore_n 2, 1) := by decide +kernel
theorem dX6_findsSoonest_42 : decode cX6_findsSoonest 42 = .ok (.iload_n 2, 1) := by decide +kernel
theorem dX6_findsSoonest_43 : decode cX6_findsSoonest 43 = .ok (.ifCond .eq 139, 3) := by decide +kernel
theorem dX6_findsSoonest_46 : decode cX6_findsSoonest 46 = .ok (.iconst 0, 1) := by decide +kernel
theorem dX6_findsSoonest_47 : decode cX6_findsSoonest 47 = .ok (.istore_n 2, 1) := by decide +kernel
theorem dX6_findsSoonest_48 : decode cX6_findsSoonest 48 = .ok (.iconst 0, 1) := by decide +kernel
theorem dX6_findsSoonest_49 : decode cX6_findsSoonest 49 = .ok (.istore_n 3, 1) := by decide +kernel
theorem dX6_findsSoonest_50 : decode cX6_findsSoonest 50 = .ok (.iload_n 3, 1) := by decide +kernel
theorem dX6_findsSoonest_51 : decode cX6_findsSoonest 51 = .ok (.bipush 25, 2) := by decide +kernel
theorem dX6_findsSoonest_53 : decode cX6_findsSoonest 53 = .ok (.if_icmp .ge 126, 3) := by decide +kernel
theorem dX6_findsSoonest_56 : decode cX6_findsSoonest 56 = .ok (.aload_n 0, 1) := by decide +kernel
theorem dX6_findsSoonest_57 : decode cX6_findsSoonest 57 = .ok (.getfield 31, 3) := by decide +kernel
theorem dX6_findsSoonest_60 : decode cX6_findsSoonest 60 = .ok (.iload_n 3, 1) := by decide +kernel
theorem dX6_findsSoonest_61 : decode cX6_findsSoonest 61 = .ok (.iaload, 1) := by decide +kernel
theorem dX6_findsSoonest_62 : decode cX6_findsSoonest 62 = .ok (.ifCond .ge 111, 3) := by decide +kernel
theorem dX6_findsSoonest_65 : decode cX6_findsSoonest 65 = .ok (.aload_n 0, 1) := by decide +kernel
theorem dX6_findsSoonest_66 : decode cX6_findsSoonest 66 = .ok (.getfield 37, 3) := by decide +kernel
theorem dX6_findsSoonest_69 : decode cX6_findsSoonest 69 = .ok (.iload_n 3, 1) := by decide +kernel
theorem dX6_findsSoonest_70 : decode cX6_findsSoonest 70 = .ok (.iaload, 1) := by decide +kernel
theorem dX6_findsSoonest_71 : decode cX6_findsSoonest 71 = .ok (.ifCond .ge 102, 3) := by decide +kernel
theorem dX6_findsSoonest_74 : decode cX6_findsSoonest 74 = .ok (.aload_n 1, 1) := by decide +kernel
theorem dX6_findsSoonest_75 : decode cX6_findsSoonest 75 = .ok (.iload_n 3, 1) := by decide +kernel
theorem dX6_findsSoonest_76 : decode cX6_findsSoonest 76 = .ok (.invokestatic 75, 3) := by decide +kernel
theorem dX6_findsSoonest_79 : decode cX6_findsSoonest 79 = .ok (.ldc 63, 2) := by decide +kernel
theorem dX6_findsSoonest_81 : decode cX6_findsSoonest 81 = .ok (.if_icmp .ne 6, 3) := by decide +kernel
theorem dX6_findsSoonest_84 : decode cX6_findsSoonest 84 = .ok (.goto 89, 3) := by decide +kernel
theorem dX6_findsSoonest_87 : decode cX6_findsSoonest 87 = .ok (.iconst 0, 1) := by decide +kernel
theorem dX6_findsSoonest_88 : decode cX6_findsSoonest 88 = .ok (.istore 4, 2) := by decide +kernel
theorem dX6_findsSoonest_90 : decode cX6_findsSoonest 90 = .ok (.iload 4, 2) := by decide +kernel
theorem dX6_findsSoonest_92 : decode cX6_findsSoonest 92 = .ok (.iconst 4, 1) := by decide +kernel
theorem dX6_findsSoonest_93 : decode cX6_findsSoonest 93 = .ok (.if_icmp .ge 80, 3) := by decide +kernel
theorem dX6_findsSoonest_96 : decode cX6_findsSoonest 96 = .ok (.iload_n 3, 1) := by decide +kernel
theorem dX6_findsSoonest_97 : decode cX6_findsSoonest 97 = .ok (.iload 4, 2) := by decide +kernel
theorem dX6_findsSoonest_99 : decode cX6_findsSoonest 99 = .ok (.invokestatic 78, 3) := by decide +kernel
theorem dX6_findsSoonest_102 : decode cX6_findsSoonest 102 = .ok (.istore 5, 2) := by decide +kernel
theorem dX6_findsSoonest_104 : decode cX6_findsSoonest 104 = .ok (.iload 5, 2) := by decide +kernel
theorem dX6_findsSoonest_106 : decode cX6_findsSoonest 106 = .ok (.ifCond .lt 61, 3) := by decide +kernel
theorem dX6_findsSoonest_109 : decode cX6_findsSoonest 109 = .ok (.aload_n 0, 1) := by decide +kernel
theorem dX6_findsSoonest_110 : decode cX6_findsSoonest 110 = .ok (.getfield 34, 3) := by decide +kernel
theorem dX6_findsSoonest_113 : decode cX6_findsSoonest 113 = .ok (.iload 5, 2) := by decide +kernel
theorem dX6_findsSoonest_115 : decode cX6_findsSoonest 115 = .ok (.iaload, 1) := by decide +kernel
theorem dX6_findsSoonest_116 : decode cX6_findsSoonest 116 = .ok (.ldc 63, 2) := by decide +kernel
theorem dX6_findsSoonest_118 : decode cX6_findsSoonest 118 = .ok (.if_icmp .eq 49, 3) := by decide +kernel
theorem dX6_findsSoonest_121 : decode cX6_findsSoonest 121 = .ok (.aload_n 0, 1) := by decide +kernel
theorem dX6_findsSoonest_122 : decode cX6_findsSoonest 122 = .ok (.getfield 34, 3) := by decide +kernel
theorem dX6_findsSoonest_125 : decode cX6_findsSoonest 125 = .ok (.iload 5, 2) := by decide +kernel
theorem dX6_findsSoonest_127 : decode cX6_findsSoonest 127 = .ok (.iaload, 1) := by decide +kernel
theorem dX6_findsSoonest_128 : decode cX6_findsSoonest 128 = .ok (.aload_n 1, 1) := by decide +kernel
theorem dX6_findsSoonest_129 : decode cX6_findsSoonest 129 = .ok (.iload_n 3, 1) := by decide +kernel
theorem dX6_findsSoonest_130 : decode cX6_findsSoonest 130 = .ok (.invokestatic 75, 3) := by decide +kernel
theorem dX6_findsSoonest_133 : decode cX6_findsSoonest 133 = .ok (.iadd, 1) := by decide +kernel
theorem dX6_findsSoonest_134 : decode cX6_findsSoonest 134 = .ok (.aload_n 0, 1) := by decide +kernel
theorem dX6_findsSoonest_135 : decode cX6_findsSoonest 135 = .ok (.getfield 34, 3) := by decide +kernel
theorem dX6_findsSoonest_138 : decode cX6_findsSoonest 138 = .ok (.iload_n 3, 1) := by decide +kernel
theorem dX6_findsSoonest_139 : decode cX6_findsSoonest 139 = .ok (.iaload, 1) := by decide +kernel
theorem dX6_findsSoonest_140 : decode cX6_findsSoonest 140 = .ok (.if_icmp .lt 6, 3) := by decide +kernel
theorem dX6_findsSoonest_143 : decode cX6_findsSoonest 143 = .ok (.goto 24, 3) := by decide +kernel
theorem dX6_findsSoonest_146 : decode cX6_findsSoonest 146 = .ok (.aload_n 0, 1) := by decide +kernel
theorem dX6_findsSoonest_147 : decode cX6_findsSoonest 147 = .ok (.getfield 34, 3) := by decide +kernel
theorem dX6_findsSoonest_150 : decode cX6_findsSoonest 150 = .ok (.iload_n 3, 1) := by decide +kernel
theorem dX6_findsSoonest_151 : decode cX6_findsSoonest 151 = .ok (.aload_n 0, 1) := by decide +kernel
theorem dX6_findsSoonest_152 : decode cX6_findsSoonest 152 = .ok (.getfield 34, 3) := by decide +kernel
theorem dX6_findsSoonest_155 : decode cX6_findsSoonest 155 = .ok (.iload 5, 2) := by decide +kernel
theorem dX6_findsSoonest_157 : decode cX6_findsSoonest 157 = .ok (.iaload, 1) := by decide +kernel
theorem dX6_findsSoonest_158 : decode cX6_findsSoonest 158 = .ok (.aload_n 1, 1) := by decide +kernel
theorem dX6_findsSoonest_159 : decode cX6_findsSoonest 159 = .ok (.iload_n 3, 1) := by decide +kernel
theorem dX6_findsSoonest_160 : decode cX6_findsSoonest 160 = .ok (.invokestatic 75, 3) := by decide +kernel
theorem dX6_findsSoonest_163 : decode cX6_findsSoonest 163 = .ok (.iadd, 1) := by decide +kernel
theorem dX6_findsSoonest_164 : decode cX6_findsSoonest 164 = .ok (.iastore, 1) := by decide +kernel
theorem dX6_findsSoonest_165 : decode cX6_findsSoonest 165 = .ok (.iconst 1, 1) := by decide +kernel
theorem dX6_findsSoonest_166 : decode cX6_findsSoonest 166 = .ok (.istore_n 2, 1) := by decide +kernel
theorem dX6_findsSoonest_167 : decode cX6_findsSoonest 167 = .ok (.iinc 4 1, 3) := by decide +kernel
theorem dX6_findsSoonest_170 : decode cX6_findsSoonest 170 = .ok (.goto (-80), 3) := by decide +kernel
theorem dX6_findsSoonest_173 : decode cX6_findsSoonest 173 = .ok (.iinc 3 1, 3) := by decide +kernel
theorem dX6_findsSoonest_176 : decode cX6_findsSoonest 176 = .ok (.goto (-126), 3) := by decide +kernel
theorem dX6_findsSoonest_179 : decode cX6_findsSoonest 179 = .ok (.goto (-137), 3) := by decide +kernel
theorem dX6_findsSoonest_182 : decode cX6_findsSoonest 182 = .ok (.return_, 1) := by decide +kernel
theorem dX6_isGoingOn_0 : decode cX6_isGoingOn 0 = .ok (.iconst 0, 1) := by decide +kernel
theorem dX6_isGoingOn_1 : decode cX6_isGoingOn 1 = .ok (.istore_n 1, 1) := by decide +kernel
theorem dX6_isGoingOn_2 : decode cX6_isGoingOn 2 = .ok (.iload_n 1, 1) := by decide +kernel
theorem dX6_isGoingOn_3 : decode cX6_isGoingOn 3 = .ok (.bipush 25, 2) := by decide +kernel
theorem dX6_isGoingOn_5 : decode cX6_isGoingOn 5 = .ok (.if_icmp .ge 31, 3) := by decide +kernel
theorem dX6_isGoingOn_8 : decode cX6_isGoingOn 8 = .ok (.aload_n 0, 1) := by decide +kernel
theorem dX6_isGoingOn_9 : decode cX6_isGoingOn 9 = .ok (.getfield 31, 3) := by decide +kernel
theorem dX6_isGoingOn_12 : decode cX6_isGoingOn 12 = .ok (.iload_n 1, 1) := by decide +kernel
theorem dX6_isGoingOn_13 : decode cX6_isGoingOn 13 = .ok (.iaload, 1) := by decide +kernel
theorem dX6_isGoingOn_14 : decode cX6_isGoingOn 14 = .ok (.ifCond .ge 16, 3) := by decide +kernel
theorem dX6_isGoingOn_17 : decode cX6_isGoingOn 17 = .ok (.aload_n 0, 1) := by decide +kernel
theorem dX6_isGoingOn_18 : decode cX6_isGoingOn 18 = .ok (.getfield 34, 3) := by decide +kernel
theorem dX6_isGoingOn_21 : decode cX6_isGoingOn 21 = .ok (.iload_n 1, 1) := by decide +kernel
theorem dX6_isGoingOn_22 : decode cX6_isGoingOn 22 = .ok (.iaload, 1) := by decide +kernel
theorem dX6_isGoingOn_23 : decode cX6_isGoingOn 23 = .ok (.ldc 63, 2) := by decide +kernel
theorem dX6_isGoingOn_25 : decode cX6_isGoingOn 25 = .ok (.if_icmp .ge 5, 3) := by decide +kernel
theorem dX6_isGoingOn_28 : decode cX6_isGoingOn 28 = .ok (.iconst 1, 1) := by decide +kernel
theorem dX6_isGoingOn_29 : decode cX6_isGoingOn 29 = .ok (.ireturn, 1) := by decide +kernel
theorem dX6_isGoingOn_30 : decode cX6_isGoingOn 30 = .ok (.iinc 1 1, 3) := by decide +kernel
theorem dX6_isGoingOn_33 : decode cX6_isGoingOn 33 = .ok (.goto (-31), 3) := by decide +kernel
theorem dX6_isGoingOn_36 : decode cX6_isGoingOn 36 = .ok (.iconst 0, 1) := by decide +kernel
theorem dX6_isGoingOn_37 : decode cX6_isGoingOn 37 = .ok (.ireturn, 1) := by decide +kernel
theorem dX6_toSay_0 : decode cX6_toSay 0 = .ok (.bipush (-9), 2) := by decide +kernel
theorem dX6_toSay_2 : decode cX6_toSay 2 = .ok (.istore_n 3, 1) := by decide +kernel
theorem dX6_toSay_3 : decode cX6_toSay 3 = .ok (.iconst 0, 1) := by decide +kernel
theorem dX6_toSay_4 : decode cX6_toSay 4 = .ok (.istore 4, 2) := by decide +kernel
theorem dX6_toSay_6 : decode cX6_toSay 6 = .ok (.iload 4, 2) := by decide +kernel
theorem dX6_toSay_8 : decode cX6_toSay 8 = .ok (.bipush 25, 2) := by decide +kernel
theorem dX6_toSay_10 : decode cX6_toSay 10 = .ok (.if_icmp .ge 97, 3) := by decide +kernel
theorem dX6_toSay_13 : decode cX6_toSay 13 = .ok (.aload_n 0, 1) := by decide +kernel
theorem dX6_toSay_14 : decode cX6_toSay 14 = .ok (.getfield 31, 3) := by decide +kernel
theorem dX6_toSay_17 : decode cX6_toSay 17 = .ok (.iload 4, 2) := by decide +kernel
theorem dX6_toSay_19 : decode cX6_toSay 19 = .ok (.iaload, 1) := by decide +kernel
theorem dX6_toSay_20 : decode cX6_toSay 20 = .ok (.ifCond .ge 81, 3) := by decide +kernel
theorem dX6_toSay_23 : decode cX6_toSay 23 = .ok (.aload_n 0, 1) := by decide +kernel
theorem dX6_toSay_24 : decode cX6_toSay 24 = .ok (.getfield 34, 3) := by decide +kernel
theorem dX6_toSay_27 : decode cX6_toSay 27 = .ok (.iload 4, 2) := by decide +kernel
theorem dX6_toSay_29 : decode cX6_toSay 29 = .ok (.iaload, 1) := by decide +kernel
theorem dX6_toSay_30 : decode cX6_toSay 30 = .ok (.ldc 63, 2) := by decide +kernel
theorem dX6_toSay_32 : decode cX6_toSay 32 = .ok (.if_icmp .eq 69, 3) := by decide +kernel
theorem dX6_toSay_35 : decode cX6_toSay 35 = .ok (.aload_n 1, 1) := by decide +kernel
theorem dX6_toSay_36 : decode cX6_toSay 36 = .ok (.iload_n 2, 1) := by decide +kernel
theorem dX6_toSay_37 : decode cX6_toSay 37 = .ok (.iload 4, 2) := by decide +kernel
theorem dX6_toSay_39 : decode cX6_toSay 39 = .ok (.invokestatic 81, 3) := by decide +kernel
theorem dX6_toSay_42 : decode cX6_toSay 42 = .ok (.ifCond .ne 6, 3) := by decide +kernel
theorem dX6_toSay_45 : decode cX6_toSay 45 = .ok (.goto 56, 3) := by decide +kernel
theorem dX6_toSay_48 : decode cX6_toSay 48 = .ok (.iload_n 3, 1) := by decide +kernel
theorem dX6_toSay_49 : decode cX6_toSay 49 = .ok (.ifCond .lt 49, 3) := by decide +kernel
theorem dX6_toSay_52 : decode cX6_toSay 52 = .ok (.aload_n 0, 1) := by decide +kernel
theorem dX6_toSay_53 : decode cX6_toSay 53 = .ok (.getfield 34, 3) := by decide +kernel
theorem dX6_toSay_56 : decode cX6_toSay 56 = .ok (.iload 4, 2) := by decide +kernel
theorem dX6_toSay_58 : decode cX6_toSay 58 = .ok (.iaload, 1) := by decide +kernel
theorem dX6_toSay_59 : decode cX6_toSay 59 = .ok (.aload_n 0, 1) := by decide +kernel
theorem dX6_toSay_60 : decode cX6_toSay 60 = .ok (.getfield 34, 3) := by decide +kernel
theorem dX6_toSay_63 : decode cX6_toSay 63 = .ok (.iload_n 3, 1) := by decide +kernel
theorem dX6_toSay_64 : decode cX6_toSay 64 = .ok (.iaload, 1) := by decide +kernel
theorem dX6_toSay_65 : decode cX6_toSay 65 = .ok (.if_icmp .lt 33, 3) := by decide +kernel
theorem dX6_toSay_68 : decode cX6_toSay 68 = .ok (.aload_n 0, 1) := by decide +kernel
theorem dX6_toSay_69 : decode cX6_toSay 69 = .ok (.getfield 34, 3) := by decide +kernel
theorem dX6_toSay_72 : decode cX6_toSay 72 = .ok (.iload 4, 2) := by decide +kernel
theorem dX6_toSay_74 : decode cX6_toSay 74 = .ok (.iaload, 1) := by decide +kernel
theorem dX6_toSay_75 : decode cX6_toSay 75 = .ok (.aload_n 0, 1) := by decide +kernel
theorem dX6_toSay_76 : decode cX6_toSay 76 = .ok (.getfield 34, 3) := by decide +kernel
theorem dX6_toSay_79 : decode cX6_toSay 79 = .ok (.iload_n 3, 1) := by decide +kernel
theorem dX6_toSay_80 : decode cX6_toSay 80 = .ok (.iaload, 1) := by decide +kernel
theorem dX6_toSay_81 : decode cX6_toSay 81 = .ok (.if_icmp .ne 20, 3) := by decide +kernel
theorem dX6_toSay_84 : decode cX6_toSay 84 = .ok (.aload_n 1, 1) := by decide +kernel
theorem dX6_toSay_85 : decode cX6_toSay 85 = .ok (.iload 4, 2) := by decide +kernel
theorem dX6_toSay_87 : decode cX6_toSay 87 = .ok (.invokestatic 85, 3) := by decide +kernel
theorem dX6_toSay_90 : decode cX6_toSay 90 = .ok (.aload_n 1, 1) := by decide +kernel
theorem dX6_toSay_91 : decode cX6_toSay 91 = .ok (.iload_n 3, 1) := by decide +kernel
theorem dX6_toSay_92 : decode cX6_toSay 92 = .ok (.invokestatic 85, 3) := by decide +kernel
theorem dX6_toSay_95 : decode cX6_toSay 95 = .ok (.if_icmp .le 6, 3) := by decide +kernel
theorem dX6_toSay_98 : decode cX6_toSay 98 = .ok (.iload 4, 2) := by decide +kernel
theorem dX6_toSay_100 : decode cX6_toSay 100 = .ok (.istore_n 3, 1) := by decide +kernel
theorem dX6_toSay_101 : decode cX6_toSay 101 = .ok (.iinc 4 1, 3) := by decide +kernel
theorem dX6_toSay_104 : decode cX6_toSay 104 = .ok (.goto (-98), 3) := by decide +kernel
theorem dX6_toSay_107 : decode cX6_toSay 107 = .ok (.iload_n 3, 1) := by decide +kernel
theorem dX6_toSay_108 : decode cX6_toSay 108 = .ok (.ireturn, 1) := by decide +kernel
theorem dX6_burns_0 : decode cX6_burns 0 = .ok (.iconst 0, 1) := by decide +kernel
theorem dX6_burns_1 : decode cX6_burns 1 = .ok (.istore_n 3, 1) := by decide +kernel
theorem dX6_burns_2 : decode cX6_burns 2 = .ok (.iload_n 3, 1) := by decide +kernel
theorem dX6_burns_3 : decode cX6_burns 3 = .ok (.bipush 25, 2) := by decide +kernel
theorem dX6_burns_5 : decode cX6_burns 5 = .ok (.if_icmp .ge 33, 3) := by decide +kernel
theorem dX6_burns_8 : decode cX6_burns 8 = .ok (.aload_n 0, 1) := by decide +kernel
theorem dX6_burns_9 : decode cX6_burns 9 = .ok (.getfield 31, 3) := by decide +kernel
theorem dX6_burns_12 : decode cX6_burns 12 = .ok (.iload_n 3, 1) := by decide +kernel
theorem dX6_burns_13 : decode cX6_burns 13 = .ok (.bipush (-9), 2) := by decide +kernel
theorem dX6_burns_15 : decode cX6_burns 15 = .ok (.iastore, 1) := by decide +kernel
theorem dX6_burns_16 : decode cX6_burns 16 = .ok (.aload_n 0, 1) := by decide +kernel
theorem dX6_burns_17 : decode cX6_burns 17 = .ok (.getfield 37, 3) := by decide +kernel
theorem dX6_burns_20 : decode cX6_burns 20 = .ok (.iload_n 3, 1) := by decide +kernel
theorem dX6_burns_21 : decode cX6_burns 21 = .ok (.bipush (-9), 2) := by decide +kernel
theorem dX6_burns_23 : decode cX6_burns 23 = .ok (.iastore, 1) := by decide +kernel
theorem dX6_burns_24 : decode cX6_burns 24 = .ok (.aload_n 0, 1) := by decide +kernel
theorem dX6_burns_25 : decode cX6_burns 25 = .ok (.getfield 40, 3) := by decide +kernel
theorem dX6_burns_28 : decode cX6_burns 28 = .ok (.iload_n 3, 1) := by decide +kernel
theorem dX6_burns_29 : decode cX6_burns 29 = .ok (.bipush (-9), 2) := by decide +kernel
theorem dX6_burns_31 : decode cX6_burns 31 = .ok (.iastore, 1) := by decide +kernel
theorem dX6_burns_32 : decode cX6_burns 32 = .ok (.iinc 3 1, 3) := by decide +kernel
theorem dX6_burns_35 : decode cX6_burns 35 = .ok (.goto (-33), 3) := by decide +kernel
theorem dX6_burns_38 : decode cX6_burns 38 = .ok (.aload_n 0, 1) := by decide +kernel
theorem dX6_burns_39 : decode cX6_burns 39 = .ok (.getfield 31, 3) := by decide +kernel
theorem dX6_burns_42 : decode cX6_burns 42 = .ok (.iload_n 2, 1) := by decide +kernel
theorem dX6_burns_43 : decode cX6_burns 43 = .ok (.iconst 0, 1) := by decide +kernel
theorem dX6_burns_44 : decode cX6_burns 44 = .ok (.iastore, 1) := by decide +kernel
theorem dX6_burns_45 : decode cX6_burns 45 = .ok (.aload_n 0, 1) := by decide +kernel
theorem dX6_burns_46 : decode cX6_burns 46 = .ok (.aload_n 1, 1) := by decide +kernel
theorem dX6_burns_47 : decode cX6_burns 47 = .ok (.invokevirtual 88, 3) := by decide +kernel
theorem dX6_burns_50 : decode cX6_burns 50 = .ok (.iconst 1, 1) := by decide +kernel
theorem dX6_burns_51 : decode cX6_burns 51 = .ok (.istore_n 3, 1) := by decide +kernel
theorem dX6_burns_52 : decode cX6_burns 52 = .ok (.aload_n 0, 1) := by decide +kernel
theorem dX6_burns_53 : decode cX6_burns 53 = .ok (.invokevirtual 92, 3) := by decide +kernel
theorem dX6_burns_56 : decode cX6_burns 56 = .ok (.ifCond .eq 164, 3) := by decide +kernel
theorem dX6_burns_59 : decode cX6_burns 59 = .ok (.aload_n 0, 1) := by decide +kernel
theorem dX6_burns_60 : decode cX6_burns 60 = .ok (.getfield 96, 3) := by decide +kernel
theorem dX6_burns_63 : decode cX6_burns 63 = .ok (.ifCond .ne 8, 3) := by decide +kernel
theorem dX6_burns_66 : decode cX6_burns 66 = .ok (.bipush (-9), 2) := by decide +kernel
theorem dX6_burns_68 : decode cX6_burns 68 = .ok (.goto 16, 3) := by decide +kernel
theorem dX6_burns_71 : decode cX6_burns 71 = .ok (.aload_n 0, 1) := by decide +kernel
theorem dX6_burns_72 : decode cX6_burns 72 = .ok (.getfield 43, 3) := by decide +kernel
theorem dX6_burns_75 : decode cX6_burns 75 = .ok (.iload_n 3, 1) := by decide +kernel
theorem dX6_burns_76 : decode cX6_burns 76 = .ok (.iconst 1, 1) := by decide +kernel
theorem dX6_burns_77 : decode cX6_burns 77 = .ok (.isub, 1) := by decide +kernel
theorem dX6_burns_78 : decode cX6_burns 78 = .ok (.aload_n 0, 1) := by decide +kernel
theorem dX6_burns_79 : decode cX6_burns 79 = .ok (.getfield 96, 3) := by decide +kernel
theorem dX6_burns_82 : decode cX6_burns 82 = .ok (.irem, 1) := by decide +kernel
theorem dX6_burns_83 : decode cX6_burns 83 = .ok (.iaload, 1) := by decide +kernel
theorem dX6_burns_84 : decode cX6_burns 84 = .ok (.istore 4, 2) := by decide +kernel
theorem dX6_burns_86 : decode cX6_burns 86 = .ok (.iload_n 3, 1) := by decide +kernel
theorem dX6_burns_87 : decode cX6_burns 87 = .ok (.bipush 7, 2) := by decide +kernel
theorem dX6_burns_89 : decode cX6_burns 89 = .ok (.if_icmp .gt 21, 3) := by decide +kernel
theorem dX6_burns_92 : decode cX6_burns 92 = .ok (.aload_n 0, 1) := by decide +kernel
theorem dX6_burns_93 : decode cX6_burns 93 = .ok (.getfield 100, 3) := by decide +kernel
theorem dX6_burns_96 : decode cX6_burns 96 = .ok (.iload_n 3, 1) := by decide +kernel
theorem dX6_burns_97 : decode cX6_burns 97 = .ok (.iconst 1, 1) := by decide +kernel
theorem dX6_burns_98 : decode cX6_burns 98 = .ok (.isub, 1) := by decide +kernel
theorem dX6_burns_99 : decode cX6_burns 99 = .ok (.ishr, 1) := by decide +kernel
theorem dX6_burns_100 : decode cX6_burns 100 = .ok (.iconst 1, 1) := by decide +kernel
theorem dX6_burns_101 : decode cX6_burns 101 = .ok (.iand, 1) := by decide +kernel
theorem dX6_burns_102 : decode cX6_burns 102 = .ok (.iconst 1, 1) := by decide +kernel
theorem dX6_burns_103 : decode cX6_burns 103 = .ok (.if_icmp .ne 7, 3) := by decide +kernel
theorem dX6_burns_106 : decode cX6_burns 106 = .ok (.iconst 1, 1) := by decide +kernel
theorem dX6_burns_107 : decode cX6_burns 107 = .ok (.goto 4, 3) := by decide +kernel
theorem dX6_burns_110 : decode cX6_burns 110 = .ok (.iconst 0, 1) := by decide +kernel
theorem dX6_burns_111 : decode cX6_burns 111 = .ok (.istore 5, 2) := by decide +kernel
theorem dX6_burns_113 : decode cX6_burns 113 = .ok (.iload 4, 2) := by decide +kernel
theorem dX6_burns_115 : decode cX6_burns 115 = .ok (.ifCond .lt 8, 3) := by decide +kernel
theorem dX6_burns_118 : decode cX6_burns 118 = .ok (.iload 5, 2) := by decide +kernel
theorem dX6_burns_120 : decode cX6_burns 120 = .ok (.ifCond .eq 8, 3) := by decide +kernel
theorem dX6_burns_123 : decode cX6_burns 123 = .ok (.bipush (-9), 2) := by decide +kernel
theorem dX6_burns_125 : decode cX6_burns 125 = .ok (.goto 10, 3) := by decide +kernel
theorem dX6_burns_128 : decode cX6_burns 128 = .ok (.aload_n 0, 1) := by decide +kernel
theorem dX6_burns_129 : decode cX6_burns 129 = .ok (.aload_n 1, 1) := by decide +kernel
theorem dX6_burns_130 : decode cX6_burns 130 = .ok (.iload 4, 2) := by decide +kernel
theorem dX6_burns_132 : decode cX6_burns 132 = .ok (.invokevirtual 103, 3) := by decide +kernel
theorem dX6_burns_135 : decode cX6_burns 135 = .ok (.istore 6, 2) := by decide +kernel
theorem dX6_burns_137 : decode cX6_burns 137 = .ok (.iload 6, 2) := by decide +kernel
theorem dX6_burns_139 : decode cX6_burns 139 = .ok (.ifCond .lt 25, 3) := by decide +kernel
theorem dX6_burns_142 : decode cX6_burns 142 = .ok (.aload_n 0, 1) := by decide +kernel
theorem dX6_burns_143 : decode cX6_burns 143 = .ok (.getfield 37, 3) := by decide +kernel
theorem dX6_burns_146 : decode cX6_burns 146 = .ok (.iload 6, 2) := by decide +kernel
theorem dX6_burns_148 : decode cX6_burns 148 = .ok (.iload_n 3, 1) := by decide +kernel
theorem dX6_burns_149 : decode cX6_burns 149 = .ok (.iastore, 1) := by decide +kernel
theorem dX6_burns_150 : decode cX6_burns 150 = .ok (.aload_n 0, 1) := by decide +kernel
theorem dX6_burns_151 : decode cX6_burns 151 = .ok (.getfield 40, 3) := by decide +kernel
theorem dX6_burns_154 : decode cX6_burns 154 = .ok (.iload 6, 2) := by decide +kernel
theorem dX6_burns_156 : decode cX6_burns 156 = .ok (.iload 4, 2) := by decide +kernel
theorem dX6_burns_158 : decode cX6_burns 158 = .ok (.iastore, 1) := by decide +kernel
theorem dX6_burns_159 : decode cX6_burns 159 = .ok (.aload_n 0, 1) := by decide +kernel
theorem dX6_burns_160 : decode cX6_burns 160 = .ok (.aload_n 1, 1) := by decide +kernel
theorem dX6_burns_161 : decode cX6_burns 161 = .ok (.invokevirtual 88, 3) := by decide +kernel
theorem dX6_burns_164 : decode cX6_burns 164 = .ok (.iconst 0, 1) := by decide +kernel
theorem dX6_burns_165 : decode cX6_burns 165 = .ok (.istore 7, 2) := by decide +kernel
theorem dX6_burns_167 : decode cX6_burns 167 = .ok (.iload 7, 2) := by decide +kernel
theorem dX6_burns_169 : decode cX6_burns 169 = .ok (.bipush 25, 2) := by decide +kernel
theorem dX6_burns_171 : decode cX6_burns 171 = .ok (.if_icmp .ge 38, 3) := by decide +kernel
theorem dX6_burns_174 : decode cX6_burns 174 = .ok (.aload_n 0, 1) := by decide +kernel
theorem dX6_burns_175 : decode cX6_burns 175 = .ok (.getfield 31, 3) := by decide +kernel
theorem dX6_burns_178 : decode cX6_burns 178 = .ok (.iload 7, 2) := by decide +kernel
theorem dX6_burns_180 : decode cX6_burns 180 = .ok (.iaload, 1) := by decide +kernel
theorem dX6_burns_181 : decode cX6_burns 181 = .ok (.ifCond .ge 22, 3) := by decide +kernel
theorem dX6_burns_184 : decode cX6_burns 184 = .ok (.aload_n 0, 1) := by decide +kernel
theorem dX6_burns_185 : decode cX6_burns 185 = .ok (.getfield 34, 3) := by decide +kernel
theorem dX6_burns_188 : decode cX6_burns 188 = .ok (.iload 7, 2) := by decide +kernel
theorem dX6_burns_190 : decode cX6_burns 190 = .ok (.iaload, 1) := by decide +kernel
theorem dX6_burns_191 : decode cX6_burns 191 = .ok (.iload_n 3, 1) := by decide +kernel
theorem dX6_burns_192 : decode cX6_burns 192 = .ok (.if_icmp .ne 11, 3) := by decide +kernel
theorem dX6_burns_195 : decode cX6_burns 195 = .ok (.aload_n 0, 1) := by decide +kernel
theorem dX6_burns_196 : decode cX6_burns 196 = .ok (.getfield 31, 3) := by decide +kernel
theorem dX6_burns_199 : decode cX6_burns 199 = .ok (.iload 7, 2) := by decide +kernel
theorem dX6_burns_201 : decode cX6_burns 201 = .ok (.iload_n 3, 1) := by decide +kernel
theorem dX6_burns_202 : decode cX6_burns 202 = .ok (.iastore, 1) := by decide +kernel
theorem dX6_burns_203 : decode cX6_burns 203 = .ok (.iinc 7 1, 3) := by decide +kernel
theorem dX6_burns_206 : decode cX6_burns 206 = .ok (.goto (-39), 3) := by decide +kernel
theorem dX6_burns_209 : decode cX6_burns 209 = .ok (.aload_n 0, 1) := by decide +kernel
theorem dX6_burns_210 : decode cX6_burns 210 = .ok (.aload_n 1, 1) := by decide +kernel
theorem dX6_burns_211 : decode cX6_burns 211 = .ok (.invokevirtual 88, 3) := by decide +kernel
theorem dX6_burns_214 : decode cX6_burns 214 = .ok (.iinc 3 1, 3) := by decide +kernel
theorem dX6_burns_217 : decode cX6_burns 217 = .ok (.goto (-165), 3) := by decide +kernel
theorem dX6_burns_220 : decode cX6_burns 220 = .ok (.return_, 1) := by decide +kernel
theorem dX6_turnsFrom_0 : decode cX6_turnsFrom 0 = .ok (.aload_n 0, 1) := by decide +kernel
theorem dX6_turnsFrom_1 : decode cX6_turnsFrom 1 = .ok (.iconst 0, 1) := by decide +kernel
theorem dX6_turnsFrom_2 : decode cX6_turnsFrom 2 = .ok (.putfield 96, 3) := by decide +kernel
theorem dX6_turnsFrom_5 : decode cX6_turnsFrom 5 = .ok (.aload_n 0, 1) := by decide +kernel
theorem dX6_turnsFrom_6 : decode cX6_turnsFrom 6 = .ok (.iconst 0, 1) := by decide +kernel
theorem dX6_turnsFrom_7 : decode cX6_turnsFrom 7 = .ok (.putfield 100, 3) := by decide +kernel
theorem dX6_turnsFrom_10 : decode cX6_turnsFrom 10 = .ok (.iconst 0, 1) := by decide +kernel
theorem dX6_turnsFrom_11 : decode cX6_turnsFrom 11 = .ok (.istore 4, 2) := by decide +kernel
theorem dX6_turnsFrom_13 : decode cX6_turnsFrom 13 = .ok (.iload 4, 2) := by decide +kernel
theorem dX6_turnsFrom_15 : decode cX6_turnsFrom 15 = .ok (.aload_n 1, 1) := by decide +kernel
theorem dX6_turnsFrom_16 : decode cX6_turnsFrom 16 = .ok (.iconst 0, 1) := by decide +kernel
theorem dX6_turnsFrom_17 : decode cX6_turnsFrom 17 = .ok (.iaload, 1) := by decide +kernel
theorem dX6_turnsFrom_18 : decode cX6_turnsFrom 18 = .ok (.if_icmp .ge 49, 3) := by decide +kernel
theorem dX6_turnsFrom_21 : decode cX6_turnsFrom 21 = .ok (.iload_n 2, 1) := by decide +kernel
theorem dX6_turnsFrom_22 : decode cX6_turnsFrom 22 = .ok (.iload 4, 2) := by decide +kernel
theorem dX6_turnsFrom_24 : decode cX6_turnsFrom 24 = .ok (.iadd, 1) := by decide +kernel
theorem dX6_turnsFrom_25 : decode cX6_turnsFrom 25 = .ok (.aload_n 1, 1) := by decide +kernel
theorem dX6_turnsFrom_26 : decode cX6_turnsFrom 26 = .ok (.iconst 0, 1) := by decide +kernel
theorem dX6_turnsFrom_27 : decode cX6_turnsFrom 27 = .ok (.iaload, 1) := by decide +kernel
theorem dX6_turnsFrom_28 : decode cX6_turnsFrom 28 = .ok (.irem, 1) := by decide +kernel
theorem dX6_turnsFrom_29 : decode cX6_turnsFrom 29 = .ok (.istore 5, 2) := by decide +kernel
theorem dX6_turnsFrom_31 : decode cX6_turnsFrom 31 = .ok (.iload 5, 2) := by decide +kernel
theorem dX6_turnsFrom_33 : decode cX6_turnsFrom 33 = .ok (.iload_n 3, 1) := by decide +kernel
theorem dX6_turnsFrom_34 : decode cX6_turnsFrom 34 = .ok (.if_icmp .ne 6, 3) := by decide +kernel
theorem dX6_turnsFrom_37 : decode cX6_turnsFrom 37 = .ok (.goto 24, 3) := by decide +kernel
theorem dX6_turnsFrom_40 : decode cX6_turnsFrom 40 = .ok (.aload_n 0, 1) := by decide +kernel
theorem dX6_turnsFrom_41 : decode cX6_turnsFrom 41 = .ok (.getfield 43, 3) := by decide +kernel
theorem dX6_turnsFrom_44 : decode cX6_turnsFrom 44 = .ok (.aload_n 0, 1) := by decide +kernel
theorem dX6_turnsFrom_45 : decode cX6_turnsFrom 45 = .ok (.getfield 96, 3) := by decide +kernel
theorem dX6_turnsFrom_48 : decode cX6_turnsFrom 48 = .ok (.iload 5, 2) := by decide +kernel
theorem dX6_turnsFrom_50 : decode cX6_turnsFrom 50 = .ok (.iastore, 1) := by decide +kernel
theorem dX6_turnsFrom_51 : decode cX6_turnsFrom 51 = .ok (.aload_n 0, 1) := by decide +kernel
theorem dX6_turnsFrom_52 : decode cX6_turnsFrom 52 = .ok (.dup, 1) := by decide +kernel
theorem dX6_turnsFrom_53 : decode cX6_turnsFrom 53 = .ok (.getfield 96, 3) := by decide +kernel
theorem dX6_turnsFrom_56 : decode cX6_turnsFrom 56 = .ok (.iconst 1, 1) := by decide +kernel
theorem dX6_turnsFrom_57 : decode cX6_turnsFrom 57 = .ok (.iadd, 1) := by decide +kernel
theorem dX6_turnsFrom_58 : decode cX6_turnsFrom 58 = .ok (.putfield 96, 3) := by decide +kernel
theorem dX6_turnsFrom_61 : decode cX6_turnsFrom 61 = .ok (.iinc 4 1, 3) := by decide +kernel
theorem dX6_turnsFrom_64 : decode cX6_turnsFrom 64 = .ok (.goto (-51), 3) := by decide +kernel
theorem dX6_turnsFrom_67 : decode cX6_turnsFrom 67 = .ok (.return_, 1) := by decide +kernel
theorem dX6_burntMany_0 : decode cX6_burntMany 0 = .ok (.iconst 0, 1) := by decide +kernel
theorem dX6_burntMany_1 : decode cX6_burntMany 1 = .ok (.istore_n 1, 1) := by decide +kernel
theorem dX6_burntMany_2 : decode cX6_burntMany 2 = .ok (.iconst 0, 1) := by decide +kernel
theorem dX6_burntMany_3 : decode cX6_burntMany 3 = .ok (.istore_n 2, 1) := by decide +kernel
theorem dX6_burntMany_4 : decode cX6_burntMany 4 = .ok (.iload_n 2, 1) := by decide +kernel
theorem dX6_burntMany_5 : decode cX6_burntMany 5 = .ok (.bipush 25, 2) := by decide +kernel
theorem dX6_burntMany_7 : decode cX6_burntMany 7 = .ok (.if_icmp .ge 26, 3) := by decide +kernel
theorem dX6_burntMany_10 : decode cX6_burntMany 10 = .ok (.iload_n 1, 1) := by decide +kernel
theorem dX6_burntMany_11 : decode cX6_burntMany 11 = .ok (.aload_n 0, 1) := by decide +kernel
theorem dX6_burntMany_12 : decode cX6_burntMany 12 = .ok (.getfield 31, 3) := by decide +kernel
theorem dX6_burntMany_15 : decode cX6_burntMany 15 = .ok (.iload_n 2, 1) := by decide +kernel
theorem dX6_burntMany_16 : decode cX6_burntMany 16 = .ok (.iaload, 1) := by decide +kernel
theorem dX6_burntMany_17 : decode cX6_burntMany 17 = .ok (.ifCond .lt 7, 3) := by decide +kernel
theorem dX6_burntMany_20 : decode cX6_burntMany 20 = .ok (.iconst 1, 1) := by decide +kernel
theorem dX6_burntMany_21 : decode cX6_burntMany 21 = .ok (.goto 4, 3) := by decide +kernel
theorem dX6_burntMany_24 : decode cX6_burntMany 24 = .ok (.iconst 0, 1) := by decide +kernel
theorem dX6_burntMany_25 : decode cX6_burntMany 25 = .ok (.iadd, 1) := by decide +kernel
theorem dX6_burntMany_26 : decode cX6_burntMany 26 = .ok (.istore_n 1, 1) := by decide +kernel
theorem dX6_burntMany_27 : decode cX6_burntMany 27 = .ok (.iinc 2 1, 3) := by decide +kernel
theorem dX6_burntMany_30 : decode cX6_burntMany 30 = .ok (.goto (-26), 3) := by decide +kernel
theorem dX6_burntMany_33 : decode cX6_burntMany 33 = .ok (.iload_n 1, 1) := by decide +kernel
theorem dX6_burntMany_34 : decode cX6_burntMany 34 = .ok (.ireturn, 1) := by decide +kernel
theorem dX6_burntWorth_0 : decode cX6_burntWorth 0 = .ok (.iconst 0, 1) := by decide +kernel
theorem dX6_burntWorth_1 : decode cX6_burntWorth 1 = .ok (.istore_n 2, 1) := by decide +kernel
theorem dX6_burntWorth_2 : decode cX6_burntWorth 2 = .ok (.iconst 0, 1) := by decide +kernel
theorem dX6_burntWorth_3 : decode cX6_burntWorth 3 = .ok (.istore_n 3, 1) := by decide +kernel
theorem dX6_burntWorth_4 : decode cX6_burntWorth 4 = .ok (.iload_n 3, 1) := by decide +kernel
theorem dX6_burntWorth_5 : decode cX6_burntWorth 5 = .ok (.bipush 25, 2) := by decide +kernel
theorem dX6_burntWorth_7 : decode cX6_burntWorth 7 = .ok (.if_icmp .ge 30, 3) := by decide +kernel
theorem dX6_burntWorth_10 : decode cX6_burntWorth 10 = .ok (.iload_n 2, 1) := by decide +kernel
theorem dX6_burntWorth_11 : decode cX6_burntWorth 11 = .ok (.aload_n 0, 1) := by decide +kernel
theorem dX6_burntWorth_12 : decode cX6_burntWorth 12 = .ok (.getfield 31, 3) := by decide +kernel
theorem dX6_burntWorth_15 : decode cX6_burntWorth 15 = .ok (.iload_n 3, 1) := by decide +kernel
theorem dX6_burntWorth_16 : decode cX6_burntWorth 16 = .ok (.iaload, 1) := by decide +kernel
theorem dX6_burntWorth_17 : decode cX6_burntWorth 17 = .ok (.ifCond .lt 11, 3) := by decide +kernel
theorem dX6_burntWorth_20 : decode cX6_burntWorth 20 = .ok (.aload_n 1, 1) := by decide +kernel
theorem dX6_burntWorth_21 : decode cX6_burntWorth 21 = .ok (.iload_n 3, 1) := by decide +kernel
theorem dX6_burntWorth_22 : decode cX6_burntWorth 22 = .ok (.invokestatic 85, 3) := by decide +kernel
theorem dX6_burntWorth_25 : decode cX6_burntWorth 25 = .ok (.goto 4, 3) := by decide +kernel
theorem dX6_burntWorth_28 : decode cX6_burntWorth 28 = .ok (.iconst 0, 1) := by decide +kernel
theorem dX6_burntWorth_29 : decode cX6_burntWorth 29 = .ok (.iadd, 1) := by decide +kernel
theorem dX6_burntWorth_30 : decode cX6_burntWorth 30 = .ok (.istore_n 2, 1) := by decide +kernel
theorem dX6_burntWorth_31 : decode cX6_burntWorth 31 = .ok (.iinc 3 1, 3) := by decide +kernel
theorem dX6_burntWorth_34 : decode cX6_burntWorth 34 = .ok (.goto (-30), 3) := by decide +kernel
theorem dX6_burntWorth_37 : decode cX6_burntWorth 37 = .ok (.iload_n 2, 1) := by decide +kernel
theorem dX6_burntWorth_38 : decode cX6_burntWorth 38 = .ok (.ireturn, 1) := by decide +kernel
theorem dX6_worthBy_0 : decode cX6_worthBy 0 = .ok (.aload_n 0, 1) := by decide +kernel
theorem dX6_worthBy_1 : decode cX6_worthBy 1 = .ok (.aload_n 1, 1) := by decide +kernel
theorem dX6_worthBy_2 : decode cX6_worthBy 2 = .ok (.iload_n 3, 1) := by decide +kernel
theorem dX6_worthBy_3 : decode cX6_worthBy 3 = .ok (.bipush (-9), 2) := by decide +kernel
theorem dX6_worthBy_5 : decode cX6_worthBy 5 = .ok (.invokevirtual 106, 3) := by decide +kernel
theorem dX6_worthBy_8 : decode cX6_worthBy 8 = .ok (.aload_n 0, 1) := by decide +kernel
theorem dX6_worthBy_9 : decode cX6_worthBy 9 = .ok (.aload_n 1, 1) := by decide +kernel
theorem dX6_worthBy_10 : decode cX6_worthBy 10 = .ok (.iload_n 2, 1) := by decide +kernel
theorem dX6_worthBy_11 : decode cX6_worthBy 11 = .ok (.invokevirtual 110, 3) := by decide +kernel
theorem dX6_worthBy_14 : decode cX6_worthBy 14 = .ok (.aload_n 0, 1) := by decide +kernel
theorem dX6_worthBy_15 : decode cX6_worthBy 15 = .ok (.aload_n 1, 1) := by decide +kernel
theorem dX6_worthBy_16 : decode cX6_worthBy 16 = .ok (.invokevirtual 114, 3) := by decide +kernel
theorem dX6_worthBy_19 : decode cX6_worthBy 19 = .ok (.ireturn, 1) := by decide +kernel
theorem dX6_letter_0 : decode cX6_letter 0 = .ok (.iload_n 1, 1) := by decide +kernel
theorem dX6_letter_1 : decode cX6_letter 1 = .ok (.ifCond .ge 10, 3) := by decide +kernel
theorem dX6_letter_4 : decode cX6_letter 4 = .ok (.aload_n 0, 1) := by decide +kernel
theorem dX6_letter_5 : decode cX6_letter 5 = .ok (.bipush (-4), 2) := by decide +kernel
theorem dX6_letter_7 : decode cX6_letter 7 = .ok (.invokevirtual 51, 3) := by decide +kernel
theorem dX6_letter_10 : decode cX6_letter 10 = .ok (.ireturn, 1) := by decide +kernel
theorem dX6_letter_11 : decode cX6_letter 11 = .ok (.iload_n 1, 1) := by decide +kernel
theorem dX6_letter_12 : decode cX6_letter 12 = .ok (.sipush 255, 3) := by decide +kernel
theorem dX6_letter_15 : decode cX6_letter 15 = .ok (.if_icmp .gt 12, 3) := by decide +kernel
theorem dX6_letter_18 : decode cX6_letter 18 = .ok (.aload_n 0, 1) := by decide +kernel
theorem dX6_letter_19 : decode cX6_letter 19 = .ok (.getfield 118, 3) := by decide +kernel
theorem dX6_letter_22 : decode cX6_letter 22 = .ok (.bipush 96, 2) := by decide +kernel
theorem dX6_letter_24 : decode cX6_letter 24 = .ok (.if_icmp .ne 10, 3) := by decide +kernel
theorem dX6_letter_27 : decode cX6_letter 27 = .ok (.aload_n 0, 1) := by decide +kernel
theorem dX6_letter_28 : decode cX6_letter 28 = .ok (.bipush (-6), 2) := by decide +kernel
theorem dX6_letter_30 : decode cX6_letter 30 = .ok (.invokevirtual 51, 3) := by decide +kernel
theorem dX6_letter_33 : decode cX6_letter 33 = .ok (.ireturn, 1) := by decide +kernel
theorem dX6_letter_34 : decode cX6_letter 34 = .ok (.aload_n 0, 1) := by decide +kernel
theorem dX6_letter_35 : decode cX6_letter 35 = .ok (.getfield 22, 3) := by decide +kernel
theorem dX6_letter_38 : decode cX6_letter 38 = .ok (.aload_n 0, 1) := by decide +kernel
theorem dX6_letter_39 : decode cX6_letter 39 = .ok (.getfield 118, 3) := by decide +kernel
theorem dX6_letter_42 : decode cX6_letter 42 = .ok (.iload_n 1, 1) := by decide +kernel
theorem dX6_letter_43 : decode cX6_letter 43 = .ok (.iastore, 1) := by decide +kernel
theorem dX6_letter_44 : decode cX6_letter 44 = .ok (.aload_n 0, 1) := by decide +kernel
theorem dX6_letter_45 : decode cX6_letter 45 = .ok (.dup, 1) := by decide +kernel
theorem dX6_letter_46 : decode cX6_letter 46 = .ok (.getfield 118, 3) := by decide +kernel
theorem dX6_letter_49 : decode cX6_letter 49 = .ok (.iconst 1, 1) := by decide +kernel
theorem dX6_letter_50 : decode cX6_letter 50 = .ok (.iadd, 1) := by decide +kernel
theorem dX6_letter_51 : decode cX6_letter 51 = .ok (.putfield 118, 3) := by decide +kernel
theorem dX6_letter_54 : decode cX6_letter 54 = .ok (.aload_n 0, 1) := by decide +kernel
theorem dX6_letter_55 : decode cX6_letter 55 = .ok (.getfield 118, 3) := by decide +kernel
theorem dX6_letter_58 : decode cX6_letter 58 = .ok (.ireturn, 1) := by decide +kernel
theorem dX6_here_0 : decode cX6_here 0 = .ok (.aload_n 0, 1) := by decide +kernel
theorem dX6_here_1 : decode cX6_here 1 = .ok (.getfield 121, 3) := by decide +kernel
theorem dX6_here_4 : decode cX6_here 4 = .ok (.aload_n 0, 1) := by decide +kernel
theorem dX6_here_5 : decode cX6_here 5 = .ok (.getfield 118, 3) := by decide +kernel
theorem dX6_here_8 : decode cX6_here 8 = .ok (.if_icmp .ge 15, 3) := by decide +kernel
theorem dX6_here_11 : decode cX6_here 11 = .ok (.aload_n 0, 1) := by decide +kernel
theorem dX6_here_12 : decode cX6_here 12 = .ok (.getfield 22, 3) := by decide +kernel
theorem dX6_here_15 : decode cX6_here 15 = .ok (.aload_n 0, 1) := by decide +kernel
theorem dX6_here_16 : decode cX6_here 16 = .ok (.getfield 121, 3) := by decide +kernel
theorem dX6_here_19 : decode cX6_here 19 = .ok (.iaload, 1) := by decide +kernel
theorem dX6_here_20 : decode cX6_here 20 = .ok (.goto 4, 3) := by decide +kernel
theorem dX6_here_23 : decode cX6_here 23 = .ok (.iconst (-1), 1) := by decide +kernel
theorem dX6_here_24 : decode cX6_here 24 = .ok (.ireturn, 1) := by decide +kernel
theorem dX6_readsNumber_0 : decode cX6_readsNumber 0 = .ok (.aload_n 0, 1) := by decide +kernel
theorem dX6_readsNumber_1 : decode cX6_readsNumber 1 = .ok (.getfield 46, 3) := by decide +kernel
theorem dX6_readsNumber_4 : decode cX6_readsNumber 4 = .ok (.iload_n 1, 1) := by decide +kernel
theorem dX6_readsNumber_5 : decode cX6_readsNumber 5 = .ok (.iconst 0, 1) := by decide +kernel
theorem dX6_readsNumber_6 : decode cX6_readsNumber 6 = .ok (.iastore, 1) := by decide +kernel
theorem dX6_readsNumber_7 : decode cX6_readsNumber 7 = .ok (.iconst 0, 1) := by decide +kernel
theorem dX6_readsNumber_8 : decode cX6_readsNumber 8 = .ok (.istore_n 3, 1) := by decide +kernel
theorem dX6_readsNumber_9 : decode cX6_readsNumber 9 = .ok (.iload_n 3, 1) := by decide +kernel
theorem dX6_readsNumber_10 : decode cX6_readsNumber 10 = .ok (.iload_n 2, 1) := by decide +kernel
theorem dX6_readsNumber_11 : decode cX6_readsNumber 11 = .ok (.if_icmp .ge 58, 3) := by decide +kernel
theorem dX6_readsNumber_14 : decode cX6_readsNumber 14 = .ok (.aload_n 0, 1) := by decide +kernel
theorem dX6_readsNumber_15 : decode cX6_readsNumber 15 = .ok (.invokevirtual 124, 3) := by decide +kernel
theorem dX6_readsNumber_18 : decode cX6_readsNumber 18 = .ok (.bipush 48, 2) := by decide +kernel
theorem dX6_readsNumber_20 : decode cX6_readsNumber 20 = .ok (.bipush 57, 2) := by decide +kernel
theorem dX6_readsNumber_22 : decode cX6_readsNumber 22 = .ok (.invokestatic 55, 3) := by decide +kernel
theorem dX6_readsNumber_25 : decode cX6_readsNumber 25 = .ok (.ifCond .ne 5, 3) := by decide +kernel
theorem dX6_readsNumber_28 : decode cX6_readsNumber 28 = .ok (.iconst 0, 1) := by decide +kernel
theorem dX6_readsNumber_29 : decode cX6_readsNumber 29 = .ok (.ireturn, 1) := by decide +kernel
theorem dX6_readsNumber_30 : decode cX6_readsNumber 30 = .ok (.aload_n 0, 1) := by decide +kernel
theorem dX6_readsNumber_31 : decode cX6_readsNumber 31 = .ok (.getfield 46, 3) := by decide +kernel
theorem dX6_readsNumber_34 : decode cX6_readsNumber 34 = .ok (.iload_n 1, 1) := by decide +kernel
theorem dX6_readsNumber_35 : decode cX6_readsNumber 35 = .ok (.bipush 10, 2) := by decide +kernel
theorem dX6_readsNumber_37 : decode cX6_readsNumber 37 = .ok (.aload_n 0, 1) := by decide +kernel
theorem dX6_readsNumber_38 : decode cX6_readsNumber 38 = .ok (.getfield 46, 3) := by decide +kernel
theorem dX6_readsNumber_41 : decode cX6_readsNumber 41 = .ok (.iload_n 1, 1) := by decide +kernel
theorem dX6_readsNumber_42 : decode cX6_readsNumber 42 = .ok (.iaload, 1) := by decide +kernel
theorem dX6_readsNumber_43 : decode cX6_readsNumber 43 = .ok (.imul, 1) := by decide +kernel
theorem dX6_readsNumber_44 : decode cX6_readsNumber 44 = .ok (.aload_n 0, 1) := by decide +kernel
theorem dX6_readsNumber_45 : decode cX6_readsNumber 45 = .ok (.invokevirtual 124, 3) := by decide +kernel
theorem dX6_readsNumber_48 : decode cX6_readsNumber 48 = .ok (.iadd, 1) := by decide +kernel
theorem dX6_readsNumber_49 : decode cX6_readsNumber 49 = .ok (.bipush 48, 2) := by decide +kernel
theorem dX6_readsNumber_51 : decode cX6_readsNumber 51 = .ok (.isub, 1) := by decide +kernel
theorem dX6_readsNumber_52 : decode cX6_readsNumber 52 = .ok (.iastore, 1) := by decide +kernel
theorem dX6_readsNumber_53 : decode cX6_readsNumber 53 = .ok (.aload_n 0, 1) := by decide +kernel
theorem dX6_readsNumber_54 : decode cX6_readsNumber 54 = .ok (.dup, 1) := by decide +kernel
theorem dX6_readsNumber_55 : decode cX6_readsNumber 55 = .ok (.getfield 121, 3) := by decide +kernel
theorem dX6_readsNumber_58 : decode cX6_readsNumber 58 = .ok (.iconst 1, 1) := by decide +kernel
theorem dX6_readsNumber_59 : decode cX6_readsNumber 59 = .ok (.iadd, 1) := by decide +kernel
theorem dX6_readsNumber_60 : decode cX6_readsNumber 60 = .ok (.putfield 121, 3) := by decide +kernel
theorem dX6_readsNumber_63 : decode cX6_readsNumber 63 = .ok (.iinc 3 1, 3) := by decide +kernel
theorem dX6_readsNumber_66 : decode cX6_readsNumber 66 = .ok (.goto (-57), 3) := by decide +kernel
theorem dX6_readsNumber_69 : decode cX6_readsNumber 69 = .ok (.iconst 1, 1) := by decide +kernel
theorem dX6_readsNumber_70 : decode cX6_readsNumber 70 = .ok (.ireturn, 1) := by decide +kernel
theorem dX6_kindBy_0 : decode cX6_kindBy 0 = .ok (.iload_n 0, 1) := by decide +kernel
theorem dX6_kindBy_1 : decode cX6_kindBy 1 = .ok (.tableswitch 107 100 119 #[105, 107, 107, 107, 107, 107, 107, 107, 97, 107, 107, 107, 101, 107, 107, 99, 95, 107, 107, 103], 95) := by decide +kernel
theorem dX6_kindBy_96 : decode cX6_kindBy 96 = .ok (.iconst 0, 1) := by decide +kernel
theorem dX6_kindBy_97 : decode cX6_kindBy 97 = .ok (.ireturn, 1) := by decide +kernel
theorem dX6_kindBy_98 : decode cX6_kindBy 98 = .ok (.iconst 1, 1) := by decide +kernel
theorem dX6_kindBy_99 : decode cX6_kindBy 99 = .ok (.ireturn, 1) := by decide +kernel
theorem dX6_kindBy_100 : decode cX6_kindBy 100 = .ok (.iconst 2, 1) := by decide +kernel
theorem dX6_kindBy_101 : decode cX6_kindBy 101 = .ok (.ireturn, 1) := by decide +kernel
theorem dX6_kindBy_102 : decode cX6_kindBy 102 = .ok (.iconst 3, 1) := by decide +kernel
theorem dX6_kindBy_103 : decode cX6_kindBy 103 = .ok (.ireturn, 1) := by decide +kernel
theorem dX6_kindBy_104 : decode cX6_kindBy 104 = .ok (.iconst 4, 1) := by decide +kernel
theorem dX6_kindBy_105 : decode cX6_kindBy 105 = .ok (.ireturn, 1) := by decide +kernel
theorem dX6_kindBy_106 : decode cX6_kindBy 106 = .ok (.iconst 5, 1) := by decide +kernel
theorem dX6_kindBy_107 : decode cX6_kindBy 107 = .ok (.ireturn, 1) := by decide +kernel
theorem dX6_kindBy_108 : decode cX6_kindBy 108 = .ok (.bipush (-9), 2) := by decide +kernel
theorem dX6_kindBy_110 : decode cX6_kindBy 110 = .ok (.ireturn, 1) := by decide +kernel
theorem dX6_readsKind_0 : decode cX6_readsKind 0 = .ok (.aload_n 0, 1) := by decide +kernel
theorem dX6_readsKind_1 : decode cX6_readsKind 1 = .ok (.getfield 46, 3) := by decide +kernel
theorem dX6_readsKind_4 : decode cX6_readsKind 4 = .ok (.iconst 0, 1) := by decide +kernel
theorem dX6_readsKind_5 : decode cX6_readsKind 5 = .ok (.aload_n 0, 1) := by decide +kernel
theorem dX6_readsKind_6 : decode cX6_readsKind 6 = .ok (.invokevirtual 124, 3) := by decide +kernel
theorem dX6_readsKind_9 : decode cX6_readsKind 9 = .ok (.invokestatic 128, 3) := by decide +kernel
theorem dX6_readsKind_12 : decode cX6_readsKind 12 = .ok (.iastore, 1) := by decide +kernel
theorem dX6_readsKind_13 : decode cX6_readsKind 13 = .ok (.aload_n 0, 1) := by decide +kernel
theorem dX6_readsKind_14 : decode cX6_readsKind 14 = .ok (.dup, 1) := by decide +kernel
theorem dX6_readsKind_15 : decode cX6_readsKind 15 = .ok (.getfield 121, 3) := by decide +kernel
theorem dX6_readsKind_18 : decode cX6_readsKind 18 = .ok (.aload_n 0, 1) := by decide +kernel
theorem dX6_readsKind_19 : decode cX6_readsKind 19 = .ok (.getfield 46, 3) := by decide +kernel
theorem dX6_readsKind_22 : decode cX6_readsKind 22 = .ok (.iconst 0, 1) := by decide +kernel
theorem dX6_readsKind_23 : decode cX6_readsKind 23 = .ok (.iaload, 1) := by decide +kernel
theorem dX6_readsKind_24 : decode cX6_readsKind 24 = .ok (.ifCond .ge 7, 3) := by decide +kernel
theorem dX6_readsKind_27 : decode cX6_readsKind 27 = .ok (.iconst 0, 1) := by decide +kernel
theorem dX6_readsKind_28 : decode cX6_readsKind 28 = .ok (.goto 4, 3) := by decide +kernel
theorem dX6_readsKind_31 : decode cX6_readsKind 31 = .ok (.iconst 1, 1) := by decide +kernel
theorem dX6_readsKind_32 : decode cX6_readsKind 32 = .ok (.iadd, 1) := by decide +kernel
theorem dX6_readsKind_33 : decode cX6_readsKind 33 = .ok (.putfield 121, 3) := by decide +kernel
theorem dX6_readsKind_36 : decode cX6_readsKind 36 = .ok (.aload_n 0, 1) := by decide +kernel
theorem dX6_readsKind_37 : decode cX6_readsKind 37 = .ok (.getfield 46, 3) := by decide +kernel
theorem dX6_readsKind_40 : decode cX6_readsKind 40 = .ok (.iconst 0, 1) := by decide +kernel
theorem dX6_readsKind_41 : decode cX6_readsKind 41 = .ok (.iaload, 1) := by decide +kernel
theorem dX6_readsKind_42 : decode cX6_readsKind 42 = .ok (.ifCond .lt 7, 3) := by decide +kernel
theorem dX6_readsKind_45 : decode cX6_readsKind 45 = .ok (.iconst 1, 1) := by decide +kernel
theorem dX6_readsKind_46 : decode cX6_readsKind 46 = .ok (.goto 4, 3) := by decide +kernel
theorem dX6_readsKind_49 : decode cX6_readsKind 49 = .ok (.iconst 0, 1) := by decide +kernel
theorem dX6_readsKind_50 : decode cX6_readsKind 50 = .ok (.ireturn, 1) := by decide +kernel
theorem dX6_readsStatement_0 : decode cX6_readsStatement 0 = .ok (.aload_n 0, 1) := by decide +kernel
theorem dX6_readsStatement_1 : decode cX6_readsStatement 1 = .ok (.invokevirtual 124, 3) := by decide +kernel
theorem dX6_readsStatement_4 : decode cX6_readsStatement 4 = .ok (.istore_n 1, 1) := by decide +kernel
theorem dX6_readsStatement_5 : decode cX6_readsStatement 5 = .ok (.aload_n 0, 1) := by decide +kernel
theorem dX6_readsStatement_6 : decode cX6_readsStatement 6 = .ok (.dup, 1) := by decide +kernel
theorem dX6_readsStatement_7 : decode cX6_readsStatement 7 = .ok (.getfield 121, 3) := by decide +kernel
theorem dX6_readsStatement_10 : decode cX6_readsStatement 10 = .ok (.iconst 1, 1) := by decide +kernel
theorem dX6_readsStatement_11 : decode cX6_readsStatement 11 = .ok (.iadd, 1) := by decide +kernel
theorem dX6_readsStatement_12 : decode cX6_readsStatement 12 = .ok (.putfield 121, 3) := by decide +kernel
theorem dX6_readsStatement_15 : decode cX6_readsStatement 15 = .ok (.iload_n 1, 1) := by decide +kernel
theorem dX6_readsStatement_16 : decode cX6_readsStatement 16 = .ok (.tableswitch 218 107 118 #[163, 218, 218, 208, 218, 153, 218, 64, 218, 218, 218, 110], 64) := by decide +kernel
theorem dX6_readsStatement_80 : decode cX6_readsStatement 80 = .ok (.aload_n 0, 1) := by decide +kernel
theorem dX6_readsStatement_81 : decode cX6_readsStatement 81 = .ok (.invokevirtual 131, 3) := by decide +kernel
theorem dX6_readsStatement_84 : decode cX6_readsStatement 84 = .ok (.ifCond .eq 25, 3) := by decide +kernel
theorem dX6_readsStatement_87 : decode cX6_readsStatement 87 = .ok (.aload_n 0, 1) := by decide +kernel
theorem dX6_readsStatement_88 : decode cX6_readsStatement 88 = .ok (.iconst 1, 1) := by decide +kernel
theorem dX6_readsStatement_89 : decode cX6_readsStatement 89 = .ok (.iconst 2, 1) := by decide +kernel
theorem dX6_readsStatement_90 : decode cX6_readsStatement 90 = .ok (.invokevirtual 134, 3) := by decide +kernel
theorem dX6_readsStatement_93 : decode cX6_readsStatement 93 = .ok (.ifCond .eq 16, 3) := by decide +kernel
theorem dX6_readsStatement_96 : decode cX6_readsStatement 96 = .ok (.aload_n 0, 1) := by decide +kernel
theorem dX6_readsStatement_97 : decode cX6_readsStatement 97 = .ok (.iconst 3, 1) := by decide +kernel
theorem dX6_readsStatement_98 : decode cX6_readsStatement 98 = .ok (.iconst 1, 1) := by decide +kernel
theorem dX6_readsStatement_99 : decode cX6_readsStatement 99 = .ok (.invokevirtual 134, 3) := by decide +kernel
theorem dX6_readsStatement_102 : decode cX6_readsStatement 102 = .ok (.ifCond .eq 7, 3) := by decide +kernel
theorem dX6_readsStatement_105 : decode cX6_readsStatement 105 = .ok (.iconst 1, 1) := by decide +kernel
theorem dX6_readsStatement_106 : decode cX6_readsStatement 106 = .ok (.goto 4, 3) := by decide +kernel
theorem dX6_readsStatement_109 : decode cX6_readsStatement 109 = .ok (.iconst 0, 1) := by decide +kernel
theorem dX6_readsStatement_110 : decode cX6_readsStatement 110 = .ok (.istore_n 2, 1) := by decide +kernel
theorem dX6_readsStatement_111 : decode cX6_readsStatement 111 = .ok (.aload_n 0, 1) := by decide +kernel
theorem dX6_readsStatement_112 : decode cX6_readsStatement 112 = .ok (.getfield 46, 3) := by decide +kernel
theorem dX6_readsStatement_115 : decode cX6_readsStatement 115 = .ok (.iconst 2, 1) := by decide +kernel
theorem dX6_readsStatement_116 : decode cX6_readsStatement 116 = .ok (.aload_n 0, 1) := by decide +kernel
theorem dX6_readsStatement_117 : decode cX6_readsStatement 117 = .ok (.getfield 46, 3) := by decide +kernel
theorem dX6_readsStatement_120 : decode cX6_readsStatement 120 = .ok (.iconst 1, 1) := by decide +kernel
theorem dX6_readsStatement_121 : decode cX6_readsStatement 121 = .ok (.iaload, 1) := by decide +kernel
theorem dX6_readsStatement_122 : decode cX6_readsStatement 122 = .ok (.iastore, 1) := by decide +kernel
theorem dX6_readsStatement_123 : decode cX6_readsStatement 123 = .ok (.goto 123, 3) := by decide +kernel
theorem dX6_readsStatement_126 : decode cX6_readsStatement 126 = .ok (.aload_n 0, 1) := by decide +kernel
theorem dX6_readsStatement_127 : decode cX6_readsStatement 127 = .ok (.invokevirtual 131, 3) := by decide +kernel
theorem dX6_readsStatement_130 : decode cX6_readsStatement 130 = .ok (.ifCond .eq 34, 3) := by decide +kernel
theorem dX6_readsStatement_133 : decode cX6_readsStatement 133 = .ok (.aload_n 0, 1) := by decide +kernel
theorem dX6_readsStatement_134 : decode cX6_readsStatement 134 = .ok (.iconst 1, 1) := by decide +kernel
theorem dX6_readsStatement_135 : decode cX6_readsStatement 135 = .ok (.iconst 2, 1) := by decide +kernel
theorem dX6_readsStatement_136 : decode cX6_readsStatement 136 = .ok (.invokevirtual 134, 3) := by decide +kernel
theorem dX6_readsStatement_139 : decode cX6_readsStatement 139 = .ok (.ifCond .eq 25, 3) := by decide +kernel
theorem dX6_readsStatement_142 : decode cX6_readsStatement 142 = .ok (.aload_n 0, 1) := by decide +kernel
theorem dX6_readsStatement_143 : decode cX6_readsStatement 143 = .ok (.iconst 2, 1) := by decide +kernel
theorem dX6_readsStatement_144 : decode cX6_readsStatement 144 = .ok (.iconst 2, 1) := by decide +kernel
theorem dX6_readsStatement_145 : decode cX6_readsStatement 145 = .ok (.invokevirtual 134, 3) := by decide +kernel
theorem dX6_readsStatement_148 : decode cX6_readsStatement 148 = .ok (.ifCond .eq 16, 3) := by decide +kernel
theorem dX6_readsStatement_151 : decode cX6_readsStatement 151 = .ok (.aload_n 0, 1) := by decide +kernel
theorem dX6_readsStatement_152 : decode cX6_readsStatement 152 = .ok (.iconst 3, 1) := by decide +kernel
theorem dX6_readsStatement_153 : decode cX6_readsStatement 153 = .ok (.iconst 1, 1) := by decide +kernel
theorem dX6_readsStatement_154 : decode cX6_readsStatement 154 = .ok (.invokevirtual 134, 3) := by decide +kernel
theorem dX6_readsStatement_157 : decode cX6_readsStatement 157 = .ok (.ifCond .eq 7, 3) := by decide +kernel
theorem dX6_readsStatement_160 : decode cX6_readsStatement 160 = .ok (.iconst 1, 1) := by decide +kernel
theorem dX6_readsStatement_161 : decode cX6_readsStatement 161 = .ok (.goto 4, 3) := by decide +kernel
theorem dX6_readsStatement_164 : decode cX6_readsStatement 164 = .ok (.iconst 0, 1) := by decide +kernel
theorem dX6_readsStatement_165 : decode cX6_readsStatement 165 = .ok (.istore_n 2, 1) := by decide +kernel
theorem dX6_readsStatement_166 : decode cX6_readsStatement 166 = .ok (.goto 80, 3) := by decide +kernel
theorem dX6_readsStatement_169 : decode cX6_readsStatement 169 = .ok (.aload_n 0, 1) := by decide +kernel
theorem dX6_readsStatement_170 : decode cX6_readsStatement 170 = .ok (.iconst 0, 1) := by decide +kernel
theorem dX6_readsStatement_171 : decode cX6_readsStatement 171 = .ok (.iconst 1, 1) := by decide +kernel
theorem dX6_readsStatement_172 : decode cX6_readsStatement 172 = .ok (.invokevirtual 134, 3) := by decide +kernel
theorem dX6_readsStatement_175 : decode cX6_readsStatement 175 = .ok (.istore_n 2, 1) := by decide +kernel
theorem dX6_readsStatement_176 : decode cX6_readsStatement 176 = .ok (.goto 70, 3) := by decide +kernel
theorem dX6_readsStatement_179 : decode cX6_readsStatement 179 = .ok (.aload_n 0, 1) := by decide +kernel
theorem dX6_readsStatement_180 : decode cX6_readsStatement 180 = .ok (.iconst 0, 1) := by decide +kernel
theorem dX6_readsStatement_181 : decode cX6_readsStatement 181 = .ok (.iconst 1, 1) := by decide +kernel
theorem dX6_readsStatement_182 : decode cX6_readsStatement 182 = .ok (.invokevirtual 134, 3) := by decide +kernel
theorem dX6_readsStatement_185 : decode cX6_readsStatement 185 = .ok (.ifCond .eq 34, 3) := by decide +kernel
theorem dX6_readsStatement_188 : decode cX6_readsStatement 188 = .ok (.aload_n 0, 1) := by decide +kernel
theorem dX6_readsStatement_189 : decode cX6_readsStatement 189 = .ok (.iconst 1, 1) := by decide +kernel
theorem dX6_readsStatement_190 : decode cX6_readsStatement 190 = .ok (.iconst 2, 1) := by decide +kernel
theorem dX6_readsStatement_191 : decode cX6_readsStatement 191 = .ok (.invokevirtual 134, 3) := by decide +kernel
theorem dX6_readsStatement_194 : decode cX6_readsStatement 194 = .ok (.ifCond .eq 25, 3) := by decide +kernel
theorem dX6_readsStatement_197 : decode cX6_readsStatement 197 = .ok (.aload_n 0, 1) := by decide +kernel
theorem dX6_readsStatement_198 : decode cX6_readsStatement 198 = .ok (.iconst 2, 1) := by decide +kernel
theorem dX6_readsStatement_199 : decode cX6_readsStatement 199 = .ok (.iconst 2, 1) := by decide +kernel
theorem dX6_readsStatement_200 : decode cX6_readsStatement 200 = .ok (.invokevirtual 134, 3) := by decide +kernel
theorem dX6_readsStatement_203 : decode cX6_readsStatement 203 = .ok (.ifCond .eq 16, 3) := by decide +kernel
theorem dX6_readsStatement_206 : decode cX6_readsStatement 206 = .ok (.aload_n 0, 1) := by decide +kernel
theorem dX6_readsStatement_207 : decode cX6_readsStatement 207 = .ok (.iconst 3, 1) := by decide +kernel
theorem dX6_readsStatement_208 : decode cX6_readsStatement 208 = .ok (.iconst 1, 1) := by decide +kernel
theorem dX6_readsStatement_209 : decode cX6_readsStatement 209 = .ok (.invokevirtual 134, 3) := by decide +kernel
theorem dX6_readsStatement_212 : decode cX6_readsStatement 212 = .ok (.ifCond .eq 7, 3) := by decide +kernel
theorem dX6_readsStatement_215 : decode cX6_readsStatement 215 = .ok (.iconst 1, 1) := by decide +kernel
theorem dX6_readsStatement_216 : decode cX6_readsStatement 216 = .ok (.goto 4, 3) := by decide +kernel
theorem dX6_readsStatement_219 : decode cX6_readsStatement 219 = .ok (.iconst 0, 1) := by decide +kernel
theorem dX6_readsStatement_220 : decode cX6_readsStatement 220 = .ok (.istore_n 2, 1) := by decide +kernel
theorem dX6_readsStatement_221 : decode cX6_readsStatement 221 = .ok (.goto 25, 3) := by decide +kernel
theorem dX6_readsStatement_224 : decode cX6_readsStatement 224 = .ok (.aload_n 0, 1) := by decide +kernel
theorem dX6_readsStatement_225 : decode cX6_readsStatement 225 = .ok (.iconst 0, 1) := by decide +kernel
theorem dX6_readsStatement_226 : decode cX6_readsStatement 226 = .ok (.iconst 2, 1) := by decide +kernel
theorem dX6_readsStatement_227 : decode cX6_readsStatement 227 = .ok (.invokevirtual 134, 3) := by decide +kernel
theorem dX6_readsStatement_230 : decode cX6_readsStatement 230 = .ok (.istore_n 2, 1) := by decide +kernel
theorem dX6_readsStatement_231 : decode cX6_readsStatement 231 = .ok (.goto 15, 3) := by decide +kernel
theorem dX6_readsStatement_234 : decode cX6_readsStatement 234 = .ok (.aload_n 0, 1) := by decide +kernel
theorem dX6_readsStatement_235 : decode cX6_readsStatement 235 = .ok (.dup, 1) := by decide +kernel
theorem dX6_readsStatement_236 : decode cX6_readsStatement 236 = .ok (.getfield 121, 3) := by decide +kernel
theorem dX6_readsStatement_239 : decode cX6_readsStatement 239 = .ok (.iconst 1, 1) := by decide +kernel
theorem dX6_readsStatement_240 : decode cX6_readsStatement 240 = .ok (.isub, 1) := by decide +kernel
theorem dX6_readsStatement_241 : decode cX6_readsStatement 241 = .ok (.putfield 121, 3) := by decide +kernel
theorem dX6_readsStatement_244 : decode cX6_readsStatement 244 = .ok (.iconst 0, 1) := by decide +kernel
theorem dX6_readsStatement_245 : decode cX6_readsStatement 245 = .ok (.ireturn, 1) := by decide +kernel
theorem dX6_readsStatement_246 : decode cX6_readsStatement 246 = .ok (.iload_n 2, 1) := by decide +kernel
theorem dX6_readsStatement_247 : decode cX6_readsStatement 247 = .ok (.ifCond .eq 12, 3) := by decide +kernel
theorem dX6_readsStatement_250 : decode cX6_readsStatement 250 = .ok (.aload_n 0, 1) := by decide +kernel
theorem dX6_readsStatement_251 : decode cX6_readsStatement 251 = .ok (.invokevirtual 124, 3) := by decide +kernel
theorem dX6_readsStatement_254 : decode cX6_readsStatement 254 = .ok (.bipush 59, 2) := by decide +kernel
theorem dX6_readsStatement_256 : decode cX6_readsStatement 256 = .ok (.if_icmp .eq 5, 3) := by decide +kernel
theorem dX6_readsStatement_259 : decode cX6_readsStatement 259 = .ok (.iconst 0, 1) := by decide +kernel
theorem dX6_readsStatement_260 : decode cX6_readsStatement 260 = .ok (.ireturn, 1) := by decide +kernel
theorem dX6_readsStatement_261 : decode cX6_readsStatement 261 = .ok (.aload_n 0, 1) := by decide +kernel
theorem dX6_readsStatement_262 : decode cX6_readsStatement 262 = .ok (.dup, 1) := by decide +kernel
theorem dX6_readsStatement_263 : decode cX6_readsStatement 263 = .ok (.getfield 121, 3) := by decide +kernel
theorem dX6_readsStatement_266 : decode cX6_readsStatement 266 = .ok (.iconst 1, 1) := by decide +kernel
theorem dX6_readsStatement_267 : decode cX6_readsStatement 267 = .ok (.iadd, 1) := by decide +kernel
theorem dX6_readsStatement_268 : decode cX6_readsStatement 268 = .ok (.putfield 121, 3) := by decide +kernel
theorem dX6_readsStatement_271 : decode cX6_readsStatement 271 = .ok (.iconst 1, 1) := by decide +kernel
theorem dX6_readsStatement_272 : decode cX6_readsStatement 272 = .ok (.ireturn, 1) := by decide +kernel
theorem dX6_isDone_0 : decode cX6_isDone 0 = .ok (.aload_n 0, 1) := by decide +kernel
theorem dX6_isDone_1 : decode cX6_isDone 1 = .ok (.getfield 46, 3) := by decide +kernel
theorem dX6_isDone_4 : decode cX6_isDone 4 = .ok (.iconst 0, 1) := by decide +kernel
theorem dX6_isDone_5 : decode cX6_isDone 5 = .ok (.iaload, 1) := by decide +kernel
theorem dX6_isDone_6 : decode cX6_isDone 6 = .ok (.istore_n 2, 1) := by decide +kernel
theorem dX6_isDone_7 : decode cX6_isDone 7 = .ok (.aload_n 0, 1) := by decide +kernel
theorem dX6_isDone_8 : decode cX6_isDone 8 = .ok (.getfield 46, 3) := by decide +kernel
theorem dX6_isDone_11 : decode cX6_isDone 11 = .ok (.iconst 1, 1) := by decide +kernel
theorem dX6_isDone_12 : decode cX6_isDone 12 = .ok (.iaload, 1) := by decide +kernel
theorem dX6_isDone_13 : decode cX6_isDone 13 = .ok (.aload_n 0, 1) := by decide +kernel
theorem dX6_isDone_14 : decode cX6_isDone 14 = .ok (.getfield 46, 3) := by decide +kernel
theorem dX6_isDone_17 : decode cX6_isDone 17 = .ok (.iconst 2, 1) := by decide +kernel
theorem dX6_isDone_18 : decode cX6_isDone 18 = .ok (.iaload, 1) := by decide +kernel
theorem dX6_isDone_19 : decode cX6_isDone 19 = .ok (.if_icmp .gt 19, 3) := by decide +kernel
theorem dX6_isDone_22 : decode cX6_isDone 22 = .ok (.aload_n 0, 1) := by decide +kernel
theorem dX6_isDone_23 : decode cX6_isDone 23 = .ok (.getfield 46, 3) := by decide +kernel
theorem dX6_isDone_26 : decode cX6_isDone 26 = .ok (.iconst 2, 1) := by decide +kernel
theorem dX6_isDone_27 : decode cX6_isDone 27 = .ok (.iaload, 1) := by decide +kernel
theorem dX6_isDone_28 : decode cX6_isDone 28 = .ok (.invokestatic 138, 3) := by decide +kernel
theorem dX6_isDone_31 : decode cX6_isDone 31 = .ok (.ifCond .eq 7, 3) := by decide +kernel
theorem dX6_isDone_34 : decode cX6_isDone 34 = .ok (.iconst 1, 1) := by decide +kernel
theorem dX6_isDone_35 : decode cX6_isDone 35 = .ok (.goto 4, 3) := by decide +kernel
theorem dX6_isDone_38 : decode cX6_isDone 38 = .ok (.iconst 0, 1) := by decide +kernel
theorem dX6_isDone_39 : decode cX6_isDone 39 = .ok (.istore_n 3, 1) := by decide +kernel
theorem dX6_isDone_40 : decode cX6_isDone 40 = .ok (.iload_n 1, 1) := by decide +kernel
theorem dX6_isDone_41 : decode cX6_isDone 41 = .ok (.lookupswitch 236 #[(107, 178), (112, 102), (114, 43), (118, 43)], 43) := by decide +kernel
theorem dX6_isDone_84 : decode cX6_isDone 84 = .ok (.iload_n 3, 1) := by decide +kernel
theorem dX6_isDone_85 : decode cX6_isDone 85 = .ok (.ifCond .ne 5, 3) := by decide +kernel
theorem dX6_isDone_88 : decode cX6_isDone 88 = .ok (.iconst 0, 1) := by decide +kernel
theorem dX6_isDone_89 : decode cX6_isDone 89 = .ok (.ireturn, 1) := by decide +kernel
theorem dX6_isDone_90 : decode cX6_isDone 90 = .ok (.aload_n 0, 1) := by decide +kernel
theorem dX6_isDone_91 : decode cX6_isDone 91 = .ok (.getfield 46, 3) := by decide +kernel
theorem dX6_isDone_94 : decode cX6_isDone 94 = .ok (.iconst 1, 1) := by decide +kernel
theorem dX6_isDone_95 : decode cX6_isDone 95 = .ok (.iaload, 1) := by decide +kernel
theorem dX6_isDone_96 : decode cX6_isDone 96 = .ok (.istore 4, 2) := by decide +kernel
theorem dX6_isDone_98 : decode cX6_isDone 98 = .ok (.iload 4, 2) := by decide +kernel
theorem dX6_isDone_100 : decode cX6_isDone 100 = .ok (.aload_n 0, 1) := by decide +kernel
theorem dX6_isDone_101 : decode cX6_isDone 101 = .ok (.getfield 46, 3) := by decide +kernel
theorem dX6_isDone_104 : decode cX6_isDone 104 = .ok (.iconst 2, 1) := by decide +kernel
theorem dX6_isDone_105 : decode cX6_isDone 105 = .ok (.iaload, 1) := by decide +kernel
theorem dX6_isDone_106 : decode cX6_isDone 106 = .ok (.if_icmp .gt 35, 3) := by decide +kernel
theorem dX6_isDone_109 : decode cX6_isDone 109 = .ok (.aload_n 0, 1) := by decide +kernel
theorem dX6_isDone_110 : decode cX6_isDone 110 = .ok (.getfield 9, 3) := by decide +kernel
theorem dX6_isDone_113 : decode cX6_isDone 113 = .ok (.iconst 2, 1) := by decide +kernel
theorem dX6_isDone_114 : decode cX6_isDone 114 = .ok (.iload 4, 2) := by decide +kernel
theorem dX6_isDone_116 : decode cX6_isDone 116 = .ok (.iadd, 1) := by decide +kernel
theorem dX6_isDone_117 : decode cX6_isDone 117 = .ok (.iload_n 2, 1) := by decide +kernel
theorem dX6_isDone_118 : decode cX6_isDone 118 = .ok (.iastore, 1) := by decide +kernel
theorem dX6_isDone_119 : decode cX6_isDone 119 = .ok (.aload_n 0, 1) := by decide +kernel
theorem dX6_isDone_120 : decode cX6_isDone 120 = .ok (.getfield 9, 3) := by decide +kernel
theorem dX6_isDone_123 : decode cX6_isDone 123 = .ok (.bipush 27, 2) := by decide +kernel
theorem dX6_isDone_125 : decode cX6_isDone 125 = .ok (.iload 4, 2) := by decide +kernel
theorem dX6_isDone_127 : decode cX6_isDone 127 = .ok (.iadd, 1) := by decide +kernel
theorem dX6_isDone_128 : decode cX6_isDone 128 = .ok (.aload_n 0, 1) := by decide +kernel
theorem dX6_isDone_129 : decode cX6_isDone 129 = .ok (.getfield 46, 3) := by decide +kernel
theorem dX6_isDone_132 : decode cX6_isDone 132 = .ok (.iconst 3, 1) := by decide +kernel
theorem dX6_isDone_133 : decode cX6_isDone 133 = .ok (.iaload, 1) := by decide +kernel
theorem dX6_isDone_134 : decode cX6_isDone 134 = .ok (.iastore, 1) := by decide +kernel
theorem dX6_isDone_135 : decode cX6_isDone 135 = .ok (.iinc 4 1, 3) := by decide +kernel
theorem dX6_isDone_138 : decode cX6_isDone 138 = .ok (.goto (-40), 3) := by decide +kernel
theorem dX6_isDone_141 : decode cX6_isDone 141 = .ok (.iconst 1, 1) := by decide +kernel
theorem dX6_isDone_142 : decode cX6_isDone 142 = .ok (.ireturn, 1) := by decide +kernel
theorem dX6_isDone_143 : decode cX6_isDone 143 = .ok (.iload_n 2, 1) := by decide +kernel
theorem dX6_isDone_144 : decode cX6_isDone 144 = .ok (.ifCond .eq 13, 3) := by decide +kernel
theorem dX6_isDone_147 : decode cX6_isDone 147 = .ok (.aload_n 0, 1) := by decide +kernel
theorem dX6_isDone_148 : decode cX6_isDone 148 = .ok (.getfield 9, 3) := by decide +kernel
theorem dX6_isDone_151 : decode cX6_isDone 151 = .ok (.iconst 0, 1) := by decide +kernel
theorem dX6_isDone_152 : decode cX6_isDone 152 = .ok (.iaload, 1) := by decide +kernel
theorem dX6_isDone_153 : decode cX6_isDone 153 = .ok (.iconst 5, 1) := by decide +kernel
theorem dX6_isDone_154 : decode cX6_isDone 154 = .ok (.if_icmp .ne 5, 3) := by decide +kernel
theorem dX6_isDone_157 : decode cX6_isDone 157 = .ok (.iconst 0, 1) := by decide +kernel
theorem dX6_isDone_158 : decode cX6_isDone 158 = .ok (.ireturn, 1) := by decide +kernel
theorem dX6_isDone_159 : decode cX6_isDone 159 = .ok (.aload_n 0, 1) := by decide +kernel
theorem dX6_isDone_160 : decode cX6_isDone 160 = .ok (.getfield 9, 3) := by decide +kernel
theorem dX6_isDone_163 : decode cX6_isDone 163 = .ok (.bipush 52, 2) := by decide +kernel
theorem dX6_isDone_165 : decode cX6_isDone 165 = .ok (.aload_n 0, 1) := by decide +kernel
theorem dX6_isDone_166 : decode cX6_isDone 166 = .ok (.getfield 9, 3) := by decide +kernel
theorem dX6_isDone_169 : decode cX6_isDone 169 = .ok (.iconst 0, 1) := by decide +kernel
theorem dX6_isDone_170 : decode cX6_isDone 170 = .ok (.iaload, 1) := by decide +kernel
theorem dX6_isDone_171 : decode cX6_isDone 171 = .ok (.iadd, 1) := by decide +kernel
theorem dX6_isDone_172 : decode cX6_isDone 172 = .ok (.iload_n 2, 1) := by decide +kernel
theorem dX6_isDone_173 : decode cX6_isDone 173 = .ok (.iastore, 1) := by decide +kernel
theorem dX6_isDone_174 : decode cX6_isDone 174 = .ok (.iconst 0, 1) := by decide +kernel
theorem dX6_isDone_175 : decode cX6_isDone 175 = .ok (.istore 4, 2) := by decide +kernel
theorem dX6_isDone_177 : decode cX6_isDone 177 = .ok (.iload 4, 2) := by decide +kernel
theorem dX6_isDone_179 : decode cX6_isDone 179 = .ok (.bipush 25, 2) := by decide +kernel
theorem dX6_isDone_181 : decode cX6_isDone 181 = .ok (.if_icmp .ge 26, 3) := by decide +kernel
theorem dX6_isDone_184 : decode cX6_isDone 184 = .ok (.aload_n 0, 1) := by decide +kernel
theorem dX6_isDone_185 : decode cX6_isDone 185 = .ok (.getfield 9, 3) := by decide +kernel
theorem dX6_isDone_188 : decode cX6_isDone 188 = .ok (.aload_n 0, 1) := by decide +kernel
theorem dX6_isDone_189 : decode cX6_isDone 189 = .ok (.getfield 9, 3) := by decide +kernel
theorem dX6_isDone_192 : decode cX6_isDone 192 = .ok (.iconst 0, 1) := by decide +kernel
theorem dX6_isDone_193 : decode cX6_isDone 193 = .ok (.iaload, 1) := by decide +kernel
theorem dX6_isDone_194 : decode cX6_isDone 194 = .ok (.iload 4, 2) := by decide +kernel
theorem dX6_isDone_196 : decode cX6_isDone 196 = .ok (.invokestatic 64, 3) := by decide +kernel
theorem dX6_isDone_199 : decode cX6_isDone 199 = .ok (.iconst 0, 1) := by decide +kernel
theorem dX6_isDone_200 : decode cX6_isDone 200 = .ok (.iastore, 1) := by decide +kernel
theorem dX6_isDone_201 : decode cX6_isDone 201 = .ok (.iinc 4 1, 3) := by decide +kernel
theorem dX6_isDone_204 : decode cX6_isDone 204 = .ok (.goto (-27), 3) := by decide +kernel
theorem dX6_isDone_207 : decode cX6_isDone 207 = .ok (.aload_n 0, 1) := by decide +kernel
theorem dX6_isDone_208 : decode cX6_isDone 208 = .ok (.getfield 9, 3) := by decide +kernel
theorem dX6_isDone_211 : decode cX6_isDone 211 = .ok (.iconst 0, 1) := by decide +kernel
theorem dX6_isDone_212 : decode cX6_isDone 212 = .ok (.dup2, 1) := by decide +kernel
theorem dX6_isDone_213 : decode cX6_isDone 213 = .ok (.iaload, 1) := by decide +kernel
theorem dX6_isDone_214 : decode cX6_isDone 214 = .ok (.iconst 1, 1) := by decide +kernel
theorem dX6_isDone_215 : decode cX6_isDone 215 = .ok (.iadd, 1) := by decide +kernel
theorem dX6_isDone_216 : decode cX6_isDone 216 = .ok (.iastore, 1) := by decide +kernel
theorem dX6_isDone_217 : decode cX6_isDone 217 = .ok (.iconst 1, 1) := by decide +kernel
theorem dX6_isDone_218 : decode cX6_isDone 218 = .ok (.ireturn, 1) := by decide +kernel
theorem dX6_isDone_219 : decode cX6_isDone 219 = .ok (.aload_n 0, 1) := by decide +kernel
theorem dX6_isDone_220 : decode cX6_isDone 220 = .ok (.iload_n 2, 1) := by decide +kernel
theorem dX6_isDone_221 : decode cX6_isDone 221 = .ok (.invokevirtual 59, 3) := by decide +kernel
theorem dX6_isDone_224 : decode cX6_isDone 224 = .ok (.ifCond .eq 7, 3) := by decide +kernel
theorem dX6_isDone_227 : decode cX6_isDone 227 = .ok (.iload_n 3, 1) := by decide +kernel
theorem dX6_isDone_228 : decode cX6_isDone 228 = .ok (.ifCond .ne 5, 3) := by decide +kernel
theorem dX6_isDone_231 : decode cX6_isDone 231 = .ok (.iconst 0, 1) := by decide +kernel
theorem dX6_isDone_232 : decode cX6_isDone 232 = .ok (.ireturn, 1) := by decide +kernel
theorem dX6_isDone_233 : decode cX6_isDone 233 = .ok (.aload_n 0, 1) := by decide +kernel
theorem dX6_isDone_234 : decode cX6_isDone 234 = .ok (.getfield 46, 3) := by decide +kernel
theorem dX6_isDone_237 : decode cX6_isDone 237 = .ok (.iconst 1, 1) := by decide +kernel
theorem dX6_isDone_238 : decode cX6_isDone 238 = .ok (.iaload, 1) := by decide +kernel
theorem dX6_isDone_239 : decode cX6_isDone 239 = .ok (.istore 4, 2) := by decide +kernel
theorem dX6_isDone_241 : decode cX6_isDone 241 = .ok (.iload 4, 2) := by decide +kernel
theorem dX6_isDone_243 : decode cX6_isDone 243 = .ok (.aload_n 0, 1) := by decide +kernel
theorem dX6_isDone_244 : decode cX6_isDone 244 = .ok (.getfield 46, 3) := by decide +kernel
theorem dX6_isDone_247 : decode cX6_isDone 247 = .ok (.iconst 2, 1) := by decide +kernel
theorem dX6_isDone_248 : decode cX6_isDone 248 = .ok (.iaload, 1) := by decide +kernel
theorem dX6_isDone_249 : decode cX6_isDone 249 = .ok (.if_icmp .gt 26, 3) := by decide +kernel
theorem dX6_isDone_252 : decode cX6_isDone 252 = .ok (.aload_n 0, 1) := by decide +kernel
theorem dX6_isDone_253 : decode cX6_isDone 253 = .ok (.getfield 9, 3) := by decide +kernel
theorem dX6_isDone_256 : decode cX6_isDone 256 = .ok (.iload_n 2, 1) := by decide +kernel
theorem dX6_isDone_257 : decode cX6_isDone 257 = .ok (.iload 4, 2) := by decide +kernel
theorem dX6_isDone_259 : decode cX6_isDone 259 = .ok (.invokestatic 64, 3) := by decide +kernel
theorem dX6_isDone_262 : decode cX6_isDone 262 = .ok (.aload_n 0, 1) := by decide +kernel
theorem dX6_isDone_263 : decode cX6_isDone 263 = .ok (.getfield 46, 3) := by decide +kernel
theorem dX6_isDone_266 : decode cX6_isDone 266 = .ok (.iconst 3, 1) := by decide +kernel
theorem dX6_isDone_267 : decode cX6_isDone 267 = .ok (.iaload, 1) := by decide +kernel
theorem dX6_isDone_268 : decode cX6_isDone 268 = .ok (.iastore, 1) := by decide +kernel
theorem dX6_isDone_269 : decode cX6_isDone 269 = .ok (.iinc 4 1, 3) := by decide +kernel
theorem dX6_isDone_272 : decode cX6_isDone 272 = .ok (.goto (-31), 3) := by decide +kernel
theorem dX6_isDone_275 : decode cX6_isDone 275 = .ok (.iconst 1, 1) := by decide +kernel
theorem dX6_isDone_276 : decode cX6_isDone 276 = .ok (.ireturn, 1) := by decide +kernel
theorem dX6_isDone_277 : decode cX6_isDone 277 = .ok (.iload_n 2, 1) := by decide +kernel
theorem dX6_isDone_278 : decode cX6_isDone 278 = .ok (.iconst 1, 1) := by decide +kernel
theorem dX6_isDone_279 : decode cX6_isDone 279 = .ok (.bipush 60, 2) := by decide +kernel
theorem dX6_isDone_281 : decode cX6_isDone 281 = .ok (.invokestatic 55, 3) := by decide +kernel
theorem dX6_isDone_284 : decode cX6_isDone 284 = .ok (.ifCond .eq 17, 3) := by decide +kernel
theorem dX6_isDone_287 : decode cX6_isDone 287 = .ok (.aload_n 0, 1) := by decide +kernel
theorem dX6_isDone_288 : decode cX6_isDone 288 = .ok (.getfield 9, 3) := by decide +kernel
theorem dX6_isDone_291 : decode cX6_isDone 291 = .ok (.iconst 1, 1) := by decide +kernel
theorem dX6_isDone_292 : decode cX6_isDone 292 = .ok (.iaload, 1) := by decide +kernel
theorem dX6_isDone_293 : decode cX6_isDone 293 = .ok (.iload_n 2, 1) := by decide +kernel
theorem dX6_isDone_294 : decode cX6_isDone 294 = .ok (.iadd, 1) := by decide +kernel
theorem dX6_isDone_295 : decode cX6_isDone 295 = .ok (.sipush 999, 3) := by decide +kernel
theorem dX6_isDone_298 : decode cX6_isDone 298 = .ok (.if_icmp .le 5, 3) := by decide +kernel
theorem dX6_isDone_301 : decode cX6_isDone 301 = .ok (.iconst 0, 1) := by decide +kernel
theorem dX6_isDone_302 : decode cX6_isDone 302 = .ok (.ireturn, 1) := by decide +kernel
theorem dX6_isDone_303 : decode cX6_isDone 303 = .ok (.iconst 0, 1) := by decide +kernel
theorem dX6_isDone_304 : decode cX6_isDone 304 = .ok (.istore 4, 2) := by decide +kernel
theorem dX6_isDone_306 : decode cX6_isDone 306 = .ok (.iload 4, 2) := by decide +kernel
theorem dX6_isDone_308 : decode cX6_isDone 308 = .ok (.iload_n 2, 1) := by decide +kernel
theorem dX6_isDone_309 : decode cX6_isDone 309 = .ok (.if_icmp .ge 16, 3) := by decide +kernel
theorem dX6_isDone_312 : decode cX6_isDone 312 = .ok (.aload_n 0, 1) := by decide +kernel
theorem dX6_isDone_313 : decode cX6_isDone 313 = .ok (.getfield 9, 3) := by decide +kernel
theorem dX6_isDone_316 : decode cX6_isDone 316 = .ok (.invokestatic 141, 3) := by decide +kernel
theorem dX6_isDone_319 : decode cX6_isDone 319 = .ok (.iinc 4 1, 3) := by decide +kernel
theorem dX6_isDone_322 : decode cX6_isDone 322 = .ok (.goto (-16), 3) := by decide +kernel
theorem dX6_isDone_325 : decode cX6_isDone 325 = .ok (.iconst 1, 1) := by decide +kernel
theorem dX6_isDone_326 : decode cX6_isDone 326 = .ok (.ireturn, 1) := by decide +kernel
theorem dX6_house_0 : decode cX6_house 0 = .ok (.aload_n 0, 1) := by decide +kernel
theorem dX6_house_1 : decode cX6_house 1 = .ok (.iconst 0, 1) := by decide +kernel
theorem dX6_house_2 : decode cX6_house 2 = .ok (.putfield 121, 3) := by decide +kernel
theorem dX6_house_5 : decode cX6_house 5 = .ok (.iconst 0, 1) := by decide +kernel
theorem dX6_house_6 : decode cX6_house 6 = .ok (.istore_n 1, 1) := by decide +kernel
theorem dX6_house_7 : decode cX6_house 7 = .ok (.bipush (-9), 2) := by decide +kernel
theorem dX6_house_9 : decode cX6_house 9 = .ok (.istore_n 2, 1) := by decide +kernel
theorem dX6_house_10 : decode cX6_house 10 = .ok (.aload_n 0, 1) := by decide +kernel
theorem dX6_house_11 : decode cX6_house 11 = .ok (.invokevirtual 144, 3) := by decide +kernel
theorem dX6_house_14 : decode cX6_house 14 = .ok (.ifCond .ne 12, 3) := by decide +kernel
theorem dX6_house_17 : decode cX6_house 17 = .ok (.sipush (-1000), 3) := by decide +kernel
theorem dX6_house_20 : decode cX6_house 20 = .ok (.aload_n 0, 1) := by decide +kernel
theorem dX6_house_21 : decode cX6_house 21 = .ok (.getfield 121, 3) := by decide +kernel
theorem dX6_house_24 : decode cX6_house 24 = .ok (.isub, 1) := by decide +kernel
theorem dX6_house_25 : decode cX6_house 25 = .ok (.istore_n 2, 1) := by decide +kernel
theorem dX6_house_26 : decode cX6_house 26 = .ok (.iinc 1 1, 3) := by decide +kernel
theorem dX6_house_29 : decode cX6_house 29 = .ok (.iload_n 2, 1) := by decide +kernel
theorem dX6_house_30 : decode cX6_house 30 = .ok (.bipush (-9), 2) := by decide +kernel
theorem dX6_house_32 : decode cX6_house 32 = .ok (.if_icmp .ne 14, 3) := by decide +kernel
theorem dX6_house_35 : decode cX6_house 35 = .ok (.aload_n 0, 1) := by decide +kernel
theorem dX6_house_36 : decode cX6_house 36 = .ok (.getfield 121, 3) := by decide +kernel
theorem dX6_house_39 : decode cX6_house 39 = .ok (.aload_n 0, 1) := by decide +kernel
theorem dX6_house_40 : decode cX6_house 40 = .ok (.getfield 118, 3) := by decide +kernel
theorem dX6_house_43 : decode cX6_house 43 = .ok (.if_icmp .lt (-33), 3) := by decide +kernel
theorem dX6_house_46 : decode cX6_house 46 = .ok (.aload_n 0, 1) := by decide +kernel
theorem dX6_house_47 : decode cX6_house 47 = .ok (.getfield 9, 3) := by decide +kernel
theorem dX6_house_50 : decode cX6_house 50 = .ok (.aload_n 0, 1) := by decide +kernel
theorem dX6_house_51 : decode cX6_house 51 = .ok (.getfield 19, 3) := by decide +kernel
theorem dX6_house_54 : decode cX6_house 54 = .ok (.invokestatic 147, 3) := by decide +kernel
theorem dX6_house_57 : decode cX6_house 57 = .ok (.aload_n 0, 1) := by decide +kernel
theorem dX6_house_58 : decode cX6_house 58 = .ok (.iconst 0, 1) := by decide +kernel
theorem dX6_house_59 : decode cX6_house 59 = .ok (.putfield 121, 3) := by decide +kernel
theorem dX6_house_62 : decode cX6_house 62 = .ok (.iload_n 2, 1) := by decide +kernel
theorem dX6_house_63 : decode cX6_house 63 = .ok (.bipush (-9), 2) := by decide +kernel
theorem dX6_house_65 : decode cX6_house 65 = .ok (.if_icmp .ne 63, 3) := by decide +kernel
theorem dX6_house_68 : decode cX6_house 68 = .ok (.aload_n 0, 1) := by decide +kernel
theorem dX6_house_69 : decode cX6_house 69 = .ok (.getfield 121, 3) := by decide +kernel
theorem dX6_house_72 : decode cX6_house 72 = .ok (.aload_n 0, 1) := by decide +kernel
theorem dX6_house_73 : decode cX6_house 73 = .ok (.getfield 118, 3) := by decide +kernel
theorem dX6_house_76 : decode cX6_house 76 = .ok (.if_icmp .ge 52, 3) := by decide +kernel
theorem dX6_house_79 : decode cX6_house 79 = .ok (.aload_n 0, 1) := by decide +kernel
theorem dX6_house_80 : decode cX6_house 80 = .ok (.getfield 121, 3) := by decide +kernel
theorem dX6_house_83 : decode cX6_house 83 = .ok (.istore_n 3, 1) := by decide +kernel
theorem dX6_house_84 : decode cX6_house 84 = .ok (.aload_n 0, 1) := by decide +kernel
theorem dX6_house_85 : decode cX6_house 85 = .ok (.invokevirtual 124, 3) := by decide +kernel
theorem dX6_house_88 : decode cX6_house 88 = .ok (.istore 4, 2) := by decide +kernel
theorem dX6_house_90 : decode cX6_house 90 = .ok (.aload_n 0, 1) := by decide +kernel
theorem dX6_house_91 : decode cX6_house 91 = .ok (.invokevirtual 144, 3) := by decide +kernel
theorem dX6_house_94 : decode cX6_house 94 = .ok (.istore 5, 2) := by decide +kernel
theorem dX6_house_96 : decode cX6_house 96 = .ok (.aload_n 0, 1) := by decide +kernel
theorem dX6_house_97 : decode cX6_house 97 = .ok (.iload 4, 2) := by decide +kernel
theorem dX6_house_99 : decode cX6_house 99 = .ok (.invokevirtual 151, 3) := by decide +kernel
theorem dX6_house_102 : decode cX6_house 102 = .ok (.ifCond .eq 6, 3) := by decide +kernel
theorem dX6_house_105 : decode cX6_house 105 = .ok (.goto (-43), 3) := by decide +kernel
theorem dX6_house_108 : decode cX6_house 108 = .ok (.sipush (-2000), 3) := by decide +kernel
theorem dX6_house_111 : decode cX6_house 111 = .ok (.iload_n 3, 1) := by decide +kernel
theorem dX6_house_112 : decode cX6_house 112 = .ok (.isub, 1) := by decide +kernel
theorem dX6_house_113 : decode cX6_house 113 = .ok (.istore_n 2, 1) := by decide +kernel
theorem dX6_house_114 : decode cX6_house 114 = .ok (.aload_n 0, 1) := by decide +kernel
theorem dX6_house_115 : decode cX6_house 115 = .ok (.getfield 19, 3) := by decide +kernel
theorem dX6_house_118 : decode cX6_house 118 = .ok (.aload_n 0, 1) := by decide +kernel
theorem dX6_house_119 : decode cX6_house 119 = .ok (.getfield 9, 3) := by decide +kernel
theorem dX6_house_122 : decode cX6_house 122 = .ok (.invokestatic 147, 3) := by decide +kernel
theorem dX6_house_125 : decode cX6_house 125 = .ok (.goto (-63), 3) := by decide +kernel
theorem dX6_house_128 : decode cX6_house 128 = .ok (.aload_n 0, 1) := by decide +kernel
theorem dX6_house_129 : decode cX6_house 129 = .ok (.iconst 0, 1) := by decide +kernel
theorem dX6_house_130 : decode cX6_house 130 = .ok (.putfield 118, 3) := by decide +kernel
theorem dX6_house_133 : decode cX6_house 133 = .ok (.iload_n 2, 1) := by decide +kernel
theorem dX6_house_134 : decode cX6_house 134 = .ok (.bipush (-9), 2) := by decide +kernel
theorem dX6_house_136 : decode cX6_house 136 = .ok (.if_icmp .ne 7, 3) := by decide +kernel
theorem dX6_house_139 : decode cX6_house 139 = .ok (.iload_n 1, 1) := by decide +kernel
theorem dX6_house_140 : decode cX6_house 140 = .ok (.goto 4, 3) := by decide +kernel
theorem dX6_house_143 : decode cX6_house 143 = .ok (.iload_n 2, 1) := by decide +kernel
theorem dX6_house_144 : decode cX6_house 144 = .ok (.ireturn, 1) := by decide +kernel
theorem dX6_room_0 : decode cX6_room 0 = .ok (.iload_n 1, 1) := by decide +kernel
theorem dX6_room_1 : decode cX6_room 1 = .ok (.invokestatic 138, 3) := by decide +kernel
theorem dX6_room_4 : decode cX6_room 4 = .ok (.ifCond .ne 9, 3) := by decide +kernel
theorem dX6_room_7 : decode cX6_room 7 = .ok (.aload_n 0, 1) := by decide +kernel
theorem dX6_room_8 : decode cX6_room 8 = .ok (.iconst (-1), 1) := by decide +kernel
theorem dX6_room_9 : decode cX6_room 9 = .ok (.invokevirtual 51, 3) := by decide +kernel
theorem dX6_room_12 : decode cX6_room 12 = .ok (.ireturn, 1) := by decide +kernel
theorem dX6_room_13 : decode cX6_room 13 = .ok (.iload_n 2, 1) := by decide +kernel
theorem dX6_room_14 : decode cX6_room 14 = .ok (.tableswitch 98 0 4 #[34, 43, 53, 62, 89], 34) := by decide +kernel
theorem dX6_room_48 : decode cX6_room 48 = .ok (.aload_n 0, 1) := by decide +kernel
theorem dX6_room_49 : decode cX6_room 49 = .ok (.getfield 9, 3) := by decide +kernel
theorem dX6_room_52 : decode cX6_room 52 = .ok (.iconst 2, 1) := by decide +kernel
theorem dX6_room_53 : decode cX6_room 53 = .ok (.iload_n 1, 1) := by decide +kernel
theorem dX6_room_54 : decode cX6_room 54 = .ok (.iadd, 1) := by decide +kernel
theorem dX6_room_55 : decode cX6_room 55 = .ok (.iaload, 1) := by decide +kernel
theorem dX6_room_56 : decode cX6_room 56 = .ok (.ireturn, 1) := by decide +kernel
theorem dX6_room_57 : decode cX6_room 57 = .ok (.aload_n 0, 1) := by decide +kernel
theorem dX6_room_58 : decode cX6_room 58 = .ok (.getfield 9, 3) := by decide +kernel
theorem dX6_room_61 : decode cX6_room 61 = .ok (.bipush 27, 2) := by decide +kernel
theorem dX6_room_63 : decode cX6_room 63 = .ok (.iload_n 1, 1) := by decide +kernel
theorem dX6_room_64 : decode cX6_room 64 = .ok (.iadd, 1) := by decide +kernel
theorem dX6_room_65 : decode cX6_room 65 = .ok (.iaload, 1) := by decide +kernel
theorem dX6_room_66 : decode cX6_room 66 = .ok (.ireturn, 1) := by decide +kernel
theorem dX6_room_67 : decode cX6_room 67 = .ok (.aload_n 0, 1) := by decide +kernel
theorem dX6_room_68 : decode cX6_room 68 = .ok (.getfield 9, 3) := by decide +kernel
theorem dX6_room_71 : decode cX6_room 71 = .ok (.iload_n 1, 1) := by decide +kernel
theorem dX6_room_72 : decode cX6_room 72 = .ok (.invokestatic 68, 3) := by decide +kernel
theorem dX6_room_75 : decode cX6_room 75 = .ok (.ireturn, 1) := by decide +kernel
theorem dX6_room_76 : decode cX6_room 76 = .ok (.aload_n 0, 1) := by decide +kernel
theorem dX6_room_77 : decode cX6_room 77 = .ok (.getfield 9, 3) := by decide +kernel
theorem dX6_room_80 : decode cX6_room 80 = .ok (.iload_n 1, 1) := by decide +kernel
theorem dX6_room_81 : decode cX6_room 81 = .ok (.invokestatic 75, 3) := by decide +kernel
theorem dX6_room_84 : decode cX6_room 84 = .ok (.ldc 63, 2) := by decide +kernel
theorem dX6_room_86 : decode cX6_room 86 = .ok (.if_icmp .ne 8, 3) := by decide +kernel
theorem dX6_room_89 : decode cX6_room 89 = .ok (.bipush (-9), 2) := by decide +kernel
theorem dX6_room_91 : decode cX6_room 91 = .ok (.goto 11, 3) := by decide +kernel
theorem dX6_room_94 : decode cX6_room 94 = .ok (.aload_n 0, 1) := by decide +kernel
theorem dX6_room_95 : decode cX6_room 95 = .ok (.getfield 9, 3) := by decide +kernel
theorem dX6_room_98 : decode cX6_room 98 = .ok (.iload_n 1, 1) := by decide +kernel
theorem dX6_room_99 : decode cX6_room 99 = .ok (.invokestatic 75, 3) := by decide +kernel
theorem dX6_room_102 : decode cX6_room 102 = .ok (.ireturn, 1) := by decide +kernel
theorem dX6_room_103 : decode cX6_room 103 = .ok (.aload_n 0, 1) := by decide +kernel
theorem dX6_room_104 : decode cX6_room 104 = .ok (.getfield 9, 3) := by decide +kernel
theorem dX6_room_107 : decode cX6_room 107 = .ok (.iload_n 1, 1) := by decide +kernel
theorem dX6_room_108 : decode cX6_room 108 = .ok (.invokestatic 85, 3) := by decide +kernel
theorem dX6_room_111 : decode cX6_room 111 = .ok (.ireturn, 1) := by decide +kernel
theorem dX6_room_112 : decode cX6_room 112 = .ok (.aload_n 0, 1) := by decide +kernel
theorem dX6_room_113 : decode cX6_room 113 = .ok (.bipush (-2), 2) := by decide +kernel
theorem dX6_room_115 : decode cX6_room 115 = .ok (.invokevirtual 51, 3) := by decide +kernel
theorem dX6_room_118 : decode cX6_room 118 = .ok (.ireturn, 1) := by decide +kernel
theorem dX6_person_0 : decode cX6_person 0 = .ok (.aload_n 0, 1) := by decide +kernel
theorem dX6_person_1 : decode cX6_person 1 = .ok (.iload_n 1, 1) := by decide +kernel
theorem dX6_person_2 : decode cX6_person 2 = .ok (.invokevirtual 59, 3) := by decide +kernel
theorem dX6_person_5 : decode cX6_person 5 = .ok (.ifCond .eq 15, 3) := by decide +kernel
theorem dX6_person_8 : decode cX6_person 8 = .ok (.iload_n 2, 1) := by decide +kernel
theorem dX6_person_9 : decode cX6_person 9 = .ok (.iconst (-1), 1) := by decide +kernel
theorem dX6_person_10 : decode cX6_person 10 = .ok (.if_icmp .eq 16, 3) := by decide +kernel
theorem dX6_person_13 : decode cX6_person 13 = .ok (.iload_n 2, 1) := by decide +kernel
theorem dX6_person_14 : decode cX6_person 14 = .ok (.invokestatic 138, 3) := by decide +kernel
theorem dX6_person_17 : decode cX6_person 17 = .ok (.ifCond .ne 9, 3) := by decide +kernel
theorem dX6_person_20 : decode cX6_person 20 = .ok (.aload_n 0, 1) := by decide +kernel
theorem dX6_person_21 : decode cX6_person 21 = .ok (.iconst (-1), 1) := by decide +kernel
theorem dX6_person_22 : decode cX6_person 22 = .ok (.invokevirtual 51, 3) := by decide +kernel
theorem dX6_person_25 : decode cX6_person 25 = .ok (.ireturn, 1) := by decide +kernel
theorem dX6_person_26 : decode cX6_person 26 = .ok (.iload_n 2, 1) := by decide +kernel
theorem dX6_person_27 : decode cX6_person 27 = .ok (.ifCond .ge 15, 3) := by decide +kernel
theorem dX6_person_30 : decode cX6_person 30 = .ok (.aload_n 0, 1) := by decide +kernel
theorem dX6_person_31 : decode cX6_person 31 = .ok (.getfield 9, 3) := by decide +kernel
theorem dX6_person_34 : decode cX6_person 34 = .ok (.bipush 52, 2) := by decide +kernel
theorem dX6_person_36 : decode cX6_person 36 = .ok (.iload_n 1, 1) := by decide +kernel
theorem dX6_person_37 : decode cX6_person 37 = .ok (.iadd, 1) := by decide +kernel
theorem dX6_person_38 : decode cX6_person 38 = .ok (.iaload, 1) := by decide +kernel
theorem dX6_person_39 : decode cX6_person 39 = .ok (.goto 13, 3) := by decide +kernel
theorem dX6_person_42 : decode cX6_person 42 = .ok (.aload_n 0, 1) := by decide +kernel
theorem dX6_person_43 : decode cX6_person 43 = .ok (.getfield 9, 3) := by decide +kernel
theorem dX6_person_46 : decode cX6_person 46 = .ok (.iload_n 1, 1) := by decide +kernel
theorem dX6_person_47 : decode cX6_person 47 = .ok (.iload_n 2, 1) := by decide +kernel
theorem dX6_person_48 : decode cX6_person 48 = .ok (.invokestatic 64, 3) := by decide +kernel
theorem dX6_person_51 : decode cX6_person 51 = .ok (.iaload, 1) := by decide +kernel
theorem dX6_person_52 : decode cX6_person 52 = .ok (.ireturn, 1) := by decide +kernel
theorem dX6_turn_0 : decode cX6_turn 0 = .ok (.iload_n 1, 1) := by decide +kernel
theorem dX6_turn_1 : decode cX6_turn 1 = .ok (.invokestatic 138, 3) := by decide +kernel
theorem dX6_turn_4 : decode cX6_turn 4 = .ok (.ifCond .ne 9, 3) := by decide +kernel
theorem dX6_turn_7 : decode cX6_turn 7 = .ok (.aload_n 0, 1) := by decide +kernel
theorem dX6_turn_8 : decode cX6_turn 8 = .ok (.iconst (-1), 1) := by decide +kernel
theorem dX6_turn_9 : decode cX6_turn 9 = .ok (.invokevirtual 51, 3) := by decide +kernel
theorem dX6_turn_12 : decode cX6_turn 12 = .ok (.ireturn, 1) := by decide +kernel
theorem dX6_turn_13 : decode cX6_turn 13 = .ok (.iload_n 2, 1) := by decide +kernel
theorem dX6_turn_14 : decode cX6_turn 14 = .ok (.iconst 0, 1) := by decide +kernel
theorem dX6_turn_15 : decode cX6_turn 15 = .ok (.iconst 5, 1) := by decide +kernel
theorem dX6_turn_16 : decode cX6_turn 16 = .ok (.invokestatic 55, 3) := by decide +kernel
theorem dX6_turn_19 : decode cX6_turn 19 = .ok (.ifCond .ne 10, 3) := by decide +kernel
theorem dX6_turn_22 : decode cX6_turn 22 = .ok (.aload_n 0, 1) := by decide +kernel
theorem dX6_turn_23 : decode cX6_turn 23 = .ok (.bipush (-2), 2) := by decide +kernel
theorem dX6_turn_25 : decode cX6_turn 25 = .ok (.invokevirtual 51, 3) := by decide +kernel
theorem dX6_turn_28 : decode cX6_turn 28 = .ok (.ireturn, 1) := by decide +kernel
theorem dX6_turn_29 : decode cX6_turn 29 = .ok (.iload_n 3, 1) := by decide +kernel
theorem dX6_turn_30 : decode cX6_turn 30 = .ok (.ifCond .ge 10, 3) := by decide +kernel
theorem dX6_turn_33 : decode cX6_turn 33 = .ok (.aload_n 0, 1) := by decide +kernel
theorem dX6_turn_34 : decode cX6_turn 34 = .ok (.bipush (-4), 2) := by decide +kernel
theorem dX6_turn_36 : decode cX6_turn 36 = .ok (.invokevirtual 51, 3) := by decide +kernel
theorem dX6_turn_39 : decode cX6_turn 39 = .ok (.ireturn, 1) := by decide +kernel
theorem dX6_turn_40 : decode cX6_turn 40 = .ok (.iload_n 3, 1) := by decide +kernel
theorem dX6_turn_41 : decode cX6_turn 41 = .ok (.bipush 9, 2) := by decide +kernel
theorem dX6_turn_43 : decode cX6_turn 43 = .ok (.if_icmp .le 10, 3) := by decide +kernel
theorem dX6_turn_46 : decode cX6_turn 46 = .ok (.aload_n 0, 1) := by decide +kernel
theorem dX6_turn_47 : decode cX6_turn 47 = .ok (.bipush (-6), 2) := by decide +kernel
theorem dX6_turn_49 : decode cX6_turn 49 = .ok (.invokevirtual 51, 3) := by decide +kernel
theorem dX6_turn_52 : decode cX6_turn 52 = .ok (.ireturn, 1) := by decide +kernel
theorem dX6_turn_53 : decode cX6_turn 53 = .ok (.bipush 10, 2) := by decide +kernel
theorem dX6_turn_55 : decode cX6_turn 55 = .ok (.aload_n 0, 1) := by decide +kernel
theorem dX6_turn_56 : decode cX6_turn 56 = .ok (.getfield 9, 3) := by decide +kernel
theorem dX6_turn_59 : decode cX6_turn 59 = .ok (.iconst 2, 1) := by decide +kernel
theorem dX6_turn_60 : decode cX6_turn 60 = .ok (.iload_n 1, 1) := by decide +kernel
theorem dX6_turn_61 : decode cX6_turn 61 = .ok (.iadd, 1) := by decide +kernel
theorem dX6_turn_62 : decode cX6_turn 62 = .ok (.iaload, 1) := by decide +kernel
theorem dX6_turn_63 : decode cX6_turn 63 = .ok (.imul, 1) := by decide +kernel
theorem dX6_turn_64 : decode cX6_turn 64 = .ok (.aload_n 0, 1) := by decide +kernel
theorem dX6_turn_65 : decode cX6_turn 65 = .ok (.getfield 9, 3) := by decide +kernel
theorem dX6_turn_68 : decode cX6_turn 68 = .ok (.bipush 27, 2) := by decide +kernel
theorem dX6_turn_70 : decode cX6_turn 70 = .ok (.iload_n 1, 1) := by decide +kernel
theorem dX6_turn_71 : decode cX6_turn 71 = .ok (.iadd, 1) := by decide +kernel
theorem dX6_turn_72 : decode cX6_turn 72 = .ok (.iaload, 1) := by decide +kernel
theorem dX6_turn_73 : decode cX6_turn 73 = .ok (.iadd, 1) := by decide +kernel
theorem dX6_turn_74 : decode cX6_turn 74 = .ok (.istore 4, 2) := by decide +kernel
theorem dX6_turn_76 : decode cX6_turn 76 = .ok (.aload_n 0, 1) := by decide +kernel
theorem dX6_turn_77 : decode cX6_turn 77 = .ok (.getfield 9, 3) := by decide +kernel
theorem dX6_turn_80 : decode cX6_turn 80 = .ok (.iconst 2, 1) := by decide +kernel
theorem dX6_turn_81 : decode cX6_turn 81 = .ok (.iload_n 1, 1) := by decide +kernel
theorem dX6_turn_82 : decode cX6_turn 82 = .ok (.iadd, 1) := by decide +kernel
theorem dX6_turn_83 : decode cX6_turn 83 = .ok (.iload_n 2, 1) := by decide +kernel
theorem dX6_turn_84 : decode cX6_turn 84 = .ok (.iastore, 1) := by decide +kernel
theorem dX6_turn_85 : decode cX6_turn 85 = .ok (.aload_n 0, 1) := by decide +kernel
theorem dX6_turn_86 : decode cX6_turn 86 = .ok (.getfield 9, 3) := by decide +kernel
theorem dX6_turn_89 : decode cX6_turn 89 = .ok (.bipush 27, 2) := by decide +kernel
theorem dX6_turn_91 : decode cX6_turn 91 = .ok (.iload_n 1, 1) := by decide +kernel
theorem dX6_turn_92 : decode cX6_turn 92 = .ok (.iadd, 1) := by decide +kernel
theorem dX6_turn_93 : decode cX6_turn 93 = .ok (.iload_n 3, 1) := by decide +kernel
theorem dX6_turn_94 : decode cX6_turn 94 = .ok (.iastore, 1) := by decide +kernel
theorem dX6_turn_95 : decode cX6_turn 95 = .ok (.iload 4, 2) := by decide +kernel
theorem dX6_turn_97 : decode cX6_turn 97 = .ok (.ireturn, 1) := by decide +kernel
theorem dX6_sharp_0 : decode cX6_sharp 0 = .ok (.aload_n 0, 1) := by decide +kernel
theorem dX6_sharp_1 : decode cX6_sharp 1 = .ok (.iload_n 1, 1) := by decide +kernel
theorem dX6_sharp_2 : decode cX6_sharp 2 = .ok (.invokevirtual 59, 3) := by decide +kernel
theorem dX6_sharp_5 : decode cX6_sharp 5 = .ok (.ifCond .ne 9, 3) := by decide +kernel
theorem dX6_sharp_8 : decode cX6_sharp 8 = .ok (.aload_n 0, 1) := by decide +kernel
theorem dX6_sharp_9 : decode cX6_sharp 9 = .ok (.iconst (-1), 1) := by decide +kernel
theorem dX6_sharp_10 : decode cX6_sharp 10 = .ok (.invokevirtual 51, 3) := by decide +kernel
theorem dX6_sharp_13 : decode cX6_sharp 13 = .ok (.ireturn, 1) := by decide +kernel
theorem dX6_sharp_14 : decode cX6_sharp 14 = .ok (.iload_n 2, 1) := by decide +kernel
theorem dX6_sharp_15 : decode cX6_sharp 15 = .ok (.iconst 1, 1) := by decide +kernel
theorem dX6_sharp_16 : decode cX6_sharp 16 = .ok (.if_icmp .ge 10, 3) := by decide +kernel
theorem dX6_sharp_19 : decode cX6_sharp 19 = .ok (.aload_n 0, 1) := by decide +kernel
theorem dX6_sharp_20 : decode cX6_sharp 20 = .ok (.bipush (-4), 2) := by decide +kernel
theorem dX6_sharp_22 : decode cX6_sharp 22 = .ok (.invokevirtual 51, 3) := by decide +kernel
theorem dX6_sharp_25 : decode cX6_sharp 25 = .ok (.ireturn, 1) := by decide +kernel
theorem dX6_sharp_26 : decode cX6_sharp 26 = .ok (.iload_n 2, 1) := by decide +kernel
theorem dX6_sharp_27 : decode cX6_sharp 27 = .ok (.bipush 9, 2) := by decide +kernel
theorem dX6_sharp_29 : decode cX6_sharp 29 = .ok (.if_icmp .le 10, 3) := by decide +kernel
theorem dX6_sharp_32 : decode cX6_sharp 32 = .ok (.aload_n 0, 1) := by decide +kernel
theorem dX6_sharp_33 : decode cX6_sharp 33 = .ok (.bipush (-6), 2) := by decide +kernel
theorem dX6_sharp_35 : decode cX6_sharp 35 = .ok (.invokevirtual 51, 3) := by decide +kernel
theorem dX6_sharp_38 : decode cX6_sharp 38 = .ok (.ireturn, 1) := by decide +kernel
theorem dX6_sharp_39 : decode cX6_sharp 39 = .ok (.aload_n 0, 1) := by decide +kernel
theorem dX6_sharp_40 : decode cX6_sharp 40 = .ok (.getfield 9, 3) := by decide +kernel
theorem dX6_sharp_43 : decode cX6_sharp 43 = .ok (.bipush 52, 2) := by decide +kernel
theorem dX6_sharp_45 : decode cX6_sharp 45 = .ok (.iload_n 1, 1) := by decide +kernel
theorem dX6_sharp_46 : decode cX6_sharp 46 = .ok (.iadd, 1) := by decide +kernel
theorem dX6_sharp_47 : decode cX6_sharp 47 = .ok (.iaload, 1) := by decide +kernel
theorem dX6_sharp_48 : decode cX6_sharp 48 = .ok (.istore_n 3, 1) := by decide +kernel
theorem dX6_sharp_49 : decode cX6_sharp 49 = .ok (.aload_n 0, 1) := by decide +kernel
theorem dX6_sharp_50 : decode cX6_sharp 50 = .ok (.getfield 9, 3) := by decide +kernel
theorem dX6_sharp_53 : decode cX6_sharp 53 = .ok (.bipush 52, 2) := by decide +kernel
theorem dX6_sharp_55 : decode cX6_sharp 55 = .ok (.iload_n 1, 1) := by decide +kernel
theorem dX6_sharp_56 : decode cX6_sharp 56 = .ok (.iadd, 1) := by decide +kernel
theorem dX6_sharp_57 : decode cX6_sharp 57 = .ok (.iload_n 2, 1) := by decide +kernel
theorem dX6_sharp_58 : decode cX6_sharp 58 = .ok (.iastore, 1) := by decide +kernel
theorem dX6_sharp_59 : decode cX6_sharp 59 = .ok (.iload_n 3, 1) := by decide +kernel
theorem dX6_sharp_60 : decode cX6_sharp 60 = .ok (.ireturn, 1) := by decide +kernel
theorem dX6_visit_0 : decode cX6_visit 0 = .ok (.aload_n 0, 1) := by decide +kernel
theorem dX6_visit_1 : decode cX6_visit 1 = .ok (.iload_n 1, 1) := by decide +kernel
theorem dX6_visit_2 : decode cX6_visit 2 = .ok (.invokevirtual 59, 3) := by decide +kernel
theorem dX6_visit_5 : decode cX6_visit 5 = .ok (.ifCond .eq 10, 3) := by decide +kernel
theorem dX6_visit_8 : decode cX6_visit 8 = .ok (.iload_n 2, 1) := by decide +kernel
theorem dX6_visit_9 : decode cX6_visit 9 = .ok (.invokestatic 138, 3) := by decide +kernel
theorem dX6_visit_12 : decode cX6_visit 12 = .ok (.ifCond .ne 9, 3) := by decide +kernel
theorem dX6_visit_15 : decode cX6_visit 15 = .ok (.aload_n 0, 1) := by decide +kernel
theorem dX6_visit_16 : decode cX6_visit 16 = .ok (.iconst (-1), 1) := by decide +kernel
theorem dX6_visit_17 : decode cX6_visit 17 = .ok (.invokevirtual 51, 3) := by decide +kernel
theorem dX6_visit_20 : decode cX6_visit 20 = .ok (.ireturn, 1) := by decide +kernel
theorem dX6_visit_21 : decode cX6_visit 21 = .ok (.iload_n 3, 1) := by decide +kernel
theorem dX6_visit_22 : decode cX6_visit 22 = .ok (.ifCond .ge 10, 3) := by decide +kernel
theorem dX6_visit_25 : decode cX6_visit 25 = .ok (.aload_n 0, 1) := by decide +kernel
theorem dX6_visit_26 : decode cX6_visit 26 = .ok (.bipush (-4), 2) := by decide +kernel
theorem dX6_visit_28 : decode cX6_visit 28 = .ok (.invokevirtual 51, 3) := by decide +kernel
theorem dX6_visit_31 : decode cX6_visit 31 = .ok (.ireturn, 1) := by decide +kernel
theorem dX6_visit_32 : decode cX6_visit 32 = .ok (.iload_n 3, 1) := by decide +kernel
theorem dX6_visit_33 : decode cX6_visit 33 = .ok (.bipush 9, 2) := by decide +kernel
theorem dX6_visit_35 : decode cX6_visit 35 = .ok (.if_icmp .le 10, 3) := by decide +kernel
theorem dX6_visit_38 : decode cX6_visit 38 = .ok (.aload_n 0, 1) := by decide +kernel
theorem dX6_visit_39 : decode cX6_visit 39 = .ok (.bipush (-6), 2) := by decide +kernel
theorem dX6_visit_41 : decode cX6_visit 41 = .ok (.invokevirtual 51, 3) := by decide +kernel
theorem dX6_visit_44 : decode cX6_visit 44 = .ok (.ireturn, 1) := by decide +kernel
theorem dX6_visit_45 : decode cX6_visit 45 = .ok (.aload_n 0, 1) := by decide +kernel
theorem dX6_visit_46 : decode cX6_visit 46 = .ok (.getfield 9, 3) := by decide +kernel
theorem dX6_visit_49 : decode cX6_visit 49 = .ok (.iload_n 1, 1) := by decide +kernel
theorem dX6_visit_50 : decode cX6_visit 50 = .ok (.iload_n 2, 1) := by decide +kernel
theorem dX6_visit_51 : decode cX6_visit 51 = .ok (.invokestatic 64, 3) := by decide +kernel
theorem dX6_visit_54 : decode cX6_visit 54 = .ok (.iaload, 1) := by decide +kernel
theorem dX6_visit_55 : decode cX6_visit 55 = .ok (.istore 4, 2) := by decide +kernel
theorem dX6_visit_57 : decode cX6_visit 57 = .ok (.aload_n 0, 1) := by decide +kernel
theorem dX6_visit_58 : decode cX6_visit 58 = .ok (.getfield 9, 3) := by decide +kernel
theorem dX6_visit_61 : decode cX6_visit 61 = .ok (.iload_n 1, 1) := by decide +kernel
theorem dX6_visit_62 : decode cX6_visit 62 = .ok (.iload_n 2, 1) := by decide +kernel
theorem dX6_visit_63 : decode cX6_visit 63 = .ok (.invokestatic 64, 3) := by decide +kernel
theorem dX6_visit_66 : decode cX6_visit 66 = .ok (.iload_n 3, 1) := by decide +kernel
theorem dX6_visit_67 : decode cX6_visit 67 = .ok (.iastore, 1) := by decide +kernel
theorem dX6_visit_68 : decode cX6_visit 68 = .ok (.iload 4, 2) := by decide +kernel
theorem dX6_visit_70 : decode cX6_visit 70 = .ok (.ireturn, 1) := by decide +kernel
theorem dX6_knownMany_0 : decode cX6_knownMany 0 = .ok (.iconst 0, 1) := by decide +kernel
theorem dX6_knownMany_1 : decode cX6_knownMany 1 = .ok (.istore_n 2, 1) := by decide +kernel
theorem dX6_knownMany_2 : decode cX6_knownMany 2 = .ok (.iconst 0, 1) := by decide +kernel
theorem dX6_knownMany_3 : decode cX6_knownMany 3 = .ok (.istore_n 3, 1) := by decide +kernel
theorem dX6_knownMany_4 : decode cX6_knownMany 4 = .ok (.iload_n 3, 1) := by decide +kernel
theorem dX6_knownMany_5 : decode cX6_knownMany 5 = .ok (.bipush 25, 2) := by decide +kernel
theorem dX6_knownMany_7 : decode cX6_knownMany 7 = .ok (.if_icmp .ge 91, 3) := by decide +kernel
theorem dX6_knownMany_10 : decode cX6_knownMany 10 = .ok (.iconst 0, 1) := by decide +kernel
theorem dX6_knownMany_11 : decode cX6_knownMany 11 = .ok (.istore 4, 2) := by decide +kernel
theorem dX6_knownMany_13 : decode cX6_knownMany 13 = .ok (.iconst 0, 1) := by decide +kernel
theorem dX6_knownMany_14 : decode cX6_knownMany 14 = .ok (.istore 5, 2) := by decide +kernel
theorem dX6_knownMany_16 : decode cX6_knownMany 16 = .ok (.iload 5, 2) := by decide +kernel
theorem dX6_knownMany_18 : decode cX6_knownMany 18 = .ok (.aload_n 0, 1) := by decide +kernel
theorem dX6_knownMany_19 : decode cX6_knownMany 19 = .ok (.getfield 9, 3) := by decide +kernel
theorem dX6_knownMany_22 : decode cX6_knownMany 22 = .ok (.iconst 0, 1) := by decide +kernel
theorem dX6_knownMany_23 : decode cX6_knownMany 23 = .ok (.iaload, 1) := by decide +kernel
theorem dX6_knownMany_24 : decode cX6_knownMany 24 = .ok (.if_icmp .ge 32, 3) := by decide +kernel
theorem dX6_knownMany_27 : decode cX6_knownMany 27 = .ok (.iload 4, 2) := by decide +kernel
theorem dX6_knownMany_29 : decode cX6_knownMany 29 = .ok (.aload_n 0, 1) := by decide +kernel
theorem dX6_knownMany_30 : decode cX6_knownMany 30 = .ok (.getfield 9, 3) := by decide +kernel
theorem dX6_knownMany_33 : decode cX6_knownMany 33 = .ok (.iload 5, 2) := by decide +kernel
theorem dX6_knownMany_35 : decode cX6_knownMany 35 = .ok (.iload_n 3, 1) := by decide +kernel
theorem dX6_knownMany_36 : decode cX6_knownMany 36 = .ok (.invokestatic 81, 3) := by decide +kernel
theorem dX6_knownMany_39 : decode cX6_knownMany 39 = .ok (.ifCond .eq 7, 3) := by decide +kernel
theorem dX6_knownMany_42 : decode cX6_knownMany 42 = .ok (.iconst 1, 1) := by decide +kernel
theorem dX6_knownMany_43 : decode cX6_knownMany 43 = .ok (.goto 4, 3) := by decide +kernel
theorem dX6_knownMany_46 : decode cX6_knownMany 46 = .ok (.iconst 0, 1) := by decide +kernel
theorem dX6_knownMany_47 : decode cX6_knownMany 47 = .ok (.iadd, 1) := by decide +kernel
theorem dX6_knownMany_48 : decode cX6_knownMany 48 = .ok (.istore 4, 2) := by decide +kernel
theorem dX6_knownMany_50 : decode cX6_knownMany 50 = .ok (.iinc 5 1, 3) := by decide +kernel
theorem dX6_knownMany_53 : decode cX6_knownMany 53 = .ok (.goto (-37), 3) := by decide +kernel
theorem dX6_knownMany_56 : decode cX6_knownMany 56 = .ok (.iload_n 2, 1) := by decide +kernel
theorem dX6_knownMany_57 : decode cX6_knownMany 57 = .ok (.iload_n 1, 1) := by decide +kernel
theorem dX6_knownMany_58 : decode cX6_knownMany 58 = .ok (.ifCond .eq 22, 3) := by decide +kernel
theorem dX6_knownMany_61 : decode cX6_knownMany 61 = .ok (.iload 4, 2) := by decide +kernel
theorem dX6_knownMany_63 : decode cX6_knownMany 63 = .ok (.aload_n 0, 1) := by decide +kernel
theorem dX6_knownMany_64 : decode cX6_knownMany 64 = .ok (.getfield 9, 3) := by decide +kernel
theorem dX6_knownMany_67 : decode cX6_knownMany 67 = .ok (.iconst 0, 1) := by decide +kernel
theorem dX6_knownMany_68 : decode cX6_knownMany 68 = .ok (.iaload, 1) := by decide +kernel
theorem dX6_knownMany_69 : decode cX6_knownMany 69 = .ok (.if_icmp .ne 20, 3) := by decide +kernel
theorem dX6_knownMany_72 : decode cX6_knownMany 72 = .ok (.iload 4, 2) := by decide +kernel
theorem dX6_knownMany_74 : decode cX6_knownMany 74 = .ok (.ifCond .le 15, 3) := by decide +kernel
theorem dX6_knownMany_77 : decode cX6_knownMany 77 = .ok (.goto 8, 3) := by decide +kernel
theorem dX6_knownMany_80 : decode cX6_knownMany 80 = .ok (.iload 4, 2) := by decide +kernel
theorem dX6_knownMany_82 : decode cX6_knownMany 82 = .ok (.ifCond .le 7, 3) := by decide +kernel
theorem dX6_knownMany_85 : decode cX6_knownMany 85 = .ok (.iconst 1, 1) := by decide +kernel
theorem dX6_knownMany_86 : decode cX6_knownMany 86 = .ok (.goto 4, 3) := by decide +kernel
theorem dX6_knownMany_89 : decode cX6_knownMany 89 = .ok (.iconst 0, 1) := by decide +kernel
theorem dX6_knownMany_90 : decode cX6_knownMany 90 = .ok (.iadd, 1) := by decide +kernel
theorem dX6_knownMany_91 : decode cX6_knownMany 91 = .ok (.istore_n 2, 1) := by decide +kernel
theorem dX6_knownMany_92 : decode cX6_knownMany 92 = .ok (.iinc 3 1, 3) := by decide +kernel
theorem dX6_knownMany_95 : decode cX6_knownMany 95 = .ok (.goto (-91), 3) := by decide +kernel
theorem dX6_knownMany_98 : decode cX6_knownMany 98 = .ok (.iload_n 2, 1) := by decide +kernel
theorem dX6_knownMany_99 : decode cX6_knownMany 99 = .ok (.ireturn, 1) := by decide +kernel
theorem dX6_nights_0 : decode cX6_nights 0 = .ok (.iload_n 1, 1) := by decide +kernel
theorem dX6_nights_1 : decode cX6_nights 1 = .ok (.iconst 1, 1) := by decide +kernel
theorem dX6_nights_2 : decode cX6_nights 2 = .ok (.if_icmp .ge 10, 3) := by decide +kernel
theorem dX6_nights_5 : decode cX6_nights 5 = .ok (.aload_n 0, 1) := by decide +kernel
theorem dX6_nights_6 : decode cX6_nights 6 = .ok (.bipush (-4), 2) := by decide +kernel
theorem dX6_nights_8 : decode cX6_nights 8 = .ok (.invokevirtual 51, 3) := by decide +kernel
theorem dX6_nights_11 : decode cX6_nights 11 = .ok (.ireturn, 1) := by decide +kernel
theorem dX6_nights_12 : decode cX6_nights 12 = .ok (.iload_n 1, 1) := by decide +kernel
theorem dX6_nights_13 : decode cX6_nights 13 = .ok (.bipush 60, 2) := by decide +kernel
theorem dX6_nights_15 : decode cX6_nights 15 = .ok (.if_icmp .gt 17, 3) := by decide +kernel
theorem dX6_nights_18 : decode cX6_nights 18 = .ok (.aload_n 0, 1) := by decide +kernel
theorem dX6_nights_19 : decode cX6_nights 19 = .ok (.getfield 9, 3) := by decide +kernel
theorem dX6_nights_22 : decode cX6_nights 22 = .ok (.iconst 1, 1) := by decide +kernel
theorem dX6_nights_23 : decode cX6_nights 23 = .ok (.iaload, 1) := by decide +kernel
theorem dX6_nights_24 : decode cX6_nights 24 = .ok (.iload_n 1, 1) := by decide +kernel
theorem dX6_nights_25 : decode cX6_nights 25 = .ok (.iadd, 1) := by decide +kernel
theorem dX6_nights_26 : decode cX6_nights 26 = .ok (.sipush 999, 3) := by decide +kernel
theorem dX6_nights_29 : decode cX6_nights 29 = .ok (.if_icmp .le 10, 3) := by decide +kernel
theorem dX6_nights_32 : decode cX6_nights 32 = .ok (.aload_n 0, 1) := by decide +kernel
theorem dX6_nights_33 : decode cX6_nights 33 = .ok (.bipush (-6), 2) := by decide +kernel
theorem dX6_nights_35 : decode cX6_nights 35 = .ok (.invokevirtual 51, 3) := by decide +kernel
theorem dX6_nights_38 : decode cX6_nights 38 = .ok (.ireturn, 1) := by decide +kernel
theorem dX6_nights_39 : decode cX6_nights 39 = .ok (.iconst 0, 1) := by decide +kernel
theorem dX6_nights_40 : decode cX6_nights 40 = .ok (.istore_n 2, 1) := by decide +kernel
theorem dX6_nights_41 : decode cX6_nights 41 = .ok (.iload_n 2, 1) := by decide +kernel
theorem dX6_nights_42 : decode cX6_nights 42 = .ok (.iload_n 1, 1) := by decide +kernel
theorem dX6_nights_43 : decode cX6_nights 43 = .ok (.if_icmp .ge 16, 3) := by decide +kernel
theorem dX6_nights_46 : decode cX6_nights 46 = .ok (.aload_n 0, 1) := by decide +kernel
theorem dX6_nights_47 : decode cX6_nights 47 = .ok (.getfield 9, 3) := by decide +kernel
theorem dX6_nights_50 : decode cX6_nights 50 = .ok (.invokestatic 141, 3) := by decide +kernel
theorem dX6_nights_53 : decode cX6_nights 53 = .ok (.iinc 2 1, 3) := by decide +kernel
theorem dX6_nights_56 : decode cX6_nights 56 = .ok (.goto (-15), 3) := by decide +kernel
theorem dX6_nights_59 : decode cX6_nights 59 = .ok (.aload_n 0, 1) := by decide +kernel
theorem dX6_nights_60 : decode cX6_nights 60 = .ok (.iconst 1, 1) := by decide +kernel
theorem dX6_nights_61 : decode cX6_nights 61 = .ok (.invokevirtual 154, 3) := by decide +kernel
theorem dX6_nights_64 : decode cX6_nights 64 = .ok (.ireturn, 1) := by decide +kernel
theorem dX6_isFire_0 : decode cX6_isFire 0 = .ok (.iload_n 1, 1) := by decide +kernel
theorem dX6_isFire_1 : decode cX6_isFire 1 = .ok (.invokestatic 138, 3) := by decide +kernel
theorem dX6_isFire_4 : decode cX6_isFire 4 = .ok (.ifCond .eq 15, 3) := by decide +kernel
theorem dX6_isFire_7 : decode cX6_isFire 7 = .ok (.aload_n 0, 1) := by decide +kernel
theorem dX6_isFire_8 : decode cX6_isFire 8 = .ok (.iload_n 2, 1) := by decide +kernel
theorem dX6_isFire_9 : decode cX6_isFire 9 = .ok (.invokevirtual 158, 3) := by decide +kernel
theorem dX6_isFire_12 : decode cX6_isFire 12 = .ok (.ifCond .eq 7, 3) := by decide +kernel
theorem dX6_isFire_15 : decode cX6_isFire 15 = .ok (.iconst 1, 1) := by decide +kernel
theorem dX6_isFire_16 : decode cX6_isFire 16 = .ok (.goto 4, 3) := by decide +kernel
theorem dX6_isFire_19 : decode cX6_isFire 19 = .ok (.iconst 0, 1) := by decide +kernel
theorem dX6_isFire_20 : decode cX6_isFire 20 = .ok (.ireturn, 1) := by decide +kernel
theorem dX6_burnsBy_0 : decode cX6_burnsBy 0 = .ok (.aload_n 0, 1) := by decide +kernel
theorem dX6_burnsBy_1 : decode cX6_burnsBy 1 = .ok (.aload_n 0, 1) := by decide +kernel
theorem dX6_burnsBy_2 : decode cX6_burnsBy 2 = .ok (.getfield 9, 3) := by decide +kernel
theorem dX6_burnsBy_5 : decode cX6_burnsBy 5 = .ok (.iload_n 2, 1) := by decide +kernel
theorem dX6_burnsBy_6 : decode cX6_burnsBy 6 = .ok (.bipush (-9), 2) := by decide +kernel
theorem dX6_burnsBy_8 : decode cX6_burnsBy 8 = .ok (.invokevirtual 106, 3) := by decide +kernel
theorem dX6_burnsBy_11 : decode cX6_burnsBy 11 = .ok (.aload_n 0, 1) := by decide +kernel
theorem dX6_burnsBy_12 : decode cX6_burnsBy 12 = .ok (.aload_n 0, 1) := by decide +kernel
theorem dX6_burnsBy_13 : decode cX6_burnsBy 13 = .ok (.getfield 9, 3) := by decide +kernel
theorem dX6_burnsBy_16 : decode cX6_burnsBy 16 = .ok (.iload_n 1, 1) := by decide +kernel
theorem dX6_burnsBy_17 : decode cX6_burnsBy 17 = .ok (.invokevirtual 110, 3) := by decide +kernel
theorem dX6_burnsBy_20 : decode cX6_burnsBy 20 = .ok (.return_, 1) := by decide +kernel
theorem dX6_fire_0 : decode cX6_fire 0 = .ok (.aload_n 0, 1) := by decide +kernel
theorem dX6_fire_1 : decode cX6_fire 1 = .ok (.iload_n 1, 1) := by decide +kernel
theorem dX6_fire_2 : decode cX6_fire 2 = .ok (.iload_n 2, 1) := by decide +kernel
theorem dX6_fire_3 : decode cX6_fire 3 = .ok (.invokevirtual 161, 3) := by decide +kernel
theorem dX6_fire_6 : decode cX6_fire 6 = .ok (.ifCond .ne 9, 3) := by decide +kernel
theorem dX6_fire_9 : decode cX6_fire 9 = .ok (.aload_n 0, 1) := by decide +kernel
theorem dX6_fire_10 : decode cX6_fire 10 = .ok (.iconst (-1), 1) := by decide +kernel
theorem dX6_fire_11 : decode cX6_fire 11 = .ok (.invokevirtual 51, 3) := by decide +kernel
theorem dX6_fire_14 : decode cX6_fire 14 = .ok (.ireturn, 1) := by decide +kernel
theorem dX6_fire_15 : decode cX6_fire 15 = .ok (.iload_n 3, 1) := by decide +kernel
theorem dX6_fire_16 : decode cX6_fire 16 = .ok (.iconst 0, 1) := by decide +kernel
theorem dX6_fire_17 : decode cX6_fire 17 = .ok (.iconst 2, 1) := by decide +kernel
theorem dX6_fire_18 : decode cX6_fire 18 = .ok (.invokestatic 55, 3) := by decide +kernel
theorem dX6_fire_21 : decode cX6_fire 21 = .ok (.ifCond .ne 10, 3) := by decide +kernel
theorem dX6_fire_24 : decode cX6_fire 24 = .ok (.aload_n 0, 1) := by decide +kernel
theorem dX6_fire_25 : decode cX6_fire 25 = .ok (.bipush (-2), 2) := by decide +kernel
theorem dX6_fire_27 : decode cX6_fire 27 = .ok (.invokevirtual 51, 3) := by decide +kernel
theorem dX6_fire_30 : decode cX6_fire 30 = .ok (.ireturn, 1) := by decide +kernel
theorem dX6_fire_31 : decode cX6_fire 31 = .ok (.aload_n 0, 1) := by decide +kernel
theorem dX6_fire_32 : decode cX6_fire 32 = .ok (.iload_n 1, 1) := by decide +kernel
theorem dX6_fire_33 : decode cX6_fire 33 = .ok (.iload_n 2, 1) := by decide +kernel
theorem dX6_fire_34 : decode cX6_fire 34 = .ok (.invokevirtual 164, 3) := by decide +kernel
theorem dX6_fire_37 : decode cX6_fire 37 = .ok (.iload_n 3, 1) := by decide +kernel
theorem dX6_fire_38 : decode cX6_fire 38 = .ok (.iconst 2, 1) := by decide +kernel
theorem dX6_fire_39 : decode cX6_fire 39 = .ok (.if_icmp .ge 23, 3) := by decide +kernel
theorem dX6_fire_42 : decode cX6_fire 42 = .ok (.iload_n 3, 1) := by decide +kernel
theorem dX6_fire_43 : decode cX6_fire 43 = .ok (.ifCond .ne 10, 3) := by decide +kernel
theorem dX6_fire_46 : decode cX6_fire 46 = .ok (.aload_n 0, 1) := by decide +kernel
theorem dX6_fire_47 : decode cX6_fire 47 = .ok (.invokevirtual 168, 3) := by decide +kernel
theorem dX6_fire_50 : decode cX6_fire 50 = .ok (.goto 11, 3) := by decide +kernel
theorem dX6_fire_53 : decode cX6_fire 53 = .ok (.aload_n 0, 1) := by decide +kernel
theorem dX6_fire_54 : decode cX6_fire 54 = .ok (.aload_n 0, 1) := by decide +kernel
theorem dX6_fire_55 : decode cX6_fire 55 = .ok (.getfield 9, 3) := by decide +kernel
theorem dX6_fire_58 : decode cX6_fire 58 = .ok (.invokevirtual 114, 3) := by decide +kernel
theorem dX6_fire_61 : decode cX6_fire 61 = .ok (.ireturn, 1) := by decide +kernel
theorem dX6_fire_62 : decode cX6_fire 62 = .ok (.iconst 0, 1) := by decide +kernel
theorem dX6_fire_63 : decode cX6_fire 63 = .ok (.istore 4, 2) := by decide +kernel
theorem dX6_fire_65 : decode cX6_fire 65 = .ok (.iconst 0, 1) := by decide +kernel
theorem dX6_fire_66 : decode cX6_fire 66 = .ok (.istore 5, 2) := by decide +kernel
theorem dX6_fire_68 : decode cX6_fire 68 = .ok (.iload 5, 2) := by decide +kernel
theorem dX6_fire_70 : decode cX6_fire 70 = .ok (.bipush 25, 2) := by decide +kernel
theorem dX6_fire_72 : decode cX6_fire 72 = .ok (.if_icmp .ge 23, 3) := by decide +kernel
theorem dX6_fire_75 : decode cX6_fire 75 = .ok (.iload 4, 2) := by decide +kernel
theorem dX6_fire_77 : decode cX6_fire 77 = .ok (.aload_n 0, 1) := by decide +kernel
theorem dX6_fire_78 : decode cX6_fire 78 = .ok (.getfield 31, 3) := by decide +kernel
theorem dX6_fire_81 : decode cX6_fire 81 = .ok (.iload 5, 2) := by decide +kernel
theorem dX6_fire_83 : decode cX6_fire 83 = .ok (.iaload, 1) := by decide +kernel
theorem dX6_fire_84 : decode cX6_fire 84 = .ok (.invokestatic 72, 3) := by decide +kernel
theorem dX6_fire_87 : decode cX6_fire 87 = .ok (.istore 4, 2) := by decide +kernel
theorem dX6_fire_89 : decode cX6_fire 89 = .ok (.iinc 5 1, 3) := by decide +kernel
theorem dX6_fire_92 : decode cX6_fire 92 = .ok (.goto (-24), 3) := by decide +kernel
theorem dX6_fire_95 : decode cX6_fire 95 = .ok (.iload 4, 2) := by decide +kernel
theorem dX6_fire_97 : decode cX6_fire 97 = .ok (.ireturn, 1) := by decide +kernel
theorem dX6_burns__0 : decode cX6_burns_ 0 = .ok (.aload_n 0, 1) := by decide +kernel
theorem dX6_burns__1 : decode cX6_burns_ 1 = .ok (.iload_n 1, 1) := by decide +kernel
theorem dX6_burns__2 : decode cX6_burns_ 2 = .ok (.iload_n 2, 1) := by decide +kernel
theorem dX6_burns__3 : decode cX6_burns_ 3 = .ok (.invokevirtual 161, 3) := by decide +kernel
theorem dX6_burns__6 : decode cX6_burns_ 6 = .ok (.ifCond .eq 10, 3) := by decide +kernel
theorem dX6_burns__9 : decode cX6_burns_ 9 = .ok (.iload_n 3, 1) := by decide +kernel
theorem dX6_burns__10 : decode cX6_burns_ 10 = .ok (.invokestatic 138, 3) := by decide +kernel
theorem dX6_burns__13 : decode cX6_burns_ 13 = .ok (.ifCond .ne 9, 3) := by decide +kernel
theorem dX6_burns__16 : decode cX6_burns_ 16 = .ok (.aload_n 0, 1) := by decide +kernel
theorem dX6_burns__17 : decode cX6_burns_ 17 = .ok (.iconst (-1), 1) := by decide +kernel
theorem dX6_burns__18 : decode cX6_burns_ 18 = .ok (.invokevirtual 51, 3) := by decide +kernel
theorem dX6_burns__21 : decode cX6_burns_ 21 = .ok (.ireturn, 1) := by decide +kernel
theorem dX6_burns__22 : decode cX6_burns_ 22 = .ok (.aload_n 0, 1) := by decide +kernel
theorem dX6_burns__23 : decode cX6_burns_ 23 = .ok (.iload_n 1, 1) := by decide +kernel
theorem dX6_burns__24 : decode cX6_burns_ 24 = .ok (.iload_n 2, 1) := by decide +kernel
theorem dX6_burns__25 : decode cX6_burns_ 25 = .ok (.invokevirtual 164, 3) := by decide +kernel
theorem dX6_burns__28 : decode cX6_burns_ 28 = .ok (.aload_n 0, 1) := by decide +kernel
theorem dX6_burns__29 : decode cX6_burns_ 29 = .ok (.getfield 31, 3) := by decide +kernel
theorem dX6_burns__32 : decode cX6_burns_ 32 = .ok (.iload_n 3, 1) := by decide +kernel
theorem dX6_burns__33 : decode cX6_burns_ 33 = .ok (.iaload, 1) := by decide +kernel
theorem dX6_burns__34 : decode cX6_burns_ 34 = .ok (.ireturn, 1) := by decide +kernel
theorem dX6_said_0 : decode cX6_said 0 = .ok (.aload_n 0, 1) := by decide +kernel
theorem dX6_said_1 : decode cX6_said 1 = .ok (.iload_n 1, 1) := by decide +kernel
theorem dX6_said_2 : decode cX6_said 2 = .ok (.iload_n 2, 1) := by decide +kernel
theorem dX6_said_3 : decode cX6_said 3 = .ok (.invokevirtual 161, 3) := by decide +kernel
theorem dX6_said_6 : decode cX6_said 6 = .ok (.ifCond .eq 10, 3) := by decide +kernel
theorem dX6_said_9 : decode cX6_said 9 = .ok (.iload_n 3, 1) := by decide +kernel
theorem dX6_said_10 : decode cX6_said 10 = .ok (.invokestatic 138, 3) := by decide +kernel
theorem dX6_said_13 : decode cX6_said 13 = .ok (.ifCond .ne 9, 3) := by decide +kernel
theorem dX6_said_16 : decode cX6_said 16 = .ok (.aload_n 0, 1) := by decide +kernel
theorem dX6_said_17 : decode cX6_said 17 = .ok (.iconst (-1), 1) := by decide +kernel
theorem dX6_said_18 : decode cX6_said 18 = .ok (.invokevirtual 51, 3) := by decide +kernel
theorem dX6_said_21 : decode cX6_said 21 = .ok (.ireturn, 1) := by decide +kernel
theorem dX6_said_22 : decode cX6_said 22 = .ok (.iload 4, 2) := by decide +kernel
theorem dX6_said_24 : decode cX6_said 24 = .ok (.iconst 0, 1) := by decide +kernel
theorem dX6_said_25 : decode cX6_said 25 = .ok (.iconst 1, 1) := by decide +kernel
theorem dX6_said_26 : decode cX6_said 26 = .ok (.invokestatic 55, 3) := by decide +kernel
theorem dX6_said_29 : decode cX6_said 29 = .ok (.ifCond .ne 10, 3) := by decide +kernel
theorem dX6_said_32 : decode cX6_said 32 = .ok (.aload_n 0, 1) := by decide +kernel
theorem dX6_said_33 : decode cX6_said 33 = .ok (.bipush (-2), 2) := by decide +kernel
theorem dX6_said_35 : decode cX6_said 35 = .ok (.invokevirtual 51, 3) := by decide +kernel
theorem dX6_said_38 : decode cX6_said 38 = .ok (.ireturn, 1) := by decide +kernel
theorem dX6_said_39 : decode cX6_said 39 = .ok (.aload_n 0, 1) := by decide +kernel
theorem dX6_said_40 : decode cX6_said 40 = .ok (.iload_n 1, 1) := by decide +kernel
theorem dX6_said_41 : decode cX6_said 41 = .ok (.iload_n 2, 1) := by decide +kernel
theorem dX6_said_42 : decode cX6_said 42 = .ok (.invokevirtual 164, 3) := by decide +kernel
theorem dX6_said_45 : decode cX6_said 45 = .ok (.iload 4, 2) := by decide +kernel
theorem dX6_said_47 : decode cX6_said 47 = .ok (.ifCond .ne 12, 3) := by decide +kernel
theorem dX6_said_50 : decode cX6_said 50 = .ok (.aload_n 0, 1) := by decide +kernel
theorem dX6_said_51 : decode cX6_said 51 = .ok (.getfield 37, 3) := by decide +kernel
theorem dX6_said_54 : decode cX6_said 54 = .ok (.iload_n 3, 1) := by decide +kernel
theorem dX6_said_55 : decode cX6_said 55 = .ok (.iaload, 1) := by decide +kernel
theorem dX6_said_56 : decode cX6_said 56 = .ok (.goto 9, 3) := by decide +kernel
theorem dX6_said_59 : decode cX6_said 59 = .ok (.aload_n 0, 1) := by decide +kernel
theorem dX6_said_60 : decode cX6_said 60 = .ok (.getfield 40, 3) := by decide +kernel
theorem dX6_said_63 : decode cX6_said 63 = .ok (.iload_n 3, 1) := by decide +kernel
theorem dX6_said_64 : decode cX6_said 64 = .ok (.iaload, 1) := by decide +kernel
theorem dX6_said_65 : decode cX6_said 65 = .ok (.ireturn, 1) := by decide +kernel
theorem dX6_talker_0 : decode cX6_talker 0 = .ok (.aload_n 0, 1) := by decide +kernel
theorem dX6_talker_1 : decode cX6_talker 1 = .ok (.iload_n 1, 1) := by decide +kernel
theorem dX6_talker_2 : decode cX6_talker 2 = .ok (.iload_n 2, 1) := by decide +kernel
theorem dX6_talker_3 : decode cX6_talker 3 = .ok (.invokevirtual 161, 3) := by decide +kernel
theorem dX6_talker_6 : decode cX6_talker 6 = .ok (.ifCond .ne 9, 3) := by decide +kernel
theorem dX6_talker_9 : decode cX6_talker 9 = .ok (.aload_n 0, 1) := by decide +kernel
theorem dX6_talker_10 : decode cX6_talker 10 = .ok (.iconst (-1), 1) := by decide +kernel
theorem dX6_talker_11 : decode cX6_talker 11 = .ok (.invokevirtual 51, 3) := by decide +kernel
theorem dX6_talker_14 : decode cX6_talker 14 = .ok (.ireturn, 1) := by decide +kernel
theorem dX6_talker_15 : decode cX6_talker 15 = .ok (.aload_n 0, 1) := by decide +kernel
theorem dX6_talker_16 : decode cX6_talker 16 = .ok (.iload_n 1, 1) := by decide +kernel
theorem dX6_talker_17 : decode cX6_talker 17 = .ok (.iload_n 2, 1) := by decide +kernel
theorem dX6_talker_18 : decode cX6_talker 18 = .ok (.invokevirtual 164, 3) := by decide +kernel
theorem dX6_talker_21 : decode cX6_talker 21 = .ok (.bipush (-9), 2) := by decide +kernel
theorem dX6_talker_23 : decode cX6_talker 23 = .ok (.istore_n 3, 1) := by decide +kernel
theorem dX6_talker_24 : decode cX6_talker 24 = .ok (.iconst 0, 1) := by decide +kernel
theorem dX6_talker_25 : decode cX6_talker 25 = .ok (.istore 4, 2) := by decide +kernel
theorem dX6_talker_27 : decode cX6_talker 27 = .ok (.iconst 0, 1) := by decide +kernel
theorem dX6_talker_28 : decode cX6_talker 28 = .ok (.istore 5, 2) := by decide +kernel
theorem dX6_talker_30 : decode cX6_talker 30 = .ok (.iload 5, 2) := by decide +kernel
theorem dX6_talker_32 : decode cX6_talker 32 = .ok (.aload_n 0, 1) := by decide +kernel
theorem dX6_talker_33 : decode cX6_talker 33 = .ok (.getfield 9, 3) := by decide +kernel
theorem dX6_talker_36 : decode cX6_talker 36 = .ok (.iconst 0, 1) := by decide +kernel
theorem dX6_talker_37 : decode cX6_talker 37 = .ok (.iaload, 1) := by decide +kernel
theorem dX6_talker_38 : decode cX6_talker 38 = .ok (.if_icmp .ge 67, 3) := by decide +kernel
theorem dX6_talker_41 : decode cX6_talker 41 = .ok (.iconst 0, 1) := by decide +kernel
theorem dX6_talker_42 : decode cX6_talker 42 = .ok (.istore 6, 2) := by decide +kernel
theorem dX6_talker_44 : decode cX6_talker 44 = .ok (.iconst 0, 1) := by decide +kernel
theorem dX6_talker_45 : decode cX6_talker 45 = .ok (.istore 7, 2) := by decide +kernel
theorem dX6_talker_47 : decode cX6_talker 47 = .ok (.iload 7, 2) := by decide +kernel
theorem dX6_talker_49 : decode cX6_talker 49 = .ok (.bipush 25, 2) := by decide +kernel
theorem dX6_talker_51 : decode cX6_talker 51 = .ok (.if_icmp .ge 31, 3) := by decide +kernel
theorem dX6_talker_54 : decode cX6_talker 54 = .ok (.iload 6, 2) := by decide +kernel
theorem dX6_talker_56 : decode cX6_talker 56 = .ok (.aload_n 0, 1) := by decide +kernel
theorem dX6_talker_57 : decode cX6_talker 57 = .ok (.getfield 40, 3) := by decide +kernel
theorem dX6_talker_60 : decode cX6_talker 60 = .ok (.iload 7, 2) := by decide +kernel
theorem dX6_talker_62 : decode cX6_talker 62 = .ok (.iaload, 1) := by decide +kernel
theorem dX6_talker_63 : decode cX6_talker 63 = .ok (.iload 5, 2) := by decide +kernel
theorem dX6_talker_65 : decode cX6_talker 65 = .ok (.if_icmp .ne 7, 3) := by decide +kernel
theorem dX6_talker_68 : decode cX6_talker 68 = .ok (.iconst 1, 1) := by decide +kernel
theorem dX6_talker_69 : decode cX6_talker 69 = .ok (.goto 4, 3) := by decide +kernel
theorem dX6_talker_72 : decode cX6_talker 72 = .ok (.iconst 0, 1) := by decide +kernel
theorem dX6_talker_73 : decode cX6_talker 73 = .ok (.iadd, 1) := by decide +kernel
theorem dX6_talker_74 : decode cX6_talker 74 = .ok (.istore 6, 2) := by decide +kernel
theorem dX6_talker_76 : decode cX6_talker 76 = .ok (.iinc 7 1, 3) := by decide +kernel
theorem dX6_talker_79 : decode cX6_talker 79 = .ok (.goto (-32), 3) := by decide +kernel
theorem dX6_talker_82 : decode cX6_talker 82 = .ok (.iload 6, 2) := by decide +kernel
theorem dX6_talker_84 : decode cX6_talker 84 = .ok (.iload 4, 2) := by decide +kernel
theorem dX6_talker_86 : decode cX6_talker 86 = .ok (.if_icmp .gt 6, 3) := by decide +kernel
theorem dX6_talker_89 : decode cX6_talker 89 = .ok (.goto 10, 3) := by decide +kernel
theorem dX6_talker_92 : decode cX6_talker 92 = .ok (.iload 5, 2) := by decide +kernel
theorem dX6_talker_94 : decode cX6_talker 94 = .ok (.istore_n 3, 1) := by decide +kernel
theorem dX6_talker_95 : decode cX6_talker 95 = .ok (.iload 6, 2) := by decide +kernel
theorem dX6_talker_97 : decode cX6_talker 97 = .ok (.istore 4, 2) := by decide +kernel
theorem dX6_talker_99 : decode cX6_talker 99 = .ok (.iinc 5 1, 3) := by decide +kernel
theorem dX6_talker_102 : decode cX6_talker 102 = .ok (.goto (-72), 3) := by decide +kernel
theorem dX6_talker_105 : decode cX6_talker 105 = .ok (.iload_n 3, 1) := by decide +kernel
theorem dX6_talker_106 : decode cX6_talker 106 = .ok (.ireturn, 1) := by decide +kernel
theorem dX6_alone_0 : decode cX6_alone 0 = .ok (.iload_n 1, 1) := by decide +kernel
theorem dX6_alone_1 : decode cX6_alone 1 = .ok (.invokestatic 138, 3) := by decide +kernel
theorem dX6_alone_4 : decode cX6_alone 4 = .ok (.ifCond .ne 9, 3) := by decide +kernel
theorem dX6_alone_7 : decode cX6_alone 7 = .ok (.aload_n 0, 1) := by decide +kernel
theorem dX6_alone_8 : decode cX6_alone 8 = .ok (.iconst (-1), 1) := by decide +kernel
theorem dX6_alone_9 : decode cX6_alone 9 = .ok (.invokevirtual 51, 3) := by decide +kernel
theorem dX6_alone_12 : decode cX6_alone 12 = .ok (.ireturn, 1) := by decide +kernel
theorem dX6_alone_13 : decode cX6_alone 13 = .ok (.aload_n 0, 1) := by decide +kernel
theorem dX6_alone_14 : decode cX6_alone 14 = .ok (.iconst 0, 1) := by decide +kernel
theorem dX6_alone_15 : decode cX6_alone 15 = .ok (.putfield 96, 3) := by decide +kernel
theorem dX6_alone_18 : decode cX6_alone 18 = .ok (.aload_n 0, 1) := by decide +kernel
theorem dX6_alone_19 : decode cX6_alone 19 = .ok (.aload_n 0, 1) := by decide +kernel
theorem dX6_alone_20 : decode cX6_alone 20 = .ok (.getfield 9, 3) := by decide +kernel
theorem dX6_alone_23 : decode cX6_alone 23 = .ok (.iload_n 1, 1) := by decide +kernel
theorem dX6_alone_24 : decode cX6_alone 24 = .ok (.invokevirtual 110, 3) := by decide +kernel
theorem dX6_alone_27 : decode cX6_alone 27 = .ok (.aload_n 0, 1) := by decide +kernel
theorem dX6_alone_28 : decode cX6_alone 28 = .ok (.aload_n 0, 1) := by decide +kernel
theorem dX6_alone_29 : decode cX6_alone 29 = .ok (.getfield 9, 3) := by decide +kernel
theorem dX6_alone_32 : decode cX6_alone 32 = .ok (.invokevirtual 114, 3) := by decide +kernel
theorem dX6_alone_35 : decode cX6_alone 35 = .ok (.ireturn, 1) := by decide +kernel
theorem dX6_bestSpeaker_0 : decode cX6_bestSpeaker 0 = .ok (.iload_n 1, 1) := by decide +kernel
theorem dX6_bestSpeaker_1 : decode cX6_bestSpeaker 1 = .ok (.invokestatic 138, 3) := by decide +kernel
theorem dX6_bestSpeaker_4 : decode cX6_bestSpeaker 4 = .ok (.ifCond .ne 9, 3) := by decide +kernel
theorem dX6_bestSpeaker_7 : decode cX6_bestSpeaker 7 = .ok (.aload_n 0, 1) := by decide +kernel
theorem dX6_bestSpeaker_8 : decode cX6_bestSpeaker 8 = .ok (.iconst (-1), 1) := by decide +kernel
theorem dX6_bestSpeaker_9 : decode cX6_bestSpeaker 9 = .ok (.invokevirtual 51, 3) := by decide +kernel
theorem dX6_bestSpeaker_12 : decode cX6_bestSpeaker 12 = .ok (.ireturn, 1) := by decide +kernel
theorem dX6_bestSpeaker_13 : decode cX6_bestSpeaker 13 = .ok (.bipush (-9), 2) := by decide +kernel
theorem dX6_bestSpeaker_15 : decode cX6_bestSpeaker 15 = .ok (.istore_n 2, 1) := by decide +kernel
theorem dX6_bestSpeaker_16 : decode cX6_bestSpeaker 16 = .ok (.ldc 63, 2) := by decide +kernel
theorem dX6_bestSpeaker_18 : decode cX6_bestSpeaker 18 = .ok (.istore_n 3, 1) := by decide +kernel
theorem dX6_bestSpeaker_19 : decode cX6_bestSpeaker 19 = .ok (.iconst 0, 1) := by decide +kernel
theorem dX6_bestSpeaker_20 : decode cX6_bestSpeaker 20 = .ok (.istore 4, 2) := by decide +kernel
theorem dX6_bestSpeaker_22 : decode cX6_bestSpeaker 22 = .ok (.iload 4, 2) := by decide +kernel
theorem dX6_bestSpeaker_24 : decode cX6_bestSpeaker 24 = .ok (.aload_n 0, 1) := by decide +kernel
theorem dX6_bestSpeaker_25 : decode cX6_bestSpeaker 25 = .ok (.getfield 9, 3) := by decide +kernel
theorem dX6_bestSpeaker_28 : decode cX6_bestSpeaker 28 = .ok (.iconst 0, 1) := by decide +kernel
theorem dX6_bestSpeaker_29 : decode cX6_bestSpeaker 29 = .ok (.iaload, 1) := by decide +kernel
theorem dX6_bestSpeaker_30 : decode cX6_bestSpeaker 30 = .ok (.if_icmp .ge 37, 3) := by decide +kernel
theorem dX6_bestSpeaker_33 : decode cX6_bestSpeaker 33 = .ok (.aload_n 0, 1) := by decide +kernel
theorem dX6_bestSpeaker_34 : decode cX6_bestSpeaker 34 = .ok (.aload_n 0, 1) := by decide +kernel
theorem dX6_bestSpeaker_35 : decode cX6_bestSpeaker 35 = .ok (.getfield 9, 3) := by decide +kernel
theorem dX6_bestSpeaker_38 : decode cX6_bestSpeaker 38 = .ok (.iload_n 1, 1) := by decide +kernel
theorem dX6_bestSpeaker_39 : decode cX6_bestSpeaker 39 = .ok (.iload 4, 2) := by decide +kernel
theorem dX6_bestSpeaker_41 : decode cX6_bestSpeaker 41 = .ok (.invokevirtual 171, 3) := by decide +kernel
theorem dX6_bestSpeaker_44 : decode cX6_bestSpeaker 44 = .ok (.istore 5, 2) := by decide +kernel
theorem dX6_bestSpeaker_46 : decode cX6_bestSpeaker 46 = .ok (.iload 5, 2) := by decide +kernel
theorem dX6_bestSpeaker_48 : decode cX6_bestSpeaker 48 = .ok (.iload_n 3, 1) := by decide +kernel
theorem dX6_bestSpeaker_49 : decode cX6_bestSpeaker 49 = .ok (.if_icmp .lt 6, 3) := by decide +kernel
theorem dX6_bestSpeaker_52 : decode cX6_bestSpeaker 52 = .ok (.goto 9, 3) := by decide +kernel
theorem dX6_bestSpeaker_55 : decode cX6_bestSpeaker 55 = .ok (.iload 4, 2) := by decide +kernel
theorem dX6_bestSpeaker_57 : decode cX6_bestSpeaker 57 = .ok (.istore_n 2, 1) := by decide +kernel
theorem dX6_bestSpeaker_58 : decode cX6_bestSpeaker 58 = .ok (.iload 5, 2) := by decide +kernel
theorem dX6_bestSpeaker_60 : decode cX6_bestSpeaker 60 = .ok (.istore_n 3, 1) := by decide +kernel
theorem dX6_bestSpeaker_61 : decode cX6_bestSpeaker 61 = .ok (.iinc 4 1, 3) := by decide +kernel
theorem dX6_bestSpeaker_64 : decode cX6_bestSpeaker 64 = .ok (.goto (-42), 3) := by decide +kernel
theorem dX6_bestSpeaker_67 : decode cX6_bestSpeaker 67 = .ok (.iload_n 2, 1) := by decide +kernel
theorem dX6_bestSpeaker_68 : decode cX6_bestSpeaker 68 = .ok (.ireturn, 1) := by decide +kernel
theorem dX6_worstRoom_0 : decode cX6_worstRoom 0 = .ok (.iconst 0, 1) := by decide +kernel
theorem dX6_worstRoom_1 : decode cX6_worstRoom 1 = .ok (.istore_n 1, 1) := by decide +kernel
theorem dX6_worstRoom_2 : decode cX6_worstRoom 2 = .ok (.iconst (-1), 1) := by decide +kernel
theorem dX6_worstRoom_3 : decode cX6_worstRoom 3 = .ok (.istore_n 2, 1) := by decide +kernel
theorem dX6_worstRoom_4 : decode cX6_worstRoom 4 = .ok (.iconst 0, 1) := by decide +kernel
theorem dX6_worstRoom_5 : decode cX6_worstRoom 5 = .ok (.istore_n 3, 1) := by decide +kernel
theorem dX6_worstRoom_6 : decode cX6_worstRoom 6 = .ok (.iload_n 3, 1) := by decide +kernel
theorem dX6_worstRoom_7 : decode cX6_worstRoom 7 = .ok (.bipush 25, 2) := by decide +kernel
theorem dX6_worstRoom_9 : decode cX6_worstRoom 9 = .ok (.if_icmp .ge 35, 3) := by decide +kernel
theorem dX6_worstRoom_12 : decode cX6_worstRoom 12 = .ok (.aload_n 0, 1) := by decide +kernel
theorem dX6_worstRoom_13 : decode cX6_worstRoom 13 = .ok (.aload_n 0, 1) := by decide +kernel
theorem dX6_worstRoom_14 : decode cX6_worstRoom 14 = .ok (.getfield 9, 3) := by decide +kernel
theorem dX6_worstRoom_17 : decode cX6_worstRoom 17 = .ok (.iload_n 3, 1) := by decide +kernel
theorem dX6_worstRoom_18 : decode cX6_worstRoom 18 = .ok (.iconst 0, 1) := by decide +kernel
theorem dX6_worstRoom_19 : decode cX6_worstRoom 19 = .ok (.invokevirtual 171, 3) := by decide +kernel
theorem dX6_worstRoom_22 : decode cX6_worstRoom 22 = .ok (.istore 4, 2) := by decide +kernel
theorem dX6_worstRoom_24 : decode cX6_worstRoom 24 = .ok (.iload 4, 2) := by decide +kernel
theorem dX6_worstRoom_26 : decode cX6_worstRoom 26 = .ok (.iload_n 2, 1) := by decide +kernel
theorem dX6_worstRoom_27 : decode cX6_worstRoom 27 = .ok (.if_icmp .gt 6, 3) := by decide +kernel
theorem dX6_worstRoom_30 : decode cX6_worstRoom 30 = .ok (.goto 8, 3) := by decide +kernel
theorem dX6_worstRoom_33 : decode cX6_worstRoom 33 = .ok (.iload_n 3, 1) := by decide +kernel
theorem dX6_worstRoom_34 : decode cX6_worstRoom 34 = .ok (.istore_n 1, 1) := by decide +kernel
theorem dX6_worstRoom_35 : decode cX6_worstRoom 35 = .ok (.iload 4, 2) := by decide +kernel
theorem dX6_worstRoom_37 : decode cX6_worstRoom 37 = .ok (.istore_n 2, 1) := by decide +kernel
theorem dX6_worstRoom_38 : decode cX6_worstRoom 38 = .ok (.iinc 3 1, 3) := by decide +kernel
theorem dX6_worstRoom_41 : decode cX6_worstRoom 41 = .ok (.goto (-35), 3) := by decide +kernel
theorem dX6_worstRoom_44 : decode cX6_worstRoom 44 = .ok (.iload_n 1, 1) := by decide +kernel
theorem dX6_worstRoom_45 : decode cX6_worstRoom 45 = .ok (.ireturn, 1) := by decide +kernel
theorem dX6_show_0 : decode cX6_show 0 = .ok (.iload_n 1, 1) := by decide +kernel
theorem dX6_show_1 : decode cX6_show 1 = .ok (.invokestatic 138, 3) := by decide +kernel
theorem dX6_show_4 : decode cX6_show 4 = .ok (.ifCond .eq 11, 3) := by decide +kernel
theorem dX6_show_7 : decode cX6_show 7 = .ok (.aload_n 0, 1) := by decide +kernel
theorem dX6_show_8 : decode cX6_show 8 = .ok (.iload_n 2, 1) := by decide +kernel
theorem dX6_show_9 : decode cX6_show 9 = .ok (.invokevirtual 59, 3) := by decide +kernel
theorem dX6_show_12 : decode cX6_show 12 = .ok (.ifCond .ne 9, 3) := by decide +kernel
theorem dX6_show_15 : decode cX6_show 15 = .ok (.aload_n 0, 1) := by decide +kernel
theorem dX6_show_16 : decode cX6_show 16 = .ok (.iconst (-1), 1) := by decide +kernel
theorem dX6_show_17 : decode cX6_show 17 = .ok (.invokevirtual 51, 3) := by decide +kernel
theorem dX6_show_20 : decode cX6_show 20 = .ok (.ireturn, 1) := by decide +kernel
theorem dX6_show_21 : decode cX6_show 21 = .ok (.bipush (-9), 2) := by decide +kernel
theorem dX6_show_23 : decode cX6_show 23 = .ok (.istore_n 3, 1) := by decide +kernel
theorem dX6_show_24 : decode cX6_show 24 = .ok (.aload_n 0, 1) := by decide +kernel
theorem dX6_show_25 : decode cX6_show 25 = .ok (.aload_n 0, 1) := by decide +kernel
theorem dX6_show_26 : decode cX6_show 26 = .ok (.getfield 9, 3) := by decide +kernel
theorem dX6_show_29 : decode cX6_show 29 = .ok (.iload_n 1, 1) := by decide +kernel
theorem dX6_show_30 : decode cX6_show 30 = .ok (.iconst 0, 1) := by decide +kernel
theorem dX6_show_31 : decode cX6_show 31 = .ok (.invokevirtual 171, 3) := by decide +kernel
theorem dX6_show_34 : decode cX6_show 34 = .ok (.istore 4, 2) := by decide +kernel
theorem dX6_show_36 : decode cX6_show 36 = .ok (.iconst 0, 1) := by decide +kernel
theorem dX6_show_37 : decode cX6_show 37 = .ok (.istore 5, 2) := by decide +kernel
theorem dX6_show_39 : decode cX6_show 39 = .ok (.iload 5, 2) := by decide +kernel
theorem dX6_show_41 : decode cX6_show 41 = .ok (.bipush 25, 2) := by decide +kernel
theorem dX6_show_43 : decode cX6_show 43 = .ok (.if_icmp .ge 62, 3) := by decide +kernel
theorem dX6_show_46 : decode cX6_show 46 = .ok (.aload_n 0, 1) := by decide +kernel
theorem dX6_show_47 : decode cX6_show 47 = .ok (.getfield 9, 3) := by decide +kernel
theorem dX6_show_50 : decode cX6_show 50 = .ok (.aload_n 0, 1) := by decide +kernel
theorem dX6_show_51 : decode cX6_show 51 = .ok (.getfield 13, 3) := by decide +kernel
theorem dX6_show_54 : decode cX6_show 54 = .ok (.invokestatic 147, 3) := by decide +kernel
theorem dX6_show_57 : decode cX6_show 57 = .ok (.aload_n 0, 1) := by decide +kernel
theorem dX6_show_58 : decode cX6_show 58 = .ok (.getfield 13, 3) := by decide +kernel
theorem dX6_show_61 : decode cX6_show 61 = .ok (.iload_n 2, 1) := by decide +kernel
theorem dX6_show_62 : decode cX6_show 62 = .ok (.iload 5, 2) := by decide +kernel
theorem dX6_show_64 : decode cX6_show 64 = .ok (.invokestatic 64, 3) := by decide +kernel
theorem dX6_show_67 : decode cX6_show 67 = .ok (.bipush 9, 2) := by decide +kernel
theorem dX6_show_69 : decode cX6_show 69 = .ok (.iastore, 1) := by decide +kernel
theorem dX6_show_70 : decode cX6_show 70 = .ok (.aload_n 0, 1) := by decide +kernel
theorem dX6_show_71 : decode cX6_show 71 = .ok (.aload_n 0, 1) := by decide +kernel
theorem dX6_show_72 : decode cX6_show 72 = .ok (.getfield 13, 3) := by decide +kernel
theorem dX6_show_75 : decode cX6_show 75 = .ok (.iload_n 1, 1) := by decide +kernel
theorem dX6_show_76 : decode cX6_show 76 = .ok (.iconst 0, 1) := by decide +kernel
theorem dX6_show_77 : decode cX6_show 77 = .ok (.invokevirtual 171, 3) := by decide +kernel
theorem dX6_show_80 : decode cX6_show 80 = .ok (.istore 6, 2) := by decide +kernel
theorem dX6_show_82 : decode cX6_show 82 = .ok (.iload 6, 2) := by decide +kernel
theorem dX6_show_84 : decode cX6_show 84 = .ok (.iload 4, 2) := by decide +kernel
theorem dX6_show_86 : decode cX6_show 86 = .ok (.if_icmp .lt 6, 3) := by decide +kernel
theorem dX6_show_89 : decode cX6_show 89 = .ok (.goto 10, 3) := by decide +kernel
theorem dX6_show_92 : decode cX6_show 92 = .ok (.iload 5, 2) := by decide +kernel
theorem dX6_show_94 : decode cX6_show 94 = .ok (.istore_n 3, 1) := by decide +kernel
theorem dX6_show_95 : decode cX6_show 95 = .ok (.iload 6, 2) := by decide +kernel
theorem dX6_show_97 : decode cX6_show 97 = .ok (.istore 4, 2) := by decide +kernel
theorem dX6_show_99 : decode cX6_show 99 = .ok (.iinc 5 1, 3) := by decide +kernel
theorem dX6_show_102 : decode cX6_show 102 = .ok (.goto (-63), 3) := by decide +kernel
theorem dX6_show_105 : decode cX6_show 105 = .ok (.iload_n 3, 1) := by decide +kernel
theorem dX6_show_106 : decode cX6_show 106 = .ok (.ireturn, 1) := by decide +kernel
theorem dX6_mayWait_0 : decode cX6_mayWait 0 = .ok (.iload_n 1, 1) := by decide +kernel
theorem dX6_mayWait_1 : decode cX6_mayWait 1 = .ok (.invokestatic 138, 3) := by decide +kernel
theorem dX6_mayWait_4 : decode cX6_mayWait 4 = .ok (.ifCond .ne 9, 3) := by decide +kernel
theorem dX6_mayWait_7 : decode cX6_mayWait 7 = .ok (.aload_n 0, 1) := by decide +kernel
theorem dX6_mayWait_8 : decode cX6_mayWait 8 = .ok (.iconst (-1), 1) := by decide +kernel
theorem dX6_mayWait_9 : decode cX6_mayWait 9 = .ok (.invokevirtual 51, 3) := by decide +kernel
theorem dX6_mayWait_12 : decode cX6_mayWait 12 = .ok (.ireturn, 1) := by decide +kernel
theorem dX6_mayWait_13 : decode cX6_mayWait 13 = .ok (.aload_n 0, 1) := by decide +kernel
theorem dX6_mayWait_14 : decode cX6_mayWait 14 = .ok (.aload_n 0, 1) := by decide +kernel
theorem dX6_mayWait_15 : decode cX6_mayWait 15 = .ok (.getfield 9, 3) := by decide +kernel
theorem dX6_mayWait_18 : decode cX6_mayWait 18 = .ok (.iload_n 1, 1) := by decide +kernel
theorem dX6_mayWait_19 : decode cX6_mayWait 19 = .ok (.iconst 0, 1) := by decide +kernel
theorem dX6_mayWait_20 : decode cX6_mayWait 20 = .ok (.invokevirtual 171, 3) := by decide +kernel
theorem dX6_mayWait_23 : decode cX6_mayWait 23 = .ok (.istore_n 2, 1) := by decide +kernel
theorem dX6_mayWait_24 : decode cX6_mayWait 24 = .ok (.aload_n 0, 1) := by decide +kernel
theorem dX6_mayWait_25 : decode cX6_mayWait 25 = .ok (.getfield 9, 3) := by decide +kernel
theorem dX6_mayWait_28 : decode cX6_mayWait 28 = .ok (.aload_n 0, 1) := by decide +kernel
theorem dX6_mayWait_29 : decode cX6_mayWait 29 = .ok (.getfield 13, 3) := by decide +kernel
theorem dX6_mayWait_32 : decode cX6_mayWait 32 = .ok (.invokestatic 147, 3) := by decide +kernel
theorem dX6_mayWait_35 : decode cX6_mayWait 35 = .ok (.iconst 0, 1) := by decide +kernel
theorem dX6_mayWait_36 : decode cX6_mayWait 36 = .ok (.istore_n 3, 1) := by decide +kernel
theorem dX6_mayWait_37 : decode cX6_mayWait 37 = .ok (.iload_n 3, 1) := by decide +kernel
theorem dX6_mayWait_38 : decode cX6_mayWait 38 = .ok (.bipush 99, 2) := by decide +kernel
theorem dX6_mayWait_40 : decode cX6_mayWait 40 = .ok (.if_icmp .gt 32, 3) := by decide +kernel
theorem dX6_mayWait_43 : decode cX6_mayWait 43 = .ok (.aload_n 0, 1) := by decide +kernel
theorem dX6_mayWait_44 : decode cX6_mayWait 44 = .ok (.aload_n 0, 1) := by decide +kernel
theorem dX6_mayWait_45 : decode cX6_mayWait 45 = .ok (.getfield 13, 3) := by decide +kernel
theorem dX6_mayWait_48 : decode cX6_mayWait 48 = .ok (.iload_n 1, 1) := by decide +kernel
theorem dX6_mayWait_49 : decode cX6_mayWait 49 = .ok (.iconst 0, 1) := by decide +kernel
theorem dX6_mayWait_50 : decode cX6_mayWait 50 = .ok (.invokevirtual 171, 3) := by decide +kernel
theorem dX6_mayWait_53 : decode cX6_mayWait 53 = .ok (.iload_n 2, 1) := by decide +kernel
theorem dX6_mayWait_54 : decode cX6_mayWait 54 = .ok (.if_icmp .le 5, 3) := by decide +kernel
theorem dX6_mayWait_57 : decode cX6_mayWait 57 = .ok (.iload_n 3, 1) := by decide +kernel
theorem dX6_mayWait_58 : decode cX6_mayWait 58 = .ok (.ireturn, 1) := by decide +kernel
theorem dX6_mayWait_59 : decode cX6_mayWait 59 = .ok (.aload_n 0, 1) := by decide +kernel
theorem dX6_mayWait_60 : decode cX6_mayWait 60 = .ok (.getfield 13, 3) := by decide +kernel
theorem dX6_mayWait_63 : decode cX6_mayWait 63 = .ok (.invokestatic 141, 3) := by decide +kernel
theorem dX6_mayWait_66 : decode cX6_mayWait 66 = .ok (.iinc 3 1, 3) := by decide +kernel
theorem dX6_mayWait_69 : decode cX6_mayWait 69 = .ok (.goto (-32), 3) := by decide +kernel
theorem dX6_mayWait_72 : decode cX6_mayWait 72 = .ok (.bipush (-9), 2) := by decide +kernel
theorem dX6_mayWait_74 : decode cX6_mayWait 74 = .ok (.ireturn, 1) := by decide +kernel
theorem dX6_leftOut_0 : decode cX6_leftOut 0 = .ok (.iload_n 1, 1) := by decide +kernel
theorem dX6_leftOut_1 : decode cX6_leftOut 1 = .ok (.invokestatic 138, 3) := by decide +kernel
theorem dX6_leftOut_4 : decode cX6_leftOut 4 = .ok (.ifCond .ne 9, 3) := by decide +kernel
theorem dX6_leftOut_7 : decode cX6_leftOut 7 = .ok (.aload_n 0, 1) := by decide +kernel
theorem dX6_leftOut_8 : decode cX6_leftOut 8 = .ok (.iconst (-1), 1) := by decide +kernel
theorem dX6_leftOut_9 : decode cX6_leftOut 9 = .ok (.invokevirtual 51, 3) := by decide +kernel
theorem dX6_leftOut_12 : decode cX6_leftOut 12 = .ok (.ireturn, 1) := by decide +kernel
theorem dX6_leftOut_13 : decode cX6_leftOut 13 = .ok (.bipush (-9), 2) := by decide +kernel
theorem dX6_leftOut_15 : decode cX6_leftOut 15 = .ok (.istore_n 2, 1) := by decide +kernel
theorem dX6_leftOut_16 : decode cX6_leftOut 16 = .ok (.iconst (-1), 1) := by decide +kernel
theorem dX6_leftOut_17 : decode cX6_leftOut 17 = .ok (.istore_n 3, 1) := by decide +kernel
theorem dX6_leftOut_18 : decode cX6_leftOut 18 = .ok (.iconst 0, 1) := by decide +kernel
theorem dX6_leftOut_19 : decode cX6_leftOut 19 = .ok (.istore 4, 2) := by decide +kernel
theorem dX6_leftOut_21 : decode cX6_leftOut 21 = .ok (.iload 4, 2) := by decide +kernel
theorem dX6_leftOut_23 : decode cX6_leftOut 23 = .ok (.aload_n 0, 1) := by decide +kernel
theorem dX6_leftOut_24 : decode cX6_leftOut 24 = .ok (.getfield 9, 3) := by decide +kernel
theorem dX6_leftOut_27 : decode cX6_leftOut 27 = .ok (.iconst 0, 1) := by decide +kernel
theorem dX6_leftOut_28 : decode cX6_leftOut 28 = .ok (.iaload, 1) := by decide +kernel
theorem dX6_leftOut_29 : decode cX6_leftOut 29 = .ok (.if_icmp .ge 56, 3) := by decide +kernel
theorem dX6_leftOut_32 : decode cX6_leftOut 32 = .ok (.aload_n 0, 1) := by decide +kernel
theorem dX6_leftOut_33 : decode cX6_leftOut 33 = .ok (.aload_n 0, 1) := by decide +kernel
theorem dX6_leftOut_34 : decode cX6_leftOut 34 = .ok (.getfield 9, 3) := by decide +kernel
theorem dX6_leftOut_37 : decode cX6_leftOut 37 = .ok (.iconst 0, 1) := by decide +kernel
theorem dX6_leftOut_38 : decode cX6_leftOut 38 = .ok (.iload 4, 2) := by decide +kernel
theorem dX6_leftOut_40 : decode cX6_leftOut 40 = .ok (.invokevirtual 106, 3) := by decide +kernel
theorem dX6_leftOut_43 : decode cX6_leftOut 43 = .ok (.aload_n 0, 1) := by decide +kernel
theorem dX6_leftOut_44 : decode cX6_leftOut 44 = .ok (.aload_n 0, 1) := by decide +kernel
theorem dX6_leftOut_45 : decode cX6_leftOut 45 = .ok (.getfield 9, 3) := by decide +kernel
theorem dX6_leftOut_48 : decode cX6_leftOut 48 = .ok (.iload_n 1, 1) := by decide +kernel
theorem dX6_leftOut_49 : decode cX6_leftOut 49 = .ok (.invokevirtual 110, 3) := by decide +kernel
theorem dX6_leftOut_52 : decode cX6_leftOut 52 = .ok (.aload_n 0, 1) := by decide +kernel
theorem dX6_leftOut_53 : decode cX6_leftOut 53 = .ok (.aload_n 0, 1) := by decide +kernel
theorem dX6_leftOut_54 : decode cX6_leftOut 54 = .ok (.getfield 9, 3) := by decide +kernel
theorem dX6_leftOut_57 : decode cX6_leftOut 57 = .ok (.invokevirtual 114, 3) := by decide +kernel
theorem dX6_leftOut_60 : decode cX6_leftOut 60 = .ok (.iload_n 3, 1) := by decide +kernel
theorem dX6_leftOut_61 : decode cX6_leftOut 61 = .ok (.if_icmp .gt 6, 3) := by decide +kernel
theorem dX6_leftOut_64 : decode cX6_leftOut 64 = .ok (.goto 15, 3) := by decide +kernel
theorem dX6_leftOut_67 : decode cX6_leftOut 67 = .ok (.iload 4, 2) := by decide +kernel
theorem dX6_leftOut_69 : decode cX6_leftOut 69 = .ok (.istore_n 2, 1) := by decide +kernel
theorem dX6_leftOut_70 : decode cX6_leftOut 70 = .ok (.aload_n 0, 1) := by decide +kernel
theorem dX6_leftOut_71 : decode cX6_leftOut 71 = .ok (.aload_n 0, 1) := by decide +kernel
theorem dX6_leftOut_72 : decode cX6_leftOut 72 = .ok (.getfield 9, 3) := by decide +kernel
theorem dX6_leftOut_75 : decode cX6_leftOut 75 = .ok (.invokevirtual 114, 3) := by decide +kernel
theorem dX6_leftOut_78 : decode cX6_leftOut 78 = .ok (.istore_n 3, 1) := by decide +kernel
theorem dX6_leftOut_79 : decode cX6_leftOut 79 = .ok (.iinc 4 1, 3) := by decide +kernel
theorem dX6_leftOut_82 : decode cX6_leftOut 82 = .ok (.goto (-61), 3) := by decide +kernel
theorem dX6_leftOut_85 : decode cX6_leftOut 85 = .ok (.iload_n 2, 1) := by decide +kernel
theorem dX6_leftOut_86 : decode cX6_leftOut 86 = .ok (.ireturn, 1) := by decide +kernel
theorem dX6_bits_0 : decode cX6_bits 0 = .ok (.iconst 0, 1) := by decide +kernel
theorem dX6_bits_1 : decode cX6_bits 1 = .ok (.istore_n 1, 1) := by decide +kernel
theorem dX6_bits_2 : decode cX6_bits 2 = .ok (.iconst 0, 1) := by decide +kernel
theorem dX6_bits_3 : decode cX6_bits 3 = .ok (.istore_n 2, 1) := by decide +kernel
theorem dX6_bits_4 : decode cX6_bits 4 = .ok (.iload_n 2, 1) := by decide +kernel
theorem dX6_bits_5 : decode cX6_bits 5 = .ok (.bipush 10, 2) := by decide +kernel
theorem dX6_bits_7 : decode cX6_bits 7 = .ok (.if_icmp .ge 17, 3) := by decide +kernel
theorem dX6_bits_10 : decode cX6_bits 10 = .ok (.iload_n 1, 1) := by decide +kernel
theorem dX6_bits_11 : decode cX6_bits 11 = .ok (.iload_n 0, 1) := by decide +kernel
theorem dX6_bits_12 : decode cX6_bits 12 = .ok (.iload_n 2, 1) := by decide +kernel
theorem dX6_bits_13 : decode cX6_bits 13 = .ok (.ishr, 1) := by decide +kernel
theorem dX6_bits_14 : decode cX6_bits 14 = .ok (.iconst 1, 1) := by decide +kernel
theorem dX6_bits_15 : decode cX6_bits 15 = .ok (.iand, 1) := by decide +kernel
theorem dX6_bits_16 : decode cX6_bits 16 = .ok (.iadd, 1) := by decide +kernel
theorem dX6_bits_17 : decode cX6_bits 17 = .ok (.istore_n 1, 1) := by decide +kernel
theorem dX6_bits_18 : decode cX6_bits 18 = .ok (.iinc 2 1, 3) := by decide +kernel
theorem dX6_bits_21 : decode cX6_bits 21 = .ok (.goto (-17), 3) := by decide +kernel
theorem dX6_bits_24 : decode cX6_bits 24 = .ok (.iload_n 1, 1) := by decide +kernel
theorem dX6_bits_25 : decode cX6_bits 25 = .ok (.ireturn, 1) := by decide +kernel
theorem dX6_enough_0 : decode cX6_enough 0 = .ok (.iload_n 1, 1) := by decide +kernel
theorem dX6_enough_1 : decode cX6_enough 1 = .ok (.invokestatic 138, 3) := by decide +kernel
theorem dX6_enough_4 : decode cX6_enough 4 = .ok (.ifCond .ne 9, 3) := by decide +kernel
theorem dX6_enough_7 : decode cX6_enough 7 = .ok (.aload_n 0, 1) := by decide +kernel
theorem dX6_enough_8 : decode cX6_enough 8 = .ok (.iconst (-1), 1) := by decide +kernel
theorem dX6_enough_9 : decode cX6_enough 9 = .ok (.invokevirtual 51, 3) := by decide +kernel
theorem dX6_enough_12 : decode cX6_enough 12 = .ok (.ireturn, 1) := by decide +kernel
theorem dX6_enough_13 : decode cX6_enough 13 = .ok (.aload_n 0, 1) := by decide +kernel
theorem dX6_enough_14 : decode cX6_enough 14 = .ok (.aload_n 0, 1) := by decide +kernel
theorem dX6_enough_15 : decode cX6_enough 15 = .ok (.getfield 9, 3) := by decide +kernel
theorem dX6_enough_18 : decode cX6_enough 18 = .ok (.iload_n 1, 1) := by decide +kernel
theorem dX6_enough_19 : decode cX6_enough 19 = .ok (.iconst 0, 1) := by decide +kernel
theorem dX6_enough_20 : decode cX6_enough 20 = .ok (.invokevirtual 171, 3) := by decide +kernel
theorem dX6_enough_23 : decode cX6_enough 23 = .ok (.istore_n 2, 1) := by decide +kernel
theorem dX6_enough_24 : decode cX6_enough 24 = .ok (.iconst 1, 1) := by decide +kernel
theorem dX6_enough_25 : decode cX6_enough 25 = .ok (.aload_n 0, 1) := by decide +kernel
theorem dX6_enough_26 : decode cX6_enough 26 = .ok (.getfield 9, 3) := by decide +kernel
theorem dX6_enough_29 : decode cX6_enough 29 = .ok (.iconst 0, 1) := by decide +kernel
theorem dX6_enough_30 : decode cX6_enough 30 = .ok (.iaload, 1) := by decide +kernel
theorem dX6_enough_31 : decode cX6_enough 31 = .ok (.ishl, 1) := by decide +kernel
theorem dX6_enough_32 : decode cX6_enough 32 = .ok (.iconst 1, 1) := by decide +kernel
theorem dX6_enough_33 : decode cX6_enough 33 = .ok (.isub, 1) := by decide +kernel
theorem dX6_enough_34 : decode cX6_enough 34 = .ok (.istore_n 3, 1) := by decide +kernel
theorem dX6_enough_35 : decode cX6_enough 35 = .ok (.iconst 0, 1) := by decide +kernel
theorem dX6_enough_36 : decode cX6_enough 36 = .ok (.istore 4, 2) := by decide +kernel
theorem dX6_enough_38 : decode cX6_enough 38 = .ok (.iload 4, 2) := by decide +kernel
theorem dX6_enough_40 : decode cX6_enough 40 = .ok (.iconst 1, 1) := by decide +kernel
theorem dX6_enough_41 : decode cX6_enough 41 = .ok (.aload_n 0, 1) := by decide +kernel
theorem dX6_enough_42 : decode cX6_enough 42 = .ok (.getfield 9, 3) := by decide +kernel
theorem dX6_enough_45 : decode cX6_enough 45 = .ok (.iconst 0, 1) := by decide +kernel
theorem dX6_enough_46 : decode cX6_enough 46 = .ok (.iaload, 1) := by decide +kernel
theorem dX6_enough_47 : decode cX6_enough 47 = .ok (.ishl, 1) := by decide +kernel
theorem dX6_enough_48 : decode cX6_enough 48 = .ok (.if_icmp .ge 107, 3) := by decide +kernel
theorem dX6_enough_51 : decode cX6_enough 51 = .ok (.iload 4, 2) := by decide +kernel
theorem dX6_enough_53 : decode cX6_enough 53 = .ok (.invokestatic 175, 3) := by decide +kernel
theorem dX6_enough_56 : decode cX6_enough 56 = .ok (.iload_n 3, 1) := by decide +kernel
theorem dX6_enough_57 : decode cX6_enough 57 = .ok (.invokestatic 175, 3) := by decide +kernel
theorem dX6_enough_60 : decode cX6_enough 60 = .ok (.if_icmp .lt 6, 3) := by decide +kernel
theorem dX6_enough_63 : decode cX6_enough 63 = .ok (.goto 86, 3) := by decide +kernel
theorem dX6_enough_66 : decode cX6_enough 66 = .ok (.aload_n 0, 1) := by decide +kernel
theorem dX6_enough_67 : decode cX6_enough 67 = .ok (.iconst 0, 1) := by decide +kernel
theorem dX6_enough_68 : decode cX6_enough 68 = .ok (.putfield 96, 3) := by decide +kernel
theorem dX6_enough_71 : decode cX6_enough 71 = .ok (.iconst 0, 1) := by decide +kernel
theorem dX6_enough_72 : decode cX6_enough 72 = .ok (.istore 5, 2) := by decide +kernel
theorem dX6_enough_74 : decode cX6_enough 74 = .ok (.iload 5, 2) := by decide +kernel
theorem dX6_enough_76 : decode cX6_enough 76 = .ok (.aload_n 0, 1) := by decide +kernel
theorem dX6_enough_77 : decode cX6_enough 77 = .ok (.getfield 9, 3) := by decide +kernel
theorem dX6_enough_80 : decode cX6_enough 80 = .ok (.iconst 0, 1) := by decide +kernel
theorem dX6_enough_81 : decode cX6_enough 81 = .ok (.iaload, 1) := by decide +kernel
theorem dX6_enough_82 : decode cX6_enough 82 = .ok (.if_icmp .ge 43, 3) := by decide +kernel
theorem dX6_enough_85 : decode cX6_enough 85 = .ok (.iload 4, 2) := by decide +kernel
theorem dX6_enough_87 : decode cX6_enough 87 = .ok (.iload 5, 2) := by decide +kernel
theorem dX6_enough_89 : decode cX6_enough 89 = .ok (.ishr, 1) := by decide +kernel
theorem dX6_enough_90 : decode cX6_enough 90 = .ok (.iconst 1, 1) := by decide +kernel
theorem dX6_enough_91 : decode cX6_enough 91 = .ok (.iand, 1) := by decide +kernel
theorem dX6_enough_92 : decode cX6_enough 92 = .ok (.ifCond .ne 6, 3) := by decide +kernel
theorem dX6_enough_95 : decode cX6_enough 95 = .ok (.goto 24, 3) := by decide +kernel
theorem dX6_enough_98 : decode cX6_enough 98 = .ok (.aload_n 0, 1) := by decide +kernel
theorem dX6_enough_99 : decode cX6_enough 99 = .ok (.getfield 43, 3) := by decide +kernel
theorem dX6_enough_102 : decode cX6_enough 102 = .ok (.aload_n 0, 1) := by decide +kernel
theorem dX6_enough_103 : decode cX6_enough 103 = .ok (.getfield 96, 3) := by decide +kernel
theorem dX6_enough_106 : decode cX6_enough 106 = .ok (.iload 5, 2) := by decide +kernel
theorem dX6_enough_108 : decode cX6_enough 108 = .ok (.iastore, 1) := by decide +kernel
theorem dX6_enough_109 : decode cX6_enough 109 = .ok (.aload_n 0, 1) := by decide +kernel
theorem dX6_enough_110 : decode cX6_enough 110 = .ok (.dup, 1) := by decide +kernel
theorem dX6_enough_111 : decode cX6_enough 111 = .ok (.getfield 96, 3) := by decide +kernel
theorem dX6_enough_114 : decode cX6_enough 114 = .ok (.iconst 1, 1) := by decide +kernel
theorem dX6_enough_115 : decode cX6_enough 115 = .ok (.iadd, 1) := by decide +kernel
theorem dX6_enough_116 : decode cX6_enough 116 = .ok (.putfield 96, 3) := by decide +kernel
theorem dX6_enough_119 : decode cX6_enough 119 = .ok (.iinc 5 1, 3) := by decide +kernel
theorem dX6_enough_122 : decode cX6_enough 122 = .ok (.goto (-48), 3) := by decide +kernel
theorem dX6_enough_125 : decode cX6_enough 125 = .ok (.aload_n 0, 1) := by decide +kernel
theorem dX6_enough_126 : decode cX6_enough 126 = .ok (.aload_n 0, 1) := by decide +kernel
theorem dX6_enough_127 : decode cX6_enough 127 = .ok (.getfield 9, 3) := by decide +kernel
theorem dX6_enough_130 : decode cX6_enough 130 = .ok (.iload_n 1, 1) := by decide +kernel
theorem dX6_enough_131 : decode cX6_enough 131 = .ok (.invokevirtual 110, 3) := by decide +kernel
theorem dX6_enough_134 : decode cX6_enough 134 = .ok (.aload_n 0, 1) := by decide +kernel
theorem dX6_enough_135 : decode cX6_enough 135 = .ok (.aload_n 0, 1) := by decide +kernel
theorem dX6_enough_136 : decode cX6_enough 136 = .ok (.getfield 9, 3) := by decide +kernel
theorem dX6_enough_139 : decode cX6_enough 139 = .ok (.invokevirtual 114, 3) := by decide +kernel
theorem dX6_enough_142 : decode cX6_enough 142 = .ok (.iload_n 2, 1) := by decide +kernel
theorem dX6_enough_143 : decode cX6_enough 143 = .ok (.if_icmp .gt 6, 3) := by decide +kernel
theorem dX6_enough_146 : decode cX6_enough 146 = .ok (.iload 4, 2) := by decide +kernel
theorem dX6_enough_148 : decode cX6_enough 148 = .ok (.istore_n 3, 1) := by decide +kernel
theorem dX6_enough_149 : decode cX6_enough 149 = .ok (.iinc 4 1, 3) := by decide +kernel
theorem dX6_enough_152 : decode cX6_enough 152 = .ok (.goto (-114), 3) := by decide +kernel
theorem dX6_enough_155 : decode cX6_enough 155 = .ok (.iload_n 3, 1) := by decide +kernel
theorem dX6_enough_156 : decode cX6_enough 156 = .ok (.ireturn, 1) := by decide +kernel
theorem dX6_wall_0 : decode cX6_wall 0 = .ok (.iload_n 1, 1) := by decide +kernel
theorem dX6_wall_1 : decode cX6_wall 1 = .ok (.invokestatic 138, 3) := by decide +kernel
theorem dX6_wall_4 : decode cX6_wall 4 = .ok (.ifCond .ne 9, 3) := by decide +kernel
theorem dX6_wall_7 : decode cX6_wall 7 = .ok (.aload_n 0, 1) := by decide +kernel
theorem dX6_wall_8 : decode cX6_wall 8 = .ok (.iconst (-1), 1) := by decide +kernel
theorem dX6_wall_9 : decode cX6_wall 9 = .ok (.invokevirtual 51, 3) := by decide +kernel
theorem dX6_wall_12 : decode cX6_wall 12 = .ok (.ireturn, 1) := by decide +kernel
theorem dX6_wall_13 : decode cX6_wall 13 = .ok (.bipush (-9), 2) := by decide +kernel
theorem dX6_wall_15 : decode cX6_wall 15 = .ok (.istore_n 2, 1) := by decide +kernel
theorem dX6_wall_16 : decode cX6_wall 16 = .ok (.aload_n 0, 1) := by decide +kernel
theorem dX6_wall_17 : decode cX6_wall 17 = .ok (.aload_n 0, 1) := by decide +kernel
theorem dX6_wall_18 : decode cX6_wall 18 = .ok (.getfield 9, 3) := by decide +kernel
theorem dX6_wall_21 : decode cX6_wall 21 = .ok (.iload_n 1, 1) := by decide +kernel
theorem dX6_wall_22 : decode cX6_wall 22 = .ok (.iconst 0, 1) := by decide +kernel
theorem dX6_wall_23 : decode cX6_wall 23 = .ok (.invokevirtual 171, 3) := by decide +kernel
theorem dX6_wall_26 : decode cX6_wall 26 = .ok (.istore_n 3, 1) := by decide +kernel
theorem dX6_wall_27 : decode cX6_wall 27 = .ok (.iconst 0, 1) := by decide +kernel
theorem dX6_wall_28 : decode cX6_wall 28 = .ok (.istore 4, 2) := by decide +kernel
theorem dX6_wall_30 : decode cX6_wall 30 = .ok (.iload 4, 2) := by decide +kernel
theorem dX6_wall_32 : decode cX6_wall 32 = .ok (.bipush 25, 2) := by decide +kernel
theorem dX6_wall_34 : decode cX6_wall 34 = .ok (.if_icmp .ge 66, 3) := by decide +kernel
theorem dX6_wall_37 : decode cX6_wall 37 = .ok (.iload 4, 2) := by decide +kernel
theorem dX6_wall_39 : decode cX6_wall 39 = .ok (.iload_n 1, 1) := by decide +kernel
theorem dX6_wall_40 : decode cX6_wall 40 = .ok (.if_icmp .ne 6, 3) := by decide +kernel
theorem dX6_wall_43 : decode cX6_wall 43 = .ok (.goto 51, 3) := by decide +kernel
theorem dX6_wall_46 : decode cX6_wall 46 = .ok (.aload_n 0, 1) := by decide +kernel
theorem dX6_wall_47 : decode cX6_wall 47 = .ok (.getfield 9, 3) := by decide +kernel
theorem dX6_wall_50 : decode cX6_wall 50 = .ok (.aload_n 0, 1) := by decide +kernel
theorem dX6_wall_51 : decode cX6_wall 51 = .ok (.getfield 13, 3) := by decide +kernel
theorem dX6_wall_54 : decode cX6_wall 54 = .ok (.invokestatic 147, 3) := by decide +kernel
theorem dX6_wall_57 : decode cX6_wall 57 = .ok (.aload_n 0, 1) := by decide +kernel
theorem dX6_wall_58 : decode cX6_wall 58 = .ok (.getfield 13, 3) := by decide +kernel
theorem dX6_wall_61 : decode cX6_wall 61 = .ok (.iconst 2, 1) := by decide +kernel
theorem dX6_wall_62 : decode cX6_wall 62 = .ok (.iload 4, 2) := by decide +kernel
theorem dX6_wall_64 : decode cX6_wall 64 = .ok (.iadd, 1) := by decide +kernel
theorem dX6_wall_65 : decode cX6_wall 65 = .ok (.iconst 4, 1) := by decide +kernel
theorem dX6_wall_66 : decode cX6_wall 66 = .ok (.iastore, 1) := by decide +kernel
theorem dX6_wall_67 : decode cX6_wall 67 = .ok (.aload_n 0, 1) := by decide +kernel
theorem dX6_wall_68 : decode cX6_wall 68 = .ok (.aload_n 0, 1) := by decide +kernel
theorem dX6_wall_69 : decode cX6_wall 69 = .ok (.getfield 13, 3) := by decide +kernel
theorem dX6_wall_72 : decode cX6_wall 72 = .ok (.iload_n 1, 1) := by decide +kernel
theorem dX6_wall_73 : decode cX6_wall 73 = .ok (.iconst 0, 1) := by decide +kernel
theorem dX6_wall_74 : decode cX6_wall 74 = .ok (.invokevirtual 171, 3) := by decide +kernel
theorem dX6_wall_77 : decode cX6_wall 77 = .ok (.istore 5, 2) := by decide +kernel
theorem dX6_wall_79 : decode cX6_wall 79 = .ok (.iload 5, 2) := by decide +kernel
theorem dX6_wall_81 : decode cX6_wall 81 = .ok (.iload_n 3, 1) := by decide +kernel
theorem dX6_wall_82 : decode cX6_wall 82 = .ok (.if_icmp .lt 6, 3) := by decide +kernel
theorem dX6_wall_85 : decode cX6_wall 85 = .ok (.goto 9, 3) := by decide +kernel
theorem dX6_wall_88 : decode cX6_wall 88 = .ok (.iload 4, 2) := by decide +kernel
theorem dX6_wall_90 : decode cX6_wall 90 = .ok (.istore_n 2, 1) := by decide +kernel
theorem dX6_wall_91 : decode cX6_wall 91 = .ok (.iload 5, 2) := by decide +kernel
theorem dX6_wall_93 : decode cX6_wall 93 = .ok (.istore_n 3, 1) := by decide +kernel
theorem dX6_wall_94 : decode cX6_wall 94 = .ok (.iinc 4 1, 3) := by decide +kernel
theorem dX6_wall_97 : decode cX6_wall 97 = .ok (.goto (-67), 3) := by decide +kernel
theorem dX6_wall_100 : decode cX6_wall 100 = .ok (.iload_n 2, 1) := by decide +kernel
theorem dX6_wall_101 : decode cX6_wall 101 = .ok (.ireturn, 1) := by decide +kernel
theorem dX6_captain_0 : decode cX6_captain 0 = .ok (.iload_n 1, 1) := by decide +kernel
theorem dX6_captain_1 : decode cX6_captain 1 = .ok (.invokestatic 138, 3) := by decide +kernel
theorem dX6_captain_4 : decode cX6_captain 4 = .ok (.ifCond .eq 15, 3) := by decide +kernel
theorem dX6_captain_7 : decode cX6_captain 7 = .ok (.iload_n 2, 1) := by decide +kernel
theorem dX6_captain_8 : decode cX6_captain 8 = .ok (.invokestatic 138, 3) := by decide +kernel
theorem dX6_captain_11 : decode cX6_captain 11 = .ok (.ifCond .eq 8, 3) := by decide +kernel
theorem dX6_captain_14 : decode cX6_captain 14 = .ok (.iload_n 1, 1) := by decide +kernel
theorem dX6_captain_15 : decode cX6_captain 15 = .ok (.iload_n 2, 1) := by decide +kernel
theorem dX6_captain_16 : decode cX6_captain 16 = .ok (.if_icmp .ne 9, 3) := by decide +kernel
theorem dX6_captain_19 : decode cX6_captain 19 = .ok (.aload_n 0, 1) := by decide +kernel
theorem dX6_captain_20 : decode cX6_captain 20 = .ok (.iconst (-1), 1) := by decide +kernel
theorem dX6_captain_21 : decode cX6_captain 21 = .ok (.invokevirtual 51, 3) := by decide +kernel
theorem dX6_captain_24 : decode cX6_captain 24 = .ok (.ireturn, 1) := by decide +kernel
theorem dX6_captain_25 : decode cX6_captain 25 = .ok (.iload_n 3, 1) := by decide +kernel
theorem dX6_captain_26 : decode cX6_captain 26 = .ok (.iconst 0, 1) := by decide +kernel
theorem dX6_captain_27 : decode cX6_captain 27 = .ok (.iconst 1, 1) := by decide +kernel
theorem dX6_captain_28 : decode cX6_captain 28 = .ok (.invokestatic 55, 3) := by decide +kernel
theorem dX6_captain_31 : decode cX6_captain 31 = .ok (.ifCond .ne 10, 3) := by decide +kernel
theorem dX6_captain_34 : decode cX6_captain 34 = .ok (.aload_n 0, 1) := by decide +kernel
theorem dX6_captain_35 : decode cX6_captain 35 = .ok (.bipush (-2), 2) := by decide +kernel
theorem dX6_captain_37 : decode cX6_captain 37 = .ok (.invokevirtual 51, 3) := by decide +kernel
theorem dX6_captain_40 : decode cX6_captain 40 = .ok (.ireturn, 1) := by decide +kernel
theorem dX6_captain_41 : decode cX6_captain 41 = .ok (.bipush (-9), 2) := by decide +kernel
theorem dX6_captain_43 : decode cX6_captain 43 = .ok (.istore 4, 2) := by decide +kernel
theorem dX6_captain_45 : decode cX6_captain 45 = .ok (.ldc 63, 2) := by decide +kernel
theorem dX6_captain_47 : decode cX6_captain 47 = .ok (.istore 5, 2) := by decide +kernel
theorem dX6_captain_49 : decode cX6_captain 49 = .ok (.iconst 0, 1) := by decide +kernel
theorem dX6_captain_50 : decode cX6_captain 50 = .ok (.istore 6, 2) := by decide +kernel
theorem dX6_captain_52 : decode cX6_captain 52 = .ok (.iload 6, 2) := by decide +kernel
theorem dX6_captain_54 : decode cX6_captain 54 = .ok (.aload_n 0, 1) := by decide +kernel
theorem dX6_captain_55 : decode cX6_captain 55 = .ok (.getfield 9, 3) := by decide +kernel
theorem dX6_captain_58 : decode cX6_captain 58 = .ok (.iconst 0, 1) := by decide +kernel
theorem dX6_captain_59 : decode cX6_captain 59 = .ok (.iaload, 1) := by decide +kernel
theorem dX6_captain_60 : decode cX6_captain 60 = .ok (.if_icmp .ge 54, 3) := by decide +kernel
theorem dX6_captain_63 : decode cX6_captain 63 = .ok (.aload_n 0, 1) := by decide +kernel
theorem dX6_captain_64 : decode cX6_captain 64 = .ok (.aload_n 0, 1) := by decide +kernel
theorem dX6_captain_65 : decode cX6_captain 65 = .ok (.getfield 9, 3) := by decide +kernel
theorem dX6_captain_68 : decode cX6_captain 68 = .ok (.iload_n 1, 1) := by decide +kernel
theorem dX6_captain_69 : decode cX6_captain 69 = .ok (.iload 6, 2) := by decide +kernel
theorem dX6_captain_71 : decode cX6_captain 71 = .ok (.invokevirtual 171, 3) := by decide +kernel
theorem dX6_captain_74 : decode cX6_captain 74 = .ok (.aload_n 0, 1) := by decide +kernel
theorem dX6_captain_75 : decode cX6_captain 75 = .ok (.aload_n 0, 1) := by decide +kernel
theorem dX6_captain_76 : decode cX6_captain 76 = .ok (.getfield 9, 3) := by decide +kernel
theorem dX6_captain_79 : decode cX6_captain 79 = .ok (.iload_n 2, 1) := by decide +kernel
theorem dX6_captain_80 : decode cX6_captain 80 = .ok (.iload 6, 2) := by decide +kernel
theorem dX6_captain_82 : decode cX6_captain 82 = .ok (.invokevirtual 171, 3) := by decide +kernel
theorem dX6_captain_85 : decode cX6_captain 85 = .ok (.invokestatic 72, 3) := by decide +kernel
theorem dX6_captain_88 : decode cX6_captain 88 = .ok (.istore 7, 2) := by decide +kernel
theorem dX6_captain_90 : decode cX6_captain 90 = .ok (.iload 7, 2) := by decide +kernel
theorem dX6_captain_92 : decode cX6_captain 92 = .ok (.iload 5, 2) := by decide +kernel
theorem dX6_captain_94 : decode cX6_captain 94 = .ok (.if_icmp .lt 6, 3) := by decide +kernel
theorem dX6_captain_97 : decode cX6_captain 97 = .ok (.goto 11, 3) := by decide +kernel
theorem dX6_captain_100 : decode cX6_captain 100 = .ok (.iload 6, 2) := by decide +kernel
theorem dX6_captain_102 : decode cX6_captain 102 = .ok (.istore 4, 2) := by decide +kernel
theorem dX6_captain_104 : decode cX6_captain 104 = .ok (.iload 7, 2) := by decide +kernel
theorem dX6_captain_106 : decode cX6_captain 106 = .ok (.istore 5, 2) := by decide +kernel
theorem dX6_captain_108 : decode cX6_captain 108 = .ok (.iinc 6 1, 3) := by decide +kernel
theorem dX6_captain_111 : decode cX6_captain 111 = .ok (.goto (-59), 3) := by decide +kernel
theorem dX6_captain_114 : decode cX6_captain 114 = .ok (.iload 4, 2) := by decide +kernel
theorem dX6_captain_116 : decode cX6_captain 116 = .ok (.ifCond .lt 7, 3) := by decide +kernel
theorem dX6_captain_119 : decode cX6_captain 119 = .ok (.iload_n 3, 1) := by decide +kernel
theorem dX6_captain_120 : decode cX6_captain 120 = .ok (.ifCond .ne 8, 3) := by decide +kernel
theorem dX6_captain_123 : decode cX6_captain 123 = .ok (.iload 4, 2) := by decide +kernel
theorem dX6_captain_125 : decode cX6_captain 125 = .ok (.goto 5, 3) := by decide +kernel
theorem dX6_captain_128 : decode cX6_captain 128 = .ok (.iload 5, 2) := by decide +kernel
theorem dX6_captain_130 : decode cX6_captain 130 = .ok (.ireturn, 1) := by decide +kernel
theorem dX6_unlike_0 : decode cX6_unlike 0 = .ok (.aload_n 0, 1) := by decide +kernel
theorem dX6_unlike_1 : decode cX6_unlike 1 = .ok (.iload_n 1, 1) := by decide +kernel
theorem dX6_unlike_2 : decode cX6_unlike 2 = .ok (.invokevirtual 59, 3) := by decide +kernel
theorem dX6_unlike_5 : decode cX6_unlike 5 = .ok (.ifCond .eq 16, 3) := by decide +kernel
theorem dX6_unlike_8 : decode cX6_unlike 8 = .ok (.aload_n 0, 1) := by decide +kernel
theorem dX6_unlike_9 : decode cX6_unlike 9 = .ok (.iload_n 2, 1) := by decide +kernel
theorem dX6_unlike_10 : decode cX6_unlike 10 = .ok (.invokevirtual 59, 3) := by decide +kernel
theorem dX6_unlike_13 : decode cX6_unlike 13 = .ok (.ifCond .eq 8, 3) := by decide +kernel
theorem dX6_unlike_16 : decode cX6_unlike 16 = .ok (.iload_n 1, 1) := by decide +kernel
theorem dX6_unlike_17 : decode cX6_unlike 17 = .ok (.iload_n 2, 1) := by decide +kernel
theorem dX6_unlike_18 : decode cX6_unlike 18 = .ok (.if_icmp .ne 9, 3) := by decide +kernel
theorem dX6_unlike_21 : decode cX6_unlike 21 = .ok (.aload_n 0, 1) := by decide +kernel
theorem dX6_unlike_22 : decode cX6_unlike 22 = .ok (.iconst (-1), 1) := by decide +kernel
theorem dX6_unlike_23 : decode cX6_unlike 23 = .ok (.invokevirtual 51, 3) := by decide +kernel
theorem dX6_unlike_26 : decode cX6_unlike 26 = .ok (.ireturn, 1) := by decide +kernel
theorem dX6_unlike_27 : decode cX6_unlike 27 = .ok (.iload_n 3, 1) := by decide +kernel
theorem dX6_unlike_28 : decode cX6_unlike 28 = .ok (.iconst 0, 1) := by decide +kernel
theorem dX6_unlike_29 : decode cX6_unlike 29 = .ok (.iconst 1, 1) := by decide +kernel
theorem dX6_unlike_30 : decode cX6_unlike 30 = .ok (.invokestatic 55, 3) := by decide +kernel
theorem dX6_unlike_33 : decode cX6_unlike 33 = .ok (.ifCond .ne 10, 3) := by decide +kernel
theorem dX6_unlike_36 : decode cX6_unlike 36 = .ok (.aload_n 0, 1) := by decide +kernel
theorem dX6_unlike_37 : decode cX6_unlike 37 = .ok (.bipush (-2), 2) := by decide +kernel
theorem dX6_unlike_39 : decode cX6_unlike 39 = .ok (.invokevirtual 51, 3) := by decide +kernel
theorem dX6_unlike_42 : decode cX6_unlike 42 = .ok (.ireturn, 1) := by decide +kernel
theorem dX6_unlike_43 : decode cX6_unlike 43 = .ok (.iconst 0, 1) := by decide +kernel
theorem dX6_unlike_44 : decode cX6_unlike 44 = .ok (.istore 4, 2) := by decide +kernel
theorem dX6_unlike_46 : decode cX6_unlike 46 = .ok (.bipush (-9), 2) := by decide +kernel
theorem dX6_unlike_48 : decode cX6_unlike 48 = .ok (.istore 5, 2) := by decide +kernel
theorem dX6_unlike_50 : decode cX6_unlike 50 = .ok (.iconst 0, 1) := by decide +kernel
theorem dX6_unlike_51 : decode cX6_unlike 51 = .ok (.istore 6, 2) := by decide +kernel
theorem dX6_unlike_53 : decode cX6_unlike 53 = .ok (.iload 6, 2) := by decide +kernel
theorem dX6_unlike_55 : decode cX6_unlike 55 = .ok (.bipush 25, 2) := by decide +kernel
theorem dX6_unlike_57 : decode cX6_unlike 57 = .ok (.if_icmp .ge 55, 3) := by decide +kernel
theorem dX6_unlike_60 : decode cX6_unlike 60 = .ok (.aload_n 0, 1) := by decide +kernel
theorem dX6_unlike_61 : decode cX6_unlike 61 = .ok (.getfield 9, 3) := by decide +kernel
theorem dX6_unlike_64 : decode cX6_unlike 64 = .ok (.iload_n 1, 1) := by decide +kernel
theorem dX6_unlike_65 : decode cX6_unlike 65 = .ok (.iload 6, 2) := by decide +kernel
theorem dX6_unlike_67 : decode cX6_unlike 67 = .ok (.invokestatic 81, 3) := by decide +kernel
theorem dX6_unlike_70 : decode cX6_unlike 70 = .ok (.ifCond .eq 36, 3) := by decide +kernel
theorem dX6_unlike_73 : decode cX6_unlike 73 = .ok (.aload_n 0, 1) := by decide +kernel
theorem dX6_unlike_74 : decode cX6_unlike 74 = .ok (.getfield 9, 3) := by decide +kernel
theorem dX6_unlike_77 : decode cX6_unlike 77 = .ok (.iload_n 2, 1) := by decide +kernel
theorem dX6_unlike_78 : decode cX6_unlike 78 = .ok (.iload 6, 2) := by decide +kernel
theorem dX6_unlike_80 : decode cX6_unlike 80 = .ok (.invokestatic 81, 3) := by decide +kernel
theorem dX6_unlike_83 : decode cX6_unlike 83 = .ok (.ifCond .eq 6, 3) := by decide +kernel
theorem dX6_unlike_86 : decode cX6_unlike 86 = .ok (.goto 20, 3) := by decide +kernel
theorem dX6_unlike_89 : decode cX6_unlike 89 = .ok (.iload 4, 2) := by decide +kernel
theorem dX6_unlike_91 : decode cX6_unlike 91 = .ok (.ifCond .ne 8, 3) := by decide +kernel
theorem dX6_unlike_94 : decode cX6_unlike 94 = .ok (.iload 6, 2) := by decide +kernel
theorem dX6_unlike_96 : decode cX6_unlike 96 = .ok (.goto 5, 3) := by decide +kernel
theorem dX6_unlike_99 : decode cX6_unlike 99 = .ok (.iload 5, 2) := by decide +kernel
theorem dX6_unlike_101 : decode cX6_unlike 101 = .ok (.istore 5, 2) := by decide +kernel
theorem dX6_unlike_103 : decode cX6_unlike 103 = .ok (.iinc 4 1, 3) := by decide +kernel
theorem dX6_unlike_106 : decode cX6_unlike 106 = .ok (.iinc 6 1, 3) := by decide +kernel
theorem dX6_unlike_109 : decode cX6_unlike 109 = .ok (.goto (-56), 3) := by decide +kernel
theorem dX6_unlike_112 : decode cX6_unlike 112 = .ok (.iload_n 3, 1) := by decide +kernel
theorem dX6_unlike_113 : decode cX6_unlike 113 = .ok (.ifCond .ne 8, 3) := by decide +kernel
theorem dX6_unlike_116 : decode cX6_unlike 116 = .ok (.iload 4, 2) := by decide +kernel
theorem dX6_unlike_118 : decode cX6_unlike 118 = .ok (.goto 5, 3) := by decide +kernel
theorem dX6_unlike_121 : decode cX6_unlike 121 = .ok (.iload 5, 2) := by decide +kernel
theorem dX6_unlike_123 : decode cX6_unlike 123 = .ok (.ireturn, 1) := by decide +kernel
theorem dX6_sure_0 : decode cX6_sure 0 = .ok (.iload_n 1, 1) := by decide +kernel
theorem dX6_sure_1 : decode cX6_sure 1 = .ok (.iconst 0, 1) := by decide +kernel
theorem dX6_sure_2 : decode cX6_sure 2 = .ok (.iconst 1, 1) := by decide +kernel
theorem dX6_sure_3 : decode cX6_sure 3 = .ok (.invokestatic 55, 3) := by decide +kernel
theorem dX6_sure_6 : decode cX6_sure 6 = .ok (.ifCond .ne 10, 3) := by decide +kernel
theorem dX6_sure_9 : decode cX6_sure 9 = .ok (.aload_n 0, 1) := by decide +kernel
theorem dX6_sure_10 : decode cX6_sure 10 = .ok (.bipush (-2), 2) := by decide +kernel
theorem dX6_sure_12 : decode cX6_sure 12 = .ok (.invokevirtual 51, 3) := by decide +kernel
theorem dX6_sure_15 : decode cX6_sure 15 = .ok (.ireturn, 1) := by decide +kernel
theorem dX6_sure_16 : decode cX6_sure 16 = .ok (.iload_n 1, 1) := by decide +kernel
theorem dX6_sure_17 : decode cX6_sure 17 = .ok (.ifCond .ne 11, 3) := by decide +kernel
theorem dX6_sure_20 : decode cX6_sure 20 = .ok (.aload_n 0, 1) := by decide +kernel
theorem dX6_sure_21 : decode cX6_sure 21 = .ok (.iconst 1, 1) := by decide +kernel
theorem dX6_sure_22 : decode cX6_sure 22 = .ok (.invokevirtual 154, 3) := by decide +kernel
theorem dX6_sure_25 : decode cX6_sure 25 = .ok (.goto 11, 3) := by decide +kernel
theorem dX6_sure_28 : decode cX6_sure 28 = .ok (.bipush 25, 2) := by decide +kernel
theorem dX6_sure_30 : decode cX6_sure 30 = .ok (.aload_n 0, 1) := by decide +kernel
theorem dX6_sure_31 : decode cX6_sure 31 = .ok (.iconst 0, 1) := by decide +kernel
theorem dX6_sure_32 : decode cX6_sure 32 = .ok (.invokevirtual 154, 3) := by decide +kernel
theorem dX6_sure_35 : decode cX6_sure 35 = .ok (.isub, 1) := by decide +kernel
theorem dX6_sure_36 : decode cX6_sure 36 = .ok (.ireturn, 1) := by decide +kernel
theorem dX6_gcd_0 : decode cX6_gcd 0 = .ok (.lload_n 0, 1) := by decide +kernel
theorem dX6_gcd_1 : decode cX6_gcd 1 = .ok (.lstore 4, 2) := by decide +kernel
theorem dX6_gcd_3 : decode cX6_gcd 3 = .ok (.lload_n 2, 1) := by decide +kernel
theorem dX6_gcd_4 : decode cX6_gcd 4 = .ok (.lstore 6, 2) := by decide +kernel
theorem dX6_gcd_6 : decode cX6_gcd 6 = .ok (.lload 6, 2) := by decide +kernel
theorem dX6_gcd_8 : decode cX6_gcd 8 = .ok (.lconst 0, 1) := by decide +kernel
theorem dX6_gcd_9 : decode cX6_gcd 9 = .ok (.lcmp, 1) := by decide +kernel
theorem dX6_gcd_10 : decode cX6_gcd 10 = .ok (.ifCond .eq 21, 3) := by decide +kernel
theorem dX6_gcd_13 : decode cX6_gcd 13 = .ok (.lload 4, 2) := by decide +kernel
theorem dX6_gcd_15 : decode cX6_gcd 15 = .ok (.lload 6, 2) := by decide +kernel
theorem dX6_gcd_17 : decode cX6_gcd 17 = .ok (.lrem, 1) := by decide +kernel
theorem dX6_gcd_18 : decode cX6_gcd 18 = .ok (.lstore 8, 2) := by decide +kernel
theorem dX6_gcd_20 : decode cX6_gcd 20 = .ok (.lload 6, 2) := by decide +kernel
theorem dX6_gcd_22 : decode cX6_gcd 22 = .ok (.lstore 4, 2) := by decide +kernel
theorem dX6_gcd_24 : decode cX6_gcd 24 = .ok (.lload 8, 2) := by decide +kernel
theorem dX6_gcd_26 : decode cX6_gcd 26 = .ok (.lstore 6, 2) := by decide +kernel
theorem dX6_gcd_28 : decode cX6_gcd 28 = .ok (.goto (-22), 3) := by decide +kernel
theorem dX6_gcd_31 : decode cX6_gcd 31 = .ok (.lload 4, 2) := by decide +kernel
theorem dX6_gcd_33 : decode cX6_gcd 33 = .ok (.lreturn, 1) := by decide +kernel
theorem dX6_partOf_0 : decode cX6_partOf 0 = .ok (.lload_n 0, 1) := by decide +kernel
theorem dX6_partOf_1 : decode cX6_partOf 1 = .ok (.lconst 0, 1) := by decide +kernel
theorem dX6_partOf_2 : decode cX6_partOf 2 = .ok (.lcmp, 1) := by decide +kernel
theorem dX6_partOf_3 : decode cX6_partOf 3 = .ok (.ifCond .ne 7, 3) := by decide +kernel
theorem dX6_partOf_6 : decode cX6_partOf 6 = .ok (.iload 4, 2) := by decide +kernel
theorem dX6_partOf_8 : decode cX6_partOf 8 = .ok (.i2l, 1) := by decide +kernel
theorem dX6_partOf_9 : decode cX6_partOf 9 = .ok (.lreturn, 1) := by decide +kernel
theorem dX6_partOf_10 : decode cX6_partOf 10 = .ok (.iload 4, 2) := by decide +kernel
theorem dX6_partOf_12 : decode cX6_partOf 12 = .ok (.ifCond .ne 7, 3) := by decide +kernel
theorem dX6_partOf_15 : decode cX6_partOf 15 = .ok (.lload_n 0, 1) := by decide +kernel
theorem dX6_partOf_16 : decode cX6_partOf 16 = .ok (.goto 4, 3) := by decide +kernel
theorem dX6_partOf_19 : decode cX6_partOf 19 = .ok (.lload_n 2, 1) := by decide +kernel
theorem dX6_partOf_20 : decode cX6_partOf 20 = .ok (.lload_n 0, 1) := by decide +kernel
theorem dX6_partOf_21 : decode cX6_partOf 21 = .ok (.lload_n 2, 1) := by decide +kernel
theorem dX6_partOf_22 : decode cX6_partOf 22 = .ok (.invokestatic 178, 3) := by decide +kernel
theorem dX6_partOf_25 : decode cX6_partOf 25 = .ok (.ldiv, 1) := by decide +kernel
theorem dX6_partOf_26 : decode cX6_partOf 26 = .ok (.lreturn, 1) := by decide +kernel
theorem dX6_slip_0 : decode cX6_slip 0 = .ok (.iload_n 1, 1) := by decide +kernel
theorem dX6_slip_1 : decode cX6_slip 1 = .ok (.invokestatic 138, 3) := by decide +kernel
theorem dX6_slip_4 : decode cX6_slip 4 = .ok (.ifCond .ne 9, 3) := by decide +kernel
theorem dX6_slip_7 : decode cX6_slip 7 = .ok (.aload_n 0, 1) := by decide +kernel
theorem dX6_slip_8 : decode cX6_slip 8 = .ok (.iconst (-1), 1) := by decide +kernel
theorem dX6_slip_9 : decode cX6_slip 9 = .ok (.invokevirtual 182, 3) := by decide +kernel
theorem dX6_slip_12 : decode cX6_slip 12 = .ok (.lreturn, 1) := by decide +kernel
theorem dX6_slip_13 : decode cX6_slip 13 = .ok (.iload_n 2, 1) := by decide +kernel
theorem dX6_slip_14 : decode cX6_slip 14 = .ok (.ifCond .lt 13, 3) := by decide +kernel
theorem dX6_slip_17 : decode cX6_slip 17 = .ok (.iload 4, 2) := by decide +kernel
theorem dX6_slip_19 : decode cX6_slip 19 = .ok (.ifCond .lt 8, 3) := by decide +kernel
theorem dX6_slip_22 : decode cX6_slip 22 = .ok (.iload_n 3, 1) := by decide +kernel
theorem dX6_slip_23 : decode cX6_slip 23 = .ok (.iconst 2, 1) := by decide +kernel
theorem dX6_slip_24 : decode cX6_slip 24 = .ok (.if_icmp .ge 10, 3) := by decide +kernel
theorem dX6_slip_27 : decode cX6_slip 27 = .ok (.aload_n 0, 1) := by decide +kernel
theorem dX6_slip_28 : decode cX6_slip 28 = .ok (.bipush (-4), 2) := by decide +kernel
theorem dX6_slip_30 : decode cX6_slip 30 = .ok (.invokevirtual 182, 3) := by decide +kernel
theorem dX6_slip_33 : decode cX6_slip 33 = .ok (.lreturn, 1) := by decide +kernel
theorem dX6_slip_34 : decode cX6_slip 34 = .ok (.iload_n 2, 1) := by decide +kernel
theorem dX6_slip_35 : decode cX6_slip 35 = .ok (.bipush 7, 2) := by decide +kernel
theorem dX6_slip_37 : decode cX6_slip 37 = .ok (.if_icmp .gt 17, 3) := by decide +kernel
theorem dX6_slip_40 : decode cX6_slip 40 = .ok (.iload_n 3, 1) := by decide +kernel
theorem dX6_slip_41 : decode cX6_slip 41 = .ok (.bipush 20, 2) := by decide +kernel
theorem dX6_slip_43 : decode cX6_slip 43 = .ok (.if_icmp .gt 11, 3) := by decide +kernel
theorem dX6_slip_46 : decode cX6_slip 46 = .ok (.iload 4, 2) := by decide +kernel
theorem dX6_slip_48 : decode cX6_slip 48 = .ok (.sipush 999, 3) := by decide +kernel
theorem dX6_slip_51 : decode cX6_slip 51 = .ok (.if_icmp .le 10, 3) := by decide +kernel
theorem dX6_slip_54 : decode cX6_slip 54 = .ok (.aload_n 0, 1) := by decide +kernel
theorem dX6_slip_55 : decode cX6_slip 55 = .ok (.bipush (-6), 2) := by decide +kernel
theorem dX6_slip_57 : decode cX6_slip 57 = .ok (.invokevirtual 182, 3) := by decide +kernel
theorem dX6_slip_60 : decode cX6_slip 60 = .ok (.lreturn, 1) := by decide +kernel
theorem dX6_slip_61 : decode cX6_slip 61 = .ok (.iload 5, 2) := by decide +kernel
theorem dX6_slip_63 : decode cX6_slip 63 = .ok (.iconst 0, 1) := by decide +kernel
theorem dX6_slip_64 : decode cX6_slip 64 = .ok (.iconst 1, 1) := by decide +kernel
theorem dX6_slip_65 : decode cX6_slip 65 = .ok (.invokestatic 55, 3) := by decide +kernel
theorem dX6_slip_68 : decode cX6_slip 68 = .ok (.ifCond .ne 10, 3) := by decide +kernel
theorem dX6_slip_71 : decode cX6_slip 71 = .ok (.aload_n 0, 1) := by decide +kernel
theorem dX6_slip_72 : decode cX6_slip 72 = .ok (.bipush (-2), 2) := by decide +kernel
theorem dX6_slip_74 : decode cX6_slip 74 = .ok (.invokevirtual 182, 3) := by decide +kernel
theorem dX6_slip_77 : decode cX6_slip 77 = .ok (.lreturn, 1) := by decide +kernel
theorem dX6_slip_78 : decode cX6_slip 78 = .ok (.lconst 0, 1) := by decide +kernel
theorem dX6_slip_79 : decode cX6_slip 79 = .ok (.lstore 6, 2) := by decide +kernel
theorem dX6_slip_81 : decode cX6_slip 81 = .ok (.lconst 1, 1) := by decide +kernel
theorem dX6_slip_82 : decode cX6_slip 82 = .ok (.lstore 8, 2) := by decide +kernel
theorem dX6_slip_84 : decode cX6_slip 84 = .ok (.iconst 0, 1) := by decide +kernel
theorem dX6_slip_85 : decode cX6_slip 85 = .ok (.istore 10, 2) := by decide +kernel
theorem dX6_slip_87 : decode cX6_slip 87 = .ok (.iload 10, 2) := by decide +kernel
theorem dX6_slip_89 : decode cX6_slip 89 = .ok (.iload_n 2, 1) := by decide +kernel
theorem dX6_slip_90 : decode cX6_slip 90 = .ok (.if_icmp .ge 16, 3) := by decide +kernel
theorem dX6_slip_93 : decode cX6_slip 93 = .ok (.lload 8, 2) := by decide +kernel
theorem dX6_slip_95 : decode cX6_slip 95 = .ok (.iload_n 3, 1) := by decide +kernel
theorem dX6_slip_96 : decode cX6_slip 96 = .ok (.i2l, 1) := by decide +kernel
theorem dX6_slip_97 : decode cX6_slip 97 = .ok (.lmul, 1) := by decide +kernel
theorem dX6_slip_98 : decode cX6_slip 98 = .ok (.lstore 8, 2) := by decide +kernel
theorem dX6_slip_100 : decode cX6_slip 100 = .ok (.iinc 10 1, 3) := by decide +kernel
theorem dX6_slip_103 : decode cX6_slip 103 = .ok (.goto (-16), 3) := by decide +kernel
theorem dX6_slip_106 : decode cX6_slip 106 = .ok (.iconst 0, 1) := by decide +kernel
theorem dX6_slip_107 : decode cX6_slip 107 = .ok (.istore 10, 2) := by decide +kernel
theorem dX6_slip_109 : decode cX6_slip 109 = .ok (.iload 10, 2) := by decide +kernel
theorem dX6_slip_111 : decode cX6_slip 111 = .ok (.iconst 1, 1) := by decide +kernel
theorem dX6_slip_112 : decode cX6_slip 112 = .ok (.iload_n 2, 1) := by decide +kernel
theorem dX6_slip_113 : decode cX6_slip 113 = .ok (.ishl, 1) := by decide +kernel
theorem dX6_slip_114 : decode cX6_slip 114 = .ok (.if_icmp .ge 90, 3) := by decide +kernel
theorem dX6_slip_117 : decode cX6_slip 117 = .ok (.lconst 1, 1) := by decide +kernel
theorem dX6_slip_118 : decode cX6_slip 118 = .ok (.lstore 11, 2) := by decide +kernel
theorem dX6_slip_120 : decode cX6_slip 120 = .ok (.iload 10, 2) := by decide +kernel
theorem dX6_slip_122 : decode cX6_slip 122 = .ok (.invokestatic 175, 3) := by decide +kernel
theorem dX6_slip_125 : decode cX6_slip 125 = .ok (.istore 13, 2) := by decide +kernel
theorem dX6_slip_127 : decode cX6_slip 127 = .ok (.iload 13, 2) := by decide +kernel
theorem dX6_slip_129 : decode cX6_slip 129 = .ok (.iload_n 2, 1) := by decide +kernel
theorem dX6_slip_130 : decode cX6_slip 130 = .ok (.if_icmp .ge 18, 3) := by decide +kernel
theorem dX6_slip_133 : decode cX6_slip 133 = .ok (.lload 11, 2) := by decide +kernel
theorem dX6_slip_135 : decode cX6_slip 135 = .ok (.iload_n 3, 1) := by decide +kernel
theorem dX6_slip_136 : decode cX6_slip 136 = .ok (.iconst 1, 1) := by decide +kernel
theorem dX6_slip_137 : decode cX6_slip 137 = .ok (.isub, 1) := by decide +kernel
theorem dX6_slip_138 : decode cX6_slip 138 = .ok (.i2l, 1) := by decide +kernel
theorem dX6_slip_139 : decode cX6_slip 139 = .ok (.lmul, 1) := by decide +kernel
theorem dX6_slip_140 : decode cX6_slip 140 = .ok (.lstore 11, 2) := by decide +kernel
theorem dX6_slip_142 : decode cX6_slip 142 = .ok (.iinc 13 1, 3) := by decide +kernel
theorem dX6_slip_145 : decode cX6_slip 145 = .ok (.goto (-18), 3) := by decide +kernel
theorem dX6_slip_148 : decode cX6_slip 148 = .ok (.aload_n 0, 1) := by decide +kernel
theorem dX6_slip_149 : decode cX6_slip 149 = .ok (.aload_n 0, 1) := by decide +kernel
theorem dX6_slip_150 : decode cX6_slip 150 = .ok (.getfield 9, 3) := by decide +kernel
theorem dX6_slip_153 : decode cX6_slip 153 = .ok (.iconst 0, 1) := by decide +kernel
theorem dX6_slip_154 : decode cX6_slip 154 = .ok (.bipush (-9), 2) := by decide +kernel
theorem dX6_slip_156 : decode cX6_slip 156 = .ok (.invokevirtual 106, 3) := by decide +kernel
theorem dX6_slip_159 : decode cX6_slip 159 = .ok (.aload_n 0, 1) := by decide +kernel
theorem dX6_slip_160 : decode cX6_slip 160 = .ok (.iload 10, 2) := by decide +kernel
theorem dX6_slip_162 : decode cX6_slip 162 = .ok (.putfield 100, 3) := by decide +kernel
theorem dX6_slip_165 : decode cX6_slip 165 = .ok (.aload_n 0, 1) := by decide +kernel
theorem dX6_slip_166 : decode cX6_slip 166 = .ok (.aload_n 0, 1) := by decide +kernel
theorem dX6_slip_167 : decode cX6_slip 167 = .ok (.getfield 9, 3) := by decide +kernel
theorem dX6_slip_170 : decode cX6_slip 170 = .ok (.iload_n 1, 1) := by decide +kernel
theorem dX6_slip_171 : decode cX6_slip 171 = .ok (.invokevirtual 110, 3) := by decide +kernel
theorem dX6_slip_174 : decode cX6_slip 174 = .ok (.lload 6, 2) := by decide +kernel
theorem dX6_slip_176 : decode cX6_slip 176 = .ok (.aload_n 0, 1) := by decide +kernel
theorem dX6_slip_177 : decode cX6_slip 177 = .ok (.aload_n 0, 1) := by decide +kernel
theorem dX6_slip_178 : decode cX6_slip 178 = .ok (.getfield 9, 3) := by decide +kernel
theorem dX6_slip_181 : decode cX6_slip 181 = .ok (.invokevirtual 114, 3) := by decide +kernel
theorem dX6_slip_184 : decode cX6_slip 184 = .ok (.iload 4, 2) := by decide +kernel
theorem dX6_slip_186 : decode cX6_slip 186 = .ok (.if_icmp .gt 8, 3) := by decide +kernel
theorem dX6_slip_189 : decode cX6_slip 189 = .ok (.lload 11, 2) := by decide +kernel
theorem dX6_slip_191 : decode cX6_slip 191 = .ok (.goto 4, 3) := by decide +kernel
theorem dX6_slip_194 : decode cX6_slip 194 = .ok (.lconst 0, 1) := by decide +kernel
theorem dX6_slip_195 : decode cX6_slip 195 = .ok (.ladd, 1) := by decide +kernel
theorem dX6_slip_196 : decode cX6_slip 196 = .ok (.lstore 6, 2) := by decide +kernel
theorem dX6_slip_198 : decode cX6_slip 198 = .ok (.iinc 10 1, 3) := by decide +kernel
theorem dX6_slip_201 : decode cX6_slip 201 = .ok (.goto (-92), 3) := by decide +kernel
theorem dX6_slip_204 : decode cX6_slip 204 = .ok (.aload_n 0, 1) := by decide +kernel
theorem dX6_slip_205 : decode cX6_slip 205 = .ok (.iconst 0, 1) := by decide +kernel
theorem dX6_slip_206 : decode cX6_slip 206 = .ok (.putfield 100, 3) := by decide +kernel
theorem dX6_slip_209 : decode cX6_slip 209 = .ok (.lload 6, 2) := by decide +kernel
theorem dX6_slip_211 : decode cX6_slip 211 = .ok (.lload 8, 2) := by decide +kernel
theorem dX6_slip_213 : decode cX6_slip 213 = .ok (.iload 5, 2) := by decide +kernel
theorem dX6_slip_215 : decode cX6_slip 215 = .ok (.invokestatic 186, 3) := by decide +kernel
theorem dX6_slip_218 : decode cX6_slip 218 = .ok (.lreturn, 1) := by decide +kernel
theorem dX6_whatWas_0 : decode cX6_whatWas 0 = .ok (.iload_n 1, 1) := by decide +kernel
theorem dX6_whatWas_1 : decode cX6_whatWas 1 = .ok (.invokestatic 138, 3) := by decide +kernel
theorem dX6_whatWas_4 : decode cX6_whatWas 4 = .ok (.ifCond .eq 10, 3) := by decide +kernel
theorem dX6_whatWas_7 : decode cX6_whatWas 7 = .ok (.iload_n 2, 1) := by decide +kernel
theorem dX6_whatWas_8 : decode cX6_whatWas 8 = .ok (.invokestatic 138, 3) := by decide +kernel
theorem dX6_whatWas_11 : decode cX6_whatWas 11 = .ok (.ifCond .ne 9, 3) := by decide +kernel
theorem dX6_whatWas_14 : decode cX6_whatWas 14 = .ok (.aload_n 0, 1) := by decide +kernel
theorem dX6_whatWas_15 : decode cX6_whatWas 15 = .ok (.iconst (-1), 1) := by decide +kernel
theorem dX6_whatWas_16 : decode cX6_whatWas 16 = .ok (.invokevirtual 51, 3) := by decide +kernel
theorem dX6_whatWas_19 : decode cX6_whatWas 19 = .ok (.ireturn, 1) := by decide +kernel
theorem dX6_whatWas_20 : decode cX6_whatWas 20 = .ok (.iload_n 3, 1) := by decide +kernel
theorem dX6_whatWas_21 : decode cX6_whatWas 21 = .ok (.iconst 0, 1) := by decide +kernel
theorem dX6_whatWas_22 : decode cX6_whatWas 22 = .ok (.iconst 1, 1) := by decide +kernel
theorem dX6_whatWas_23 : decode cX6_whatWas 23 = .ok (.invokestatic 55, 3) := by decide +kernel
theorem dX6_whatWas_26 : decode cX6_whatWas 26 = .ok (.ifCond .ne 10, 3) := by decide +kernel
theorem dX6_whatWas_29 : decode cX6_whatWas 29 = .ok (.aload_n 0, 1) := by decide +kernel
theorem dX6_whatWas_30 : decode cX6_whatWas 30 = .ok (.bipush (-2), 2) := by decide +kernel
theorem dX6_whatWas_32 : decode cX6_whatWas 32 = .ok (.invokevirtual 51, 3) := by decide +kernel
theorem dX6_whatWas_35 : decode cX6_whatWas 35 = .ok (.ireturn, 1) := by decide +kernel
theorem dX6_whatWas_36 : decode cX6_whatWas 36 = .ok (.iconst 0, 1) := by decide +kernel
theorem dX6_whatWas_37 : decode cX6_whatWas 37 = .ok (.istore 4, 2) := by decide +kernel
theorem dX6_whatWas_39 : decode cX6_whatWas 39 = .ok (.iconst 0, 1) := by decide +kernel
theorem dX6_whatWas_40 : decode cX6_whatWas 40 = .ok (.istore 5, 2) := by decide +kernel
theorem dX6_whatWas_42 : decode cX6_whatWas 42 = .ok (.iload 5, 2) := by decide +kernel
theorem dX6_whatWas_44 : decode cX6_whatWas 44 = .ok (.iload_n 3, 1) := by decide +kernel
theorem dX6_whatWas_45 : decode cX6_whatWas 45 = .ok (.ifCond .ne 8, 3) := by decide +kernel
theorem dX6_whatWas_48 : decode cX6_whatWas 48 = .ok (.bipush 6, 2) := by decide +kernel
theorem dX6_whatWas_50 : decode cX6_whatWas 50 = .ok (.goto 5, 3) := by decide +kernel
theorem dX6_whatWas_53 : decode cX6_whatWas 53 = .ok (.bipush 10, 2) := by decide +kernel
theorem dX6_whatWas_55 : decode cX6_whatWas 55 = .ok (.if_icmp .ge 132, 3) := by decide +kernel
theorem dX6_whatWas_58 : decode cX6_whatWas 58 = .ok (.aload_n 0, 1) := by decide +kernel
theorem dX6_whatWas_59 : decode cX6_whatWas 59 = .ok (.getfield 9, 3) := by decide +kernel
theorem dX6_whatWas_62 : decode cX6_whatWas 62 = .ok (.aload_n 0, 1) := by decide +kernel
theorem dX6_whatWas_63 : decode cX6_whatWas 63 = .ok (.getfield 13, 3) := by decide +kernel
theorem dX6_whatWas_66 : decode cX6_whatWas 66 = .ok (.invokestatic 147, 3) := by decide +kernel
theorem dX6_whatWas_69 : decode cX6_whatWas 69 = .ok (.aload_n 0, 1) := by decide +kernel
theorem dX6_whatWas_70 : decode cX6_whatWas 70 = .ok (.getfield 13, 3) := by decide +kernel
theorem dX6_whatWas_73 : decode cX6_whatWas 73 = .ok (.iload_n 3, 1) := by decide +kernel
theorem dX6_whatWas_74 : decode cX6_whatWas 74 = .ok (.ifCond .ne 7, 3) := by decide +kernel
theorem dX6_whatWas_77 : decode cX6_whatWas 77 = .ok (.iconst 2, 1) := by decide +kernel
theorem dX6_whatWas_78 : decode cX6_whatWas 78 = .ok (.goto 5, 3) := by decide +kernel
theorem dX6_whatWas_81 : decode cX6_whatWas 81 = .ok (.bipush 27, 2) := by decide +kernel
theorem dX6_whatWas_83 : decode cX6_whatWas 83 = .ok (.iload_n 2, 1) := by decide +kernel
theorem dX6_whatWas_84 : decode cX6_whatWas 84 = .ok (.iadd, 1) := by decide +kernel
theorem dX6_whatWas_85 : decode cX6_whatWas 85 = .ok (.iload 5, 2) := by decide +kernel
theorem dX6_whatWas_87 : decode cX6_whatWas 87 = .ok (.iastore, 1) := by decide +kernel
theorem dX6_whatWas_88 : decode cX6_whatWas 88 = .ok (.aload_n 0, 1) := by decide +kernel
theorem dX6_whatWas_89 : decode cX6_whatWas 89 = .ok (.aload_n 0, 1) := by decide +kernel
theorem dX6_whatWas_90 : decode cX6_whatWas 90 = .ok (.getfield 13, 3) := by decide +kernel
theorem dX6_whatWas_93 : decode cX6_whatWas 93 = .ok (.iload_n 1, 1) := by decide +kernel
theorem dX6_whatWas_94 : decode cX6_whatWas 94 = .ok (.iconst 0, 1) := by decide +kernel
theorem dX6_whatWas_95 : decode cX6_whatWas 95 = .ok (.invokevirtual 171, 3) := by decide +kernel
theorem dX6_whatWas_98 : decode cX6_whatWas 98 = .ok (.istore 6, 2) := by decide +kernel
theorem dX6_whatWas_100 : decode cX6_whatWas 100 = .ok (.iconst 1, 1) := by decide +kernel
theorem dX6_whatWas_101 : decode cX6_whatWas 101 = .ok (.istore 7, 2) := by decide +kernel
theorem dX6_whatWas_103 : decode cX6_whatWas 103 = .ok (.iconst 0, 1) := by decide +kernel
theorem dX6_whatWas_104 : decode cX6_whatWas 104 = .ok (.istore 8, 2) := by decide +kernel
theorem dX6_whatWas_106 : decode cX6_whatWas 106 = .ok (.iload 8, 2) := by decide +kernel
theorem dX6_whatWas_108 : decode cX6_whatWas 108 = .ok (.aload_n 0, 1) := by decide +kernel
theorem dX6_whatWas_109 : decode cX6_whatWas 109 = .ok (.getfield 190, 3) := by decide +kernel
theorem dX6_whatWas_112 : decode cX6_whatWas 112 = .ok (.if_icmp .ge 51, 3) := by decide +kernel
theorem dX6_whatWas_115 : decode cX6_whatWas 115 = .ok (.iload 7, 2) := by decide +kernel
theorem dX6_whatWas_117 : decode cX6_whatWas 117 = .ok (.aload_n 0, 1) := by decide +kernel
theorem dX6_whatWas_118 : decode cX6_whatWas 118 = .ok (.getfield 31, 3) := by decide +kernel
theorem dX6_whatWas_121 : decode cX6_whatWas 121 = .ok (.iload 8, 2) := by decide +kernel
theorem dX6_whatWas_123 : decode cX6_whatWas 123 = .ok (.iaload, 1) := by decide +kernel
theorem dX6_whatWas_124 : decode cX6_whatWas 124 = .ok (.ifCond .ge 8, 3) := by decide +kernel
theorem dX6_whatWas_127 : decode cX6_whatWas 127 = .ok (.bipush 99, 2) := by decide +kernel
theorem dX6_whatWas_129 : decode cX6_whatWas 129 = .ok (.goto 10, 3) := by decide +kernel
theorem dX6_whatWas_132 : decode cX6_whatWas 132 = .ok (.aload_n 0, 1) := by decide +kernel
theorem dX6_whatWas_133 : decode cX6_whatWas 133 = .ok (.getfield 31, 3) := by decide +kernel
theorem dX6_whatWas_136 : decode cX6_whatWas 136 = .ok (.iload 8, 2) := by decide +kernel
theorem dX6_whatWas_138 : decode cX6_whatWas 138 = .ok (.iaload, 1) := by decide +kernel
theorem dX6_whatWas_139 : decode cX6_whatWas 139 = .ok (.aload_n 0, 1) := by decide +kernel
theorem dX6_whatWas_140 : decode cX6_whatWas 140 = .ok (.getfield 25, 3) := by decide +kernel
theorem dX6_whatWas_143 : decode cX6_whatWas 143 = .ok (.iload 8, 2) := by decide +kernel
theorem dX6_whatWas_145 : decode cX6_whatWas 145 = .ok (.iaload, 1) := by decide +kernel
theorem dX6_whatWas_146 : decode cX6_whatWas 146 = .ok (.if_icmp .ne 7, 3) := by decide +kernel
theorem dX6_whatWas_149 : decode cX6_whatWas 149 = .ok (.iconst 1, 1) := by decide +kernel
theorem dX6_whatWas_150 : decode cX6_whatWas 150 = .ok (.goto 4, 3) := by decide +kernel
theorem dX6_whatWas_153 : decode cX6_whatWas 153 = .ok (.iconst 0, 1) := by decide +kernel
theorem dX6_whatWas_154 : decode cX6_whatWas 154 = .ok (.iand, 1) := by decide +kernel
theorem dX6_whatWas_155 : decode cX6_whatWas 155 = .ok (.istore 7, 2) := by decide +kernel
theorem dX6_whatWas_157 : decode cX6_whatWas 157 = .ok (.iinc 8 1, 3) := by decide +kernel
theorem dX6_whatWas_160 : decode cX6_whatWas 160 = .ok (.goto (-54), 3) := by decide +kernel
theorem dX6_whatWas_163 : decode cX6_whatWas 163 = .ok (.iload 4, 2) := by decide +kernel
theorem dX6_whatWas_165 : decode cX6_whatWas 165 = .ok (.iload 7, 2) := by decide +kernel
theorem dX6_whatWas_167 : decode cX6_whatWas 167 = .ok (.ifCond .eq 10, 3) := by decide +kernel
theorem dX6_whatWas_170 : decode cX6_whatWas 170 = .ok (.iconst 1, 1) := by decide +kernel
theorem dX6_whatWas_171 : decode cX6_whatWas 171 = .ok (.iload 5, 2) := by decide +kernel
theorem dX6_whatWas_173 : decode cX6_whatWas 173 = .ok (.ishl, 1) := by decide +kernel
theorem dX6_whatWas_174 : decode cX6_whatWas 174 = .ok (.goto 4, 3) := by decide +kernel
theorem dX6_whatWas_177 : decode cX6_whatWas 177 = .ok (.iconst 0, 1) := by decide +kernel
theorem dX6_whatWas_178 : decode cX6_whatWas 178 = .ok (.ior, 1) := by decide +kernel
theorem dX6_whatWas_179 : decode cX6_whatWas 179 = .ok (.istore 4, 2) := by decide +kernel
theorem dX6_whatWas_181 : decode cX6_whatWas 181 = .ok (.iinc 5 1, 3) := by decide +kernel
theorem dX6_whatWas_184 : decode cX6_whatWas 184 = .ok (.goto (-142), 3) := by decide +kernel
theorem dX6_whatWas_187 : decode cX6_whatWas 187 = .ok (.iload 4, 2) := by decide +kernel
theorem dX6_whatWas_189 : decode cX6_whatWas 189 = .ok (.ireturn, 1) := by decide +kernel
theorem dX6_row_0 : decode cX6_row 0 = .ok (.iload_n 1, 1) := by decide +kernel
theorem dX6_row_1 : decode cX6_row 1 = .ok (.ifCond .ge 10, 3) := by decide +kernel
theorem dX6_row_4 : decode cX6_row 4 = .ok (.aload_n 0, 1) := by decide +kernel
theorem dX6_row_5 : decode cX6_row 5 = .ok (.bipush (-4), 2) := by decide +kernel
theorem dX6_row_7 : decode cX6_row 7 = .ok (.invokevirtual 51, 3) := by decide +kernel
theorem dX6_row_10 : decode cX6_row 10 = .ok (.ireturn, 1) := by decide +kernel
theorem dX6_row_11 : decode cX6_row 11 = .ok (.iload_n 1, 1) := by decide +kernel
theorem dX6_row_12 : decode cX6_row 12 = .ok (.bipush 99, 2) := by decide +kernel
theorem dX6_row_14 : decode cX6_row 14 = .ok (.if_icmp .gt 12, 3) := by decide +kernel
theorem dX6_row_17 : decode cX6_row 17 = .ok (.aload_n 0, 1) := by decide +kernel
theorem dX6_row_18 : decode cX6_row 18 = .ok (.getfield 190, 3) := by decide +kernel
theorem dX6_row_21 : decode cX6_row 21 = .ok (.bipush 25, 2) := by decide +kernel
theorem dX6_row_23 : decode cX6_row 23 = .ok (.if_icmp .ne 10, 3) := by decide +kernel
theorem dX6_row_26 : decode cX6_row 26 = .ok (.aload_n 0, 1) := by decide +kernel
theorem dX6_row_27 : decode cX6_row 27 = .ok (.bipush (-6), 2) := by decide +kernel
theorem dX6_row_29 : decode cX6_row 29 = .ok (.invokevirtual 51, 3) := by decide +kernel
theorem dX6_row_32 : decode cX6_row 32 = .ok (.ireturn, 1) := by decide +kernel
theorem dX6_row_33 : decode cX6_row 33 = .ok (.aload_n 0, 1) := by decide +kernel
theorem dX6_row_34 : decode cX6_row 34 = .ok (.getfield 25, 3) := by decide +kernel
theorem dX6_row_37 : decode cX6_row 37 = .ok (.aload_n 0, 1) := by decide +kernel
theorem dX6_row_38 : decode cX6_row 38 = .ok (.getfield 190, 3) := by decide +kernel
theorem dX6_row_41 : decode cX6_row 41 = .ok (.iload_n 1, 1) := by decide +kernel
theorem dX6_row_42 : decode cX6_row 42 = .ok (.iastore, 1) := by decide +kernel
theorem dX6_row_43 : decode cX6_row 43 = .ok (.aload_n 0, 1) := by decide +kernel
theorem dX6_row_44 : decode cX6_row 44 = .ok (.dup, 1) := by decide +kernel
theorem dX6_row_45 : decode cX6_row 45 = .ok (.getfield 190, 3) := by decide +kernel
theorem dX6_row_48 : decode cX6_row 48 = .ok (.iconst 1, 1) := by decide +kernel
theorem dX6_row_49 : decode cX6_row 49 = .ok (.iadd, 1) := by decide +kernel
theorem dX6_row_50 : decode cX6_row 50 = .ok (.putfield 190, 3) := by decide +kernel
theorem dX6_row_53 : decode cX6_row 53 = .ok (.aload_n 0, 1) := by decide +kernel
theorem dX6_row_54 : decode cX6_row 54 = .ok (.getfield 190, 3) := by decide +kernel
theorem dX6_row_57 : decode cX6_row 57 = .ok (.ireturn, 1) := by decide +kernel
theorem dX6_judge_0 : decode cX6_judge 0 = .ok (.iload_n 1, 1) := by decide +kernel
theorem dX6_judge_1 : decode cX6_judge 1 = .ok (.invokestatic 138, 3) := by decide +kernel
theorem dX6_judge_4 : decode cX6_judge 4 = .ok (.ifCond .ne 9, 3) := by decide +kernel
theorem dX6_judge_7 : decode cX6_judge 7 = .ok (.aload_n 0, 1) := by decide +kernel
theorem dX6_judge_8 : decode cX6_judge 8 = .ok (.iconst (-1), 1) := by decide +kernel
theorem dX6_judge_9 : decode cX6_judge 9 = .ok (.invokevirtual 51, 3) := by decide +kernel
theorem dX6_judge_12 : decode cX6_judge 12 = .ok (.ireturn, 1) := by decide +kernel
theorem dX6_judge_13 : decode cX6_judge 13 = .ok (.aload_n 0, 1) := by decide +kernel
theorem dX6_judge_14 : decode cX6_judge 14 = .ok (.getfield 190, 3) := by decide +kernel
theorem dX6_judge_17 : decode cX6_judge 17 = .ok (.istore_n 2, 1) := by decide +kernel
theorem dX6_judge_18 : decode cX6_judge 18 = .ok (.aload_n 0, 1) := by decide +kernel
theorem dX6_judge_19 : decode cX6_judge 19 = .ok (.iconst 0, 1) := by decide +kernel
theorem dX6_judge_20 : decode cX6_judge 20 = .ok (.putfield 190, 3) := by decide +kernel
theorem dX6_judge_23 : decode cX6_judge 23 = .ok (.aload_n 0, 1) := by decide +kernel
theorem dX6_judge_24 : decode cX6_judge 24 = .ok (.iload_n 1, 1) := by decide +kernel
theorem dX6_judge_25 : decode cX6_judge 25 = .ok (.iconst 0, 1) := by decide +kernel
theorem dX6_judge_26 : decode cX6_judge 26 = .ok (.invokevirtual 164, 3) := by decide +kernel
theorem dX6_judge_29 : decode cX6_judge 29 = .ok (.iconst 0, 1) := by decide +kernel
theorem dX6_judge_30 : decode cX6_judge 30 = .ok (.istore_n 3, 1) := by decide +kernel
theorem dX6_judge_31 : decode cX6_judge 31 = .ok (.iload_n 3, 1) := by decide +kernel
theorem dX6_judge_32 : decode cX6_judge 32 = .ok (.iload_n 2, 1) := by decide +kernel
theorem dX6_judge_33 : decode cX6_judge 33 = .ok (.if_icmp .ge 59, 3) := by decide +kernel
theorem dX6_judge_36 : decode cX6_judge 36 = .ok (.bipush 99, 2) := by decide +kernel
theorem dX6_judge_38 : decode cX6_judge 38 = .ok (.istore 4, 2) := by decide +kernel
theorem dX6_judge_40 : decode cX6_judge 40 = .ok (.iconst 0, 1) := by decide +kernel
theorem dX6_judge_41 : decode cX6_judge 41 = .ok (.istore 5, 2) := by decide +kernel
theorem dX6_judge_43 : decode cX6_judge 43 = .ok (.iload 5, 2) := by decide +kernel
theorem dX6_judge_45 : decode cX6_judge 45 = .ok (.bipush 25, 2) := by decide +kernel
theorem dX6_judge_47 : decode cX6_judge 47 = .ok (.if_icmp .ge 26, 3) := by decide +kernel
theorem dX6_judge_50 : decode cX6_judge 50 = .ok (.aload_n 0, 1) := by decide +kernel
theorem dX6_judge_51 : decode cX6_judge 51 = .ok (.getfield 37, 3) := by decide +kernel
theorem dX6_judge_54 : decode cX6_judge 54 = .ok (.iload 5, 2) := by decide +kernel
theorem dX6_judge_56 : decode cX6_judge 56 = .ok (.iaload, 1) := by decide +kernel
theorem dX6_judge_57 : decode cX6_judge 57 = .ok (.iload_n 3, 1) := by decide +kernel
theorem dX6_judge_58 : decode cX6_judge 58 = .ok (.iconst 1, 1) := by decide +kernel
theorem dX6_judge_59 : decode cX6_judge 59 = .ok (.iadd, 1) := by decide +kernel
theorem dX6_judge_60 : decode cX6_judge 60 = .ok (.if_icmp .ne 7, 3) := by decide +kernel
theorem dX6_judge_63 : decode cX6_judge 63 = .ok (.iload 5, 2) := by decide +kernel
theorem dX6_judge_65 : decode cX6_judge 65 = .ok (.istore 4, 2) := by decide +kernel
theorem dX6_judge_67 : decode cX6_judge 67 = .ok (.iinc 5 1, 3) := by decide +kernel
theorem dX6_judge_70 : decode cX6_judge 70 = .ok (.goto (-27), 3) := by decide +kernel
theorem dX6_judge_73 : decode cX6_judge 73 = .ok (.iload 4, 2) := by decide +kernel
theorem dX6_judge_75 : decode cX6_judge 75 = .ok (.aload_n 0, 1) := by decide +kernel
theorem dX6_judge_76 : decode cX6_judge 76 = .ok (.getfield 25, 3) := by decide +kernel
theorem dX6_judge_79 : decode cX6_judge 79 = .ok (.iload_n 3, 1) := by decide +kernel
theorem dX6_judge_80 : decode cX6_judge 80 = .ok (.iaload, 1) := by decide +kernel
theorem dX6_judge_81 : decode cX6_judge 81 = .ok (.if_icmp .eq 5, 3) := by decide +kernel
theorem dX6_judge_84 : decode cX6_judge 84 = .ok (.iload_n 3, 1) := by decide +kernel
theorem dX6_judge_85 : decode cX6_judge 85 = .ok (.ireturn, 1) := by decide +kernel
theorem dX6_judge_86 : decode cX6_judge 86 = .ok (.iinc 3 1, 3) := by decide +kernel
theorem dX6_judge_89 : decode cX6_judge 89 = .ok (.goto (-58), 3) := by decide +kernel
theorem dX6_judge_92 : decode cX6_judge 92 = .ok (.bipush (-9), 2) := by decide +kernel
theorem dX6_judge_94 : decode cX6_judge 94 = .ok (.ireturn, 1) := by decide +kernel
theorem dX6_clear_0 : decode cX6_clear 0 = .ok (.aload_n 0, 1) := by decide +kernel
theorem dX6_clear_1 : decode cX6_clear 1 = .ok (.getfield 190, 3) := by decide +kernel
theorem dX6_clear_4 : decode cX6_clear 4 = .ok (.istore_n 1, 1) := by decide +kernel
theorem dX6_clear_5 : decode cX6_clear 5 = .ok (.aload_n 0, 1) := by decide +kernel
theorem dX6_clear_6 : decode cX6_clear 6 = .ok (.iconst 0, 1) := by decide +kernel
theorem dX6_clear_7 : decode cX6_clear 7 = .ok (.putfield 190, 3) := by decide +kernel
theorem dX6_clear_10 : decode cX6_clear 10 = .ok (.iload_n 1, 1) := by decide +kernel
theorem dX6_clear_11 : decode cX6_clear 11 = .ok (.ireturn, 1) := by decide +kernel
theorem dX6_drawn_0 : decode cX6_drawn 0 = .ok (.aload_n 0, 1) := by decide +kernel
theorem dX6_drawn_1 : decode cX6_drawn 1 = .ok (.aload_n 0, 1) := by decide +kernel
theorem dX6_drawn_2 : decode cX6_drawn 2 = .ok (.getfield 193, 3) := by decide +kernel
theorem dX6_drawn_5 : decode cX6_drawn 5 = .ok (.ldc 196, 2) := by decide +kernel
theorem dX6_drawn_7 : decode cX6_drawn 7 = .ok (.imul, 1) := by decide +kernel
theorem dX6_drawn_8 : decode cX6_drawn 8 = .ok (.ldc 197, 2) := by decide +kernel
theorem dX6_drawn_10 : decode cX6_drawn 10 = .ok (.iadd, 1) := by decide +kernel
theorem dX6_drawn_11 : decode cX6_drawn 11 = .ok (.putfield 193, 3) := by decide +kernel
theorem dX6_drawn_14 : decode cX6_drawn 14 = .ok (.aload_n 0, 1) := by decide +kernel
theorem dX6_drawn_15 : decode cX6_drawn 15 = .ok (.getfield 193, 3) := by decide +kernel
theorem dX6_drawn_18 : decode cX6_drawn 18 = .ok (.ldc 198, 2) := by decide +kernel
theorem dX6_drawn_20 : decode cX6_drawn 20 = .ok (.iand, 1) := by decide +kernel
theorem dX6_drawn_21 : decode cX6_drawn 21 = .ok (.sipush 256, 3) := by decide +kernel
theorem dX6_drawn_24 : decode cX6_drawn 24 = .ok (.idiv, 1) := by decide +kernel
theorem dX6_drawn_25 : decode cX6_drawn 25 = .ok (.iload_n 1, 1) := by decide +kernel
theorem dX6_drawn_26 : decode cX6_drawn 26 = .ok (.irem, 1) := by decide +kernel
theorem dX6_drawn_27 : decode cX6_drawn 27 = .ok (.ireturn, 1) := by decide +kernel
theorem dX6_lots_0 : decode cX6_lots 0 = .ok (.iload_n 1, 1) := by decide +kernel
theorem dX6_lots_1 : decode cX6_lots 1 = .ok (.iconst 1, 1) := by decide +kernel
theorem dX6_lots_2 : decode cX6_lots 2 = .ok (.if_icmp .ge 10, 3) := by decide +kernel
theorem dX6_lots_5 : decode cX6_lots 5 = .ok (.aload_n 0, 1) := by decide +kernel
theorem dX6_lots_6 : decode cX6_lots 6 = .ok (.bipush (-4), 2) := by decide +kernel
theorem dX6_lots_8 : decode cX6_lots 8 = .ok (.invokevirtual 51, 3) := by decide +kernel
theorem dX6_lots_11 : decode cX6_lots 11 = .ok (.ireturn, 1) := by decide +kernel
theorem dX6_lots_12 : decode cX6_lots 12 = .ok (.iload_n 1, 1) := by decide +kernel
theorem dX6_lots_13 : decode cX6_lots 13 = .ok (.bipush 20, 2) := by decide +kernel
theorem dX6_lots_15 : decode cX6_lots 15 = .ok (.if_icmp .le 10, 3) := by decide +kernel
theorem dX6_lots_18 : decode cX6_lots 18 = .ok (.aload_n 0, 1) := by decide +kernel
theorem dX6_lots_19 : decode cX6_lots 19 = .ok (.bipush (-6), 2) := by decide +kernel
theorem dX6_lots_21 : decode cX6_lots 21 = .ok (.invokevirtual 51, 3) := by decide +kernel
theorem dX6_lots_24 : decode cX6_lots 24 = .ok (.ireturn, 1) := by decide +kernel
theorem dX6_lots_25 : decode cX6_lots 25 = .ok (.iload_n 3, 1) := by decide +kernel
theorem dX6_lots_26 : decode cX6_lots 26 = .ok (.iconst 0, 1) := by decide +kernel
theorem dX6_lots_27 : decode cX6_lots 27 = .ok (.iconst 1, 1) := by decide +kernel
theorem dX6_lots_28 : decode cX6_lots 28 = .ok (.invokestatic 55, 3) := by decide +kernel
theorem dX6_lots_31 : decode cX6_lots 31 = .ok (.ifCond .ne 10, 3) := by decide +kernel
theorem dX6_lots_34 : decode cX6_lots 34 = .ok (.aload_n 0, 1) := by decide +kernel
theorem dX6_lots_35 : decode cX6_lots 35 = .ok (.bipush (-2), 2) := by decide +kernel
theorem dX6_lots_37 : decode cX6_lots 37 = .ok (.invokevirtual 51, 3) := by decide +kernel
theorem dX6_lots_40 : decode cX6_lots 40 = .ok (.ireturn, 1) := by decide +kernel
theorem dX6_lots_41 : decode cX6_lots 41 = .ok (.aload_n 0, 1) := by decide +kernel
theorem dX6_lots_42 : decode cX6_lots 42 = .ok (.iload_n 2, 1) := by decide +kernel
theorem dX6_lots_43 : decode cX6_lots 43 = .ok (.putfield 193, 3) := by decide +kernel
theorem dX6_lots_46 : decode cX6_lots 46 = .ok (.iconst 0, 1) := by decide +kernel
theorem dX6_lots_47 : decode cX6_lots 47 = .ok (.istore 4, 2) := by decide +kernel
theorem dX6_lots_49 : decode cX6_lots 49 = .ok (.iconst 0, 1) := by decide +kernel
theorem dX6_lots_50 : decode cX6_lots 50 = .ok (.istore 5, 2) := by decide +kernel
theorem dX6_lots_52 : decode cX6_lots 52 = .ok (.iload 5, 2) := by decide +kernel
theorem dX6_lots_54 : decode cX6_lots 54 = .ok (.iload_n 1, 1) := by decide +kernel
theorem dX6_lots_55 : decode cX6_lots 55 = .ok (.if_icmp .ge 70, 3) := by decide +kernel
theorem dX6_lots_58 : decode cX6_lots 58 = .ok (.aload_n 0, 1) := by decide +kernel
theorem dX6_lots_59 : decode cX6_lots 59 = .ok (.bipush 25, 2) := by decide +kernel
theorem dX6_lots_61 : decode cX6_lots 61 = .ok (.invokevirtual 199, 3) := by decide +kernel
theorem dX6_lots_64 : decode cX6_lots 64 = .ok (.istore 6, 2) := by decide +kernel
theorem dX6_lots_66 : decode cX6_lots 66 = .ok (.aload_n 0, 1) := by decide +kernel
theorem dX6_lots_67 : decode cX6_lots 67 = .ok (.aload_n 0, 1) := by decide +kernel
theorem dX6_lots_68 : decode cX6_lots 68 = .ok (.getfield 9, 3) := by decide +kernel
theorem dX6_lots_71 : decode cX6_lots 71 = .ok (.iload 6, 2) := by decide +kernel
theorem dX6_lots_73 : decode cX6_lots 73 = .ok (.aload_n 0, 1) := by decide +kernel
theorem dX6_lots_74 : decode cX6_lots 74 = .ok (.getfield 9, 3) := by decide +kernel
theorem dX6_lots_77 : decode cX6_lots 77 = .ok (.iconst 0, 1) := by decide +kernel
theorem dX6_lots_78 : decode cX6_lots 78 = .ok (.iaload, 1) := by decide +kernel
theorem dX6_lots_79 : decode cX6_lots 79 = .ok (.ifCond .ne 7, 3) := by decide +kernel
theorem dX6_lots_82 : decode cX6_lots 82 = .ok (.iconst 0, 1) := by decide +kernel
theorem dX6_lots_83 : decode cX6_lots 83 = .ok (.goto 13, 3) := by decide +kernel
theorem dX6_lots_86 : decode cX6_lots 86 = .ok (.aload_n 0, 1) := by decide +kernel
theorem dX6_lots_87 : decode cX6_lots 87 = .ok (.aload_n 0, 1) := by decide +kernel
theorem dX6_lots_88 : decode cX6_lots 88 = .ok (.getfield 9, 3) := by decide +kernel
theorem dX6_lots_91 : decode cX6_lots 91 = .ok (.iconst 0, 1) := by decide +kernel
theorem dX6_lots_92 : decode cX6_lots 92 = .ok (.iaload, 1) := by decide +kernel
theorem dX6_lots_93 : decode cX6_lots 93 = .ok (.invokevirtual 199, 3) := by decide +kernel
theorem dX6_lots_96 : decode cX6_lots 96 = .ok (.invokevirtual 171, 3) := by decide +kernel
theorem dX6_lots_99 : decode cX6_lots 99 = .ok (.istore 7, 2) := by decide +kernel
theorem dX6_lots_101 : decode cX6_lots 101 = .ok (.iload 4, 2) := by decide +kernel
theorem dX6_lots_103 : decode cX6_lots 103 = .ok (.iload_n 3, 1) := by decide +kernel
theorem dX6_lots_104 : decode cX6_lots 104 = .ok (.ifCond .ne 8, 3) := by decide +kernel
theorem dX6_lots_107 : decode cX6_lots 107 = .ok (.iload 7, 2) := by decide +kernel
theorem dX6_lots_109 : decode cX6_lots 109 = .ok (.goto 7, 3) := by decide +kernel
theorem dX6_lots_112 : decode cX6_lots 112 = .ok (.aload_n 0, 1) := by decide +kernel
theorem dX6_lots_113 : decode cX6_lots 113 = .ok (.invokevirtual 168, 3) := by decide +kernel
theorem dX6_lots_116 : decode cX6_lots 116 = .ok (.iadd, 1) := by decide +kernel
theorem dX6_lots_117 : decode cX6_lots 117 = .ok (.istore 4, 2) := by decide +kernel
theorem dX6_lots_119 : decode cX6_lots 119 = .ok (.iinc 5 1, 3) := by decide +kernel
theorem dX6_lots_122 : decode cX6_lots 122 = .ok (.goto (-70), 3) := by decide +kernel
theorem dX6_lots_125 : decode cX6_lots 125 = .ok (.iload 4, 2) := by decide +kernel
theorem dX6_lots_127 : decode cX6_lots 127 = .ok (.ireturn, 1) := by decide +kernel
theorem dX6_image_0 : decode cX6_image 0 = .ok (.aload_n 0, 1) := by decide +kernel
theorem dX6_image_1 : decode cX6_image 1 = .ok (.getfield 9, 3) := by decide +kernel
theorem dX6_image_4 : decode cX6_image 4 = .ok (.aload_n 0, 1) := by decide +kernel
theorem dX6_image_5 : decode cX6_image 5 = .ok (.getfield 16, 3) := by decide +kernel
theorem dX6_image_8 : decode cX6_image 8 = .ok (.invokestatic 147, 3) := by decide +kernel
theorem dX6_image_11 : decode cX6_image 11 = .ok (.aload_n 0, 1) := by decide +kernel
theorem dX6_image_12 : decode cX6_image 12 = .ok (.iconst 1, 1) := by decide +kernel
theorem dX6_image_13 : decode cX6_image 13 = .ok (.putfield 202, 3) := by decide +kernel
theorem dX6_image_16 : decode cX6_image 16 = .ok (.aload_n 0, 1) := by decide +kernel
theorem dX6_image_17 : decode cX6_image 17 = .ok (.getfield 9, 3) := by decide +kernel
theorem dX6_image_20 : decode cX6_image 20 = .ok (.iconst 1, 1) := by decide +kernel
theorem dX6_image_21 : decode cX6_image 21 = .ok (.iaload, 1) := by decide +kernel
theorem dX6_image_22 : decode cX6_image 22 = .ok (.ireturn, 1) := by decide +kernel
theorem dX6_on_0 : decode cX6_on 0 = .ok (.aload_n 0, 1) := by decide +kernel
theorem dX6_on_1 : decode cX6_on 1 = .ok (.getfield 202, 3) := by decide +kernel
theorem dX6_on_4 : decode cX6_on 4 = .ok (.ifCond .ne 10, 3) := by decide +kernel
theorem dX6_on_7 : decode cX6_on 7 = .ok (.aload_n 0, 1) := by decide +kernel
theorem dX6_on_8 : decode cX6_on 8 = .ok (.bipush (-3), 2) := by decide +kernel
theorem dX6_on_10 : decode cX6_on 10 = .ok (.invokevirtual 51, 3) := by decide +kernel
theorem dX6_on_13 : decode cX6_on 13 = .ok (.ireturn, 1) := by decide +kernel
theorem dX6_on_14 : decode cX6_on 14 = .ok (.aload_n 0, 1) := by decide +kernel
theorem dX6_on_15 : decode cX6_on 15 = .ok (.getfield 16, 3) := by decide +kernel
theorem dX6_on_18 : decode cX6_on 18 = .ok (.aload_n 0, 1) := by decide +kernel
theorem dX6_on_19 : decode cX6_on 19 = .ok (.getfield 9, 3) := by decide +kernel
theorem dX6_on_22 : decode cX6_on 22 = .ok (.invokestatic 147, 3) := by decide +kernel
theorem dX6_on_25 : decode cX6_on 25 = .ok (.aload_n 0, 1) := by decide +kernel
theorem dX6_on_26 : decode cX6_on 26 = .ok (.getfield 9, 3) := by decide +kernel
theorem dX6_on_29 : decode cX6_on 29 = .ok (.iconst 1, 1) := by decide +kernel
theorem dX6_on_30 : decode cX6_on 30 = .ok (.iaload, 1) := by decide +kernel
theorem dX6_on_31 : decode cX6_on 31 = .ok (.ireturn, 1) := by decide +kernel
theorem dX6_count_0 : decode cX6_count 0 = .ok (.iload_n 1, 1) := by decide +kernel
theorem dX6_count_1 : decode cX6_count 1 = .ok (.bipush 11, 2) := by decide +kernel
theorem dX6_count_3 : decode cX6_count 3 = .ok (.bipush 16, 2) := by decide +kernel
theorem dX6_count_5 : decode cX6_count 5 = .ok (.invokestatic 55, 3) := by decide +kernel
theorem dX6_count_8 : decode cX6_count 8 = .ok (.ifCond .eq 13, 3) := by decide +kernel
theorem dX6_count_11 : decode cX6_count 11 = .ok (.aload_n 0, 1) := by decide +kernel
theorem dX6_count_12 : decode cX6_count 12 = .ok (.getfield 28, 3) := by decide +kernel
theorem dX6_count_15 : decode cX6_count 15 = .ok (.iload_n 1, 1) := by decide +kernel
theorem dX6_count_16 : decode cX6_count 16 = .ok (.bipush 10, 2) := by decide +kernel
theorem dX6_count_18 : decode cX6_count 18 = .ok (.isub, 1) := by decide +kernel
theorem dX6_count_19 : decode cX6_count 19 = .ok (.iaload, 1) := by decide +kernel
theorem dX6_count_20 : decode cX6_count 20 = .ok (.ireturn, 1) := by decide +kernel
theorem dX6_count_21 : decode cX6_count 21 = .ok (.iconst 0, 1) := by decide +kernel
theorem dX6_count_22 : decode cX6_count 22 = .ok (.istore_n 2, 1) := by decide +kernel
theorem dX6_count_23 : decode cX6_count 23 = .ok (.iload_n 1, 1) := by decide +kernel
theorem dX6_count_24 : decode cX6_count 24 = .ok (.tableswitch 191 0 7 #[48, 55, 62, 89, 125, 131, 181, 186], 48) := by decide +kernel
theorem dX6_count_72 : decode cX6_count 72 = .ok (.aload_n 0, 1) := by decide +kernel
theorem dX6_count_73 : decode cX6_count 73 = .ok (.getfield 9, 3) := by decide +kernel
theorem dX6_count_76 : decode cX6_count 76 = .ok (.iconst 0, 1) := by decide +kernel
theorem dX6_count_77 : decode cX6_count 77 = .ok (.iaload, 1) := by decide +kernel
theorem dX6_count_78 : decode cX6_count 78 = .ok (.ireturn, 1) := by decide +kernel
theorem dX6_count_79 : decode cX6_count 79 = .ok (.aload_n 0, 1) := by decide +kernel
theorem dX6_count_80 : decode cX6_count 80 = .ok (.getfield 9, 3) := by decide +kernel
theorem dX6_count_83 : decode cX6_count 83 = .ok (.iconst 1, 1) := by decide +kernel
theorem dX6_count_84 : decode cX6_count 84 = .ok (.iaload, 1) := by decide +kernel
theorem dX6_count_85 : decode cX6_count 85 = .ok (.ireturn, 1) := by decide +kernel
theorem dX6_count_86 : decode cX6_count 86 = .ok (.iconst 0, 1) := by decide +kernel
theorem dX6_count_87 : decode cX6_count 87 = .ok (.istore_n 3, 1) := by decide +kernel
theorem dX6_count_88 : decode cX6_count 88 = .ok (.iload_n 3, 1) := by decide +kernel
theorem dX6_count_89 : decode cX6_count 89 = .ok (.bipush 25, 2) := by decide +kernel
theorem dX6_count_91 : decode cX6_count 91 = .ok (.if_icmp .ge 20, 3) := by decide +kernel
theorem dX6_count_94 : decode cX6_count 94 = .ok (.iload_n 2, 1) := by decide +kernel
theorem dX6_count_95 : decode cX6_count 95 = .ok (.aload_n 0, 1) := by decide +kernel
theorem dX6_count_96 : decode cX6_count 96 = .ok (.getfield 9, 3) := by decide +kernel
theorem dX6_count_99 : decode cX6_count 99 = .ok (.iload_n 3, 1) := by decide +kernel
theorem dX6_count_100 : decode cX6_count 100 = .ok (.invokestatic 85, 3) := by decide +kernel
theorem dX6_count_103 : decode cX6_count 103 = .ok (.iadd, 1) := by decide +kernel
theorem dX6_count_104 : decode cX6_count 104 = .ok (.istore_n 2, 1) := by decide +kernel
theorem dX6_count_105 : decode cX6_count 105 = .ok (.iinc 3 1, 3) := by decide +kernel
theorem dX6_count_108 : decode cX6_count 108 = .ok (.goto (-20), 3) := by decide +kernel
theorem dX6_count_111 : decode cX6_count 111 = .ok (.iload_n 2, 1) := by decide +kernel
theorem dX6_count_112 : decode cX6_count 112 = .ok (.ireturn, 1) := by decide +kernel
theorem dX6_count_113 : decode cX6_count 113 = .ok (.iconst 0, 1) := by decide +kernel
theorem dX6_count_114 : decode cX6_count 114 = .ok (.istore_n 3, 1) := by decide +kernel
theorem dX6_count_115 : decode cX6_count 115 = .ok (.iload_n 3, 1) := by decide +kernel
theorem dX6_count_116 : decode cX6_count 116 = .ok (.bipush 25, 2) := by decide +kernel
theorem dX6_count_118 : decode cX6_count 118 = .ok (.if_icmp .ge 29, 3) := by decide +kernel
theorem dX6_count_121 : decode cX6_count 121 = .ok (.iload_n 2, 1) := by decide +kernel
theorem dX6_count_122 : decode cX6_count 122 = .ok (.aload_n 0, 1) := by decide +kernel
theorem dX6_count_123 : decode cX6_count 123 = .ok (.getfield 9, 3) := by decide +kernel
theorem dX6_count_126 : decode cX6_count 126 = .ok (.iconst 2, 1) := by decide +kernel
theorem dX6_count_127 : decode cX6_count 127 = .ok (.iload_n 3, 1) := by decide +kernel
theorem dX6_count_128 : decode cX6_count 128 = .ok (.iadd, 1) := by decide +kernel
theorem dX6_count_129 : decode cX6_count 129 = .ok (.iaload, 1) := by decide +kernel
theorem dX6_count_130 : decode cX6_count 130 = .ok (.iconst 4, 1) := by decide +kernel
theorem dX6_count_131 : decode cX6_count 131 = .ok (.if_icmp .lt 7, 3) := by decide +kernel
theorem dX6_count_134 : decode cX6_count 134 = .ok (.iconst 1, 1) := by decide +kernel
theorem dX6_count_135 : decode cX6_count 135 = .ok (.goto 4, 3) := by decide +kernel
theorem dX6_count_138 : decode cX6_count 138 = .ok (.iconst 0, 1) := by decide +kernel
theorem dX6_count_139 : decode cX6_count 139 = .ok (.iadd, 1) := by decide +kernel
theorem dX6_count_140 : decode cX6_count 140 = .ok (.istore_n 2, 1) := by decide +kernel
theorem dX6_count_141 : decode cX6_count 141 = .ok (.iinc 3 1, 3) := by decide +kernel
theorem dX6_count_144 : decode cX6_count 144 = .ok (.goto (-29), 3) := by decide +kernel
theorem dX6_count_147 : decode cX6_count 147 = .ok (.iload_n 2, 1) := by decide +kernel
theorem dX6_count_148 : decode cX6_count 148 = .ok (.ireturn, 1) := by decide +kernel
theorem dX6_count_149 : decode cX6_count 149 = .ok (.aload_n 0, 1) := by decide +kernel
theorem dX6_count_150 : decode cX6_count 150 = .ok (.iconst 0, 1) := by decide +kernel
theorem dX6_count_151 : decode cX6_count 151 = .ok (.invokevirtual 154, 3) := by decide +kernel
theorem dX6_count_154 : decode cX6_count 154 = .ok (.ireturn, 1) := by decide +kernel
theorem dX6_count_155 : decode cX6_count 155 = .ok (.iconst 0, 1) := by decide +kernel
theorem dX6_count_156 : decode cX6_count 156 = .ok (.istore_n 3, 1) := by decide +kernel
theorem dX6_count_157 : decode cX6_count 157 = .ok (.iload_n 3, 1) := by decide +kernel
theorem dX6_count_158 : decode cX6_count 158 = .ok (.aload_n 0, 1) := by decide +kernel
theorem dX6_count_159 : decode cX6_count 159 = .ok (.getfield 9, 3) := by decide +kernel
theorem dX6_count_162 : decode cX6_count 162 = .ok (.iconst 0, 1) := by decide +kernel
theorem dX6_count_163 : decode cX6_count 163 = .ok (.iaload, 1) := by decide +kernel
theorem dX6_count_164 : decode cX6_count 164 = .ok (.if_icmp .ge 39, 3) := by decide +kernel
theorem dX6_count_167 : decode cX6_count 167 = .ok (.iconst 0, 1) := by decide +kernel
theorem dX6_count_168 : decode cX6_count 168 = .ok (.istore 4, 2) := by decide +kernel
theorem dX6_count_170 : decode cX6_count 170 = .ok (.iload 4, 2) := by decide +kernel
theorem dX6_count_172 : decode cX6_count 172 = .ok (.bipush 25, 2) := by decide +kernel
theorem dX6_count_174 : decode cX6_count 174 = .ok (.if_icmp .ge 23, 3) := by decide +kernel
theorem dX6_count_177 : decode cX6_count 177 = .ok (.iload_n 2, 1) := by decide +kernel
theorem dX6_count_178 : decode cX6_count 178 = .ok (.aload_n 0, 1) := by decide +kernel
theorem dX6_count_179 : decode cX6_count 179 = .ok (.getfield 9, 3) := by decide +kernel
theorem dX6_count_182 : decode cX6_count 182 = .ok (.iload_n 3, 1) := by decide +kernel
theorem dX6_count_183 : decode cX6_count 183 = .ok (.iload 4, 2) := by decide +kernel
theorem dX6_count_185 : decode cX6_count 185 = .ok (.invokestatic 64, 3) := by decide +kernel
theorem dX6_count_188 : decode cX6_count 188 = .ok (.iaload, 1) := by decide +kernel
theorem dX6_count_189 : decode cX6_count 189 = .ok (.iadd, 1) := by decide +kernel
theorem dX6_count_190 : decode cX6_count 190 = .ok (.istore_n 2, 1) := by decide +kernel
theorem dX6_count_191 : decode cX6_count 191 = .ok (.iinc 4 1, 3) := by decide +kernel
theorem dX6_count_194 : decode cX6_count 194 = .ok (.goto (-24), 3) := by decide +kernel
theorem dX6_count_197 : decode cX6_count 197 = .ok (.iinc 3 1, 3) := by decide +kernel
theorem dX6_count_200 : decode cX6_count 200 = .ok (.goto (-43), 3) := by decide +kernel
theorem dX6_count_203 : decode cX6_count 203 = .ok (.iload_n 2, 1) := by decide +kernel
theorem dX6_count_204 : decode cX6_count 204 = .ok (.ireturn, 1) := by decide +kernel
theorem dX6_count_205 : decode cX6_count 205 = .ok (.aload_n 0, 1) := by decide +kernel
theorem dX6_count_206 : decode cX6_count 206 = .ok (.getfield 190, 3) := by decide +kernel
theorem dX6_count_209 : decode cX6_count 209 = .ok (.ireturn, 1) := by decide +kernel
theorem dX6_count_210 : decode cX6_count 210 = .ok (.aload_n 0, 1) := by decide +kernel
theorem dX6_count_211 : decode cX6_count 211 = .ok (.getfield 118, 3) := by decide +kernel
theorem dX6_count_214 : decode cX6_count 214 = .ok (.ireturn, 1) := by decide +kernel
theorem dX6_count_215 : decode cX6_count 215 = .ok (.bipush (-9), 2) := by decide +kernel
theorem dX6_count_217 : decode cX6_count 217 = .ok (.ireturn, 1) := by decide +kernel
end
section
theorem dL_law_0 : decode cL_law 0 = .ok (.new 7, 3) := by decide +kernel
theorem dL_law_3 : decode cL_law 3 = .ok (.dup, 1) := by decide +kernel
theorem dL_law_4 : decode cL_law 4 = .ok (.invokespecial 9, 3) := by decide +kernel
theorem dL_law_7 : decode cL_law 7 = .ok (.astore_n 1, 1) := by decide +kernel
theorem dL_law_8 : decode cL_law 8 = .ok (.new 10, 3) := by decide +kernel
theorem dL_law_11 : decode cL_law 11 = .ok (.dup, 1) := by decide +kernel
theorem dL_law_12 : decode cL_law 12 = .ok (.invokespecial 12, 3) := by decide +kernel
theorem dL_law_15 : decode cL_law 15 = .ok (.astore_n 2, 1) := by decide +kernel
theorem dL_law_16 : decode cL_law 16 = .ok (.iconst 0, 1) := by decide +kernel
theorem dL_law_17 : decode cL_law 17 = .ok (.istore_n 3, 1) := by decide +kernel
theorem dL_law_18 : decode cL_law 18 = .ok (.iload_n 3, 1) := by decide +kernel
theorem dL_law_19 : decode cL_law 19 = .ok (.aload_n 0, 1) := by decide +kernel
theorem dL_law_20 : decode cL_law 20 = .ok (.arraylength, 1) := by decide +kernel
theorem dL_law_21 : decode cL_law 21 = .ok (.bipush 6, 2) := by decide +kernel
theorem dL_law_23 : decode cL_law 23 = .ok (.isub, 1) := by decide +kernel
theorem dL_law_24 : decode cL_law 24 = .ok (.if_icmp .gt 1125, 3) := by decide +kernel
theorem dL_law_27 : decode cL_law 27 = .ok (.aload_n 0, 1) := by decide +kernel
theorem dL_law_28 : decode cL_law 28 = .ok (.iload_n 3, 1) := by decide +kernel
theorem dL_law_29 : decode cL_law 29 = .ok (.iaload, 1) := by decide +kernel
theorem dL_law_30 : decode cL_law 30 = .ok (.bipush 31, 2) := by decide +kernel
theorem dL_law_32 : decode cL_law 32 = .ok (.iand, 1) := by decide +kernel
theorem dL_law_33 : decode cL_law 33 = .ok (.tableswitch 1110 0 31 #[143, 166, 179, 212, 245, 288, 321, 364, 387, 430, 473, 526, 559, 582, 605, 618, 651, 674, 697, 720, 743, 786, 829, 852, 916, 959, 982, 1005, 1018, 1061, 1074, 1087], 143) := by decide +kernel
theorem dL_law_176 : decode cL_law 176 = .ok (.aload_n 1, 1) := by decide +kernel
theorem dL_law_177 : decode cL_law 177 = .ok (.aload_n 0, 1) := by decide +kernel
theorem dL_law_178 : decode cL_law 178 = .ok (.iload_n 3, 1) := by decide +kernel
theorem dL_law_179 : decode cL_law 179 = .ok (.iconst 1, 1) := by decide +kernel
theorem dL_law_180 : decode cL_law 180 = .ok (.iadd, 1) := by decide +kernel
theorem dL_law_181 : decode cL_law 181 = .ok (.iaload, 1) := by decide +kernel
theorem dL_law_182 : decode cL_law 182 = .ok (.invokevirtual 13, 3) := by decide +kernel
theorem dL_law_185 : decode cL_law 185 = .ok (.aload_n 2, 1) := by decide +kernel
theorem dL_law_186 : decode cL_law 186 = .ok (.aload_n 0, 1) := by decide +kernel
theorem dL_law_187 : decode cL_law 187 = .ok (.iload_n 3, 1) := by decide +kernel
theorem dL_law_188 : decode cL_law 188 = .ok (.iconst 1, 1) := by decide +kernel
theorem dL_law_189 : decode cL_law 189 = .ok (.iadd, 1) := by decide +kernel
theorem dL_law_190 : decode cL_law 190 = .ok (.iaload, 1) := by decide +kernel
theorem dL_law_191 : decode cL_law 191 = .ok (.invokevirtual 17, 3) := by decide +kernel
theorem dL_law_194 : decode cL_law 194 = .ok (.if_icmp .eq 949, 3) := by decide +kernel
theorem dL_law_197 : decode cL_law 197 = .ok (.iconst 0, 1) := by decide +kernel
theorem dL_law_198 : decode cL_law 198 = .ok (.ireturn, 1) := by decide +kernel
theorem dL_law_199 : decode cL_law 199 = .ok (.aload_n 1, 1) := by decide +kernel
theorem dL_law_200 : decode cL_law 200 = .ok (.invokevirtual 18, 3) := by decide +kernel
theorem dL_law_203 : decode cL_law 203 = .ok (.aload_n 2, 1) := by decide +kernel
theorem dL_law_204 : decode cL_law 204 = .ok (.invokevirtual 22, 3) := by decide +kernel
theorem dL_law_207 : decode cL_law 207 = .ok (.if_icmp .eq 936, 3) := by decide +kernel
theorem dL_law_210 : decode cL_law 210 = .ok (.iconst 0, 1) := by decide +kernel
theorem dL_law_211 : decode cL_law 211 = .ok (.ireturn, 1) := by decide +kernel
theorem dL_law_212 : decode cL_law 212 = .ok (.aload_n 1, 1) := by decide +kernel
theorem dL_law_213 : decode cL_law 213 = .ok (.aload_n 0, 1) := by decide +kernel
theorem dL_law_214 : decode cL_law 214 = .ok (.iload_n 3, 1) := by decide +kernel
theorem dL_law_215 : decode cL_law 215 = .ok (.iconst 1, 1) := by decide +kernel
theorem dL_law_216 : decode cL_law 216 = .ok (.iadd, 1) := by decide +kernel
theorem dL_law_217 : decode cL_law 217 = .ok (.iaload, 1) := by decide +kernel
theorem dL_law_218 : decode cL_law 218 = .ok (.aload_n 0, 1) := by decide +kernel
theorem dL_law_219 : decode cL_law 219 = .ok (.iload_n 3, 1) := by decide +kernel
theorem dL_law_220 : decode cL_law 220 = .ok (.iconst 2, 1) := by decide +kernel
theorem dL_law_221 : decode cL_law 221 = .ok (.iadd, 1) := by decide +kernel
theorem dL_law_222 : decode cL_law 222 = .ok (.iaload, 1) := by decide +kernel
theorem dL_law_223 : decode cL_law 223 = .ok (.invokevirtual 23, 3) := by decide +kernel
theorem dL_law_226 : decode cL_law 226 = .ok (.aload_n 2, 1) := by decide +kernel
theorem dL_law_227 : decode cL_law 227 = .ok (.aload_n 0, 1) := by decide +kernel
theorem dL_law_228 : decode cL_law 228 = .ok (.iload_n 3, 1) := by decide +kernel
theorem dL_law_229 : decode cL_law 229 = .ok (.iconst 1, 1) := by decide +kernel
theorem dL_law_230 : decode cL_law 230 = .ok (.iadd, 1) := by decide +kernel
theorem dL_law_231 : decode cL_law 231 = .ok (.iaload, 1) := by decide +kernel
theorem dL_law_232 : decode cL_law 232 = .ok (.aload_n 0, 1) := by decide +kernel
theorem dL_law_233 : decode cL_law 233 = .ok (.iload_n 3, 1) := by decide +kernel
theorem dL_law_234 : decode cL_law 234 = .ok (.iconst 2, 1) := by decide +kernel
theorem dL_law_235 : decode cL_law 235 = .ok (.iadd, 1) := by decide +kernel
theorem dL_law_236 : decode cL_law 236 = .ok (.iaload, 1) := by decide +kernel
theorem dL_law_237 : decode cL_law 237 = .ok (.invokevirtual 27, 3) := by decide +kernel
theorem dL_law_240 : decode cL_law 240 = .ok (.if_icmp .eq 903, 3) := by decide +kernel
theorem dL_law_243 : decode cL_law 243 = .ok (.iconst 0, 1) := by decide +kernel
theorem dL_law_244 : decode cL_law 244 = .ok (.ireturn, 1) := by decide +kernel
theorem dL_law_245 : decode cL_law 245 = .ok (.aload_n 1, 1) := by decide +kernel
theorem dL_law_246 : decode cL_law 246 = .ok (.aload_n 0, 1) := by decide +kernel
theorem dL_law_247 : decode cL_law 247 = .ok (.iload_n 3, 1) := by decide +kernel
theorem dL_law_248 : decode cL_law 248 = .ok (.iconst 1, 1) := by decide +kernel
theorem dL_law_249 : decode cL_law 249 = .ok (.iadd, 1) := by decide +kernel
theorem dL_law_250 : decode cL_law 250 = .ok (.iaload, 1) := by decide +kernel
theorem dL_law_251 : decode cL_law 251 = .ok (.aload_n 0, 1) := by decide +kernel
theorem dL_law_252 : decode cL_law 252 = .ok (.iload_n 3, 1) := by decide +kernel
theorem dL_law_253 : decode cL_law 253 = .ok (.iconst 2, 1) := by decide +kernel
theorem dL_law_254 : decode cL_law 254 = .ok (.iadd, 1) := by decide +kernel
theorem dL_law_255 : decode cL_law 255 = .ok (.iaload, 1) := by decide +kernel
theorem dL_law_256 : decode cL_law 256 = .ok (.invokevirtual 28, 3) := by decide +kernel
theorem dL_law_259 : decode cL_law 259 = .ok (.aload_n 2, 1) := by decide +kernel
theorem dL_law_260 : decode cL_law 260 = .ok (.aload_n 0, 1) := by decide +kernel
theorem dL_law_261 : decode cL_law 261 = .ok (.iload_n 3, 1) := by decide +kernel
theorem dL_law_262 : decode cL_law 262 = .ok (.iconst 1, 1) := by decide +kernel
theorem dL_law_263 : decode cL_law 263 = .ok (.iadd, 1) := by decide +kernel
theorem dL_law_264 : decode cL_law 264 = .ok (.iaload, 1) := by decide +kernel
theorem dL_law_265 : decode cL_law 265 = .ok (.aload_n 0, 1) := by decide +kernel
theorem dL_law_266 : decode cL_law 266 = .ok (.iload_n 3, 1) := by decide +kernel
theorem dL_law_267 : decode cL_law 267 = .ok (.iconst 2, 1) := by decide +kernel
theorem dL_law_268 : decode cL_law 268 = .ok (.iadd, 1) := by decide +kernel
theorem dL_law_269 : decode cL_law 269 = .ok (.iaload, 1) := by decide +kernel
theorem dL_law_270 : decode cL_law 270 = .ok (.invokevirtual 31, 3) := by decide +kernel
theorem dL_law_273 : decode cL_law 273 = .ok (.if_icmp .eq 870, 3) := by decide +kernel
theorem dL_law_276 : decode cL_law 276 = .ok (.iconst 0, 1) := by decide +kernel
theorem dL_law_277 : decode cL_law 277 = .ok (.ireturn, 1) := by decide +kernel
theorem dL_law_278 : decode cL_law 278 = .ok (.aload_n 1, 1) := by decide +kernel
theorem dL_law_279 : decode cL_law 279 = .ok (.aload_n 0, 1) := by decide +kernel
theorem dL_law_280 : decode cL_law 280 = .ok (.iload_n 3, 1) := by decide +kernel
theorem dL_law_281 : decode cL_law 281 = .ok (.iconst 1, 1) := by decide +kernel
theorem dL_law_282 : decode cL_law 282 = .ok (.iadd, 1) := by decide +kernel
theorem dL_law_283 : decode cL_law 283 = .ok (.iaload, 1) := by decide +kernel
theorem dL_law_284 : decode cL_law 284 = .ok (.aload_n 0, 1) := by decide +kernel
theorem dL_law_285 : decode cL_law 285 = .ok (.iload_n 3, 1) := by decide +kernel
theorem dL_law_286 : decode cL_law 286 = .ok (.iconst 2, 1) := by decide +kernel
theorem dL_law_287 : decode cL_law 287 = .ok (.iadd, 1) := by decide +kernel
theorem dL_law_288 : decode cL_law 288 = .ok (.iaload, 1) := by decide +kernel
theorem dL_law_289 : decode cL_law 289 = .ok (.aload_n 0, 1) := by decide +kernel
theorem dL_law_290 : decode cL_law 290 = .ok (.iload_n 3, 1) := by decide +kernel
theorem dL_law_291 : decode cL_law 291 = .ok (.iconst 3, 1) := by decide +kernel
theorem dL_law_292 : decode cL_law 292 = .ok (.iadd, 1) := by decide +kernel
theorem dL_law_293 : decode cL_law 293 = .ok (.iaload, 1) := by decide +kernel
theorem dL_law_294 : decode cL_law 294 = .ok (.invokevirtual 32, 3) := by decide +kernel
theorem dL_law_297 : decode cL_law 297 = .ok (.aload_n 2, 1) := by decide +kernel
theorem dL_law_298 : decode cL_law 298 = .ok (.aload_n 0, 1) := by decide +kernel
theorem dL_law_299 : decode cL_law 299 = .ok (.iload_n 3, 1) := by decide +kernel
theorem dL_law_300 : decode cL_law 300 = .ok (.iconst 1, 1) := by decide +kernel
theorem dL_law_301 : decode cL_law 301 = .ok (.iadd, 1) := by decide +kernel
theorem dL_law_302 : decode cL_law 302 = .ok (.iaload, 1) := by decide +kernel
theorem dL_law_303 : decode cL_law 303 = .ok (.aload_n 0, 1) := by decide +kernel
theorem dL_law_304 : decode cL_law 304 = .ok (.iload_n 3, 1) := by decide +kernel
theorem dL_law_305 : decode cL_law 305 = .ok (.iconst 2, 1) := by decide +kernel
theorem dL_law_306 : decode cL_law 306 = .ok (.iadd, 1) := by decide +kernel
theorem dL_law_307 : decode cL_law 307 = .ok (.iaload, 1) := by decide +kernel
theorem dL_law_308 : decode cL_law 308 = .ok (.aload_n 0, 1) := by decide +kernel
theorem dL_law_309 : decode cL_law 309 = .ok (.iload_n 3, 1) := by decide +kernel
theorem dL_law_310 : decode cL_law 310 = .ok (.iconst 3, 1) := by decide +kernel
theorem dL_law_311 : decode cL_law 311 = .ok (.iadd, 1) := by decide +kernel
theorem dL_law_312 : decode cL_law 312 = .ok (.iaload, 1) := by decide +kernel
theorem dL_law_313 : decode cL_law 313 = .ok (.invokevirtual 36, 3) := by decide +kernel
theorem dL_law_316 : decode cL_law 316 = .ok (.if_icmp .eq 827, 3) := by decide +kernel
theorem dL_law_319 : decode cL_law 319 = .ok (.iconst 0, 1) := by decide +kernel
theorem dL_law_320 : decode cL_law 320 = .ok (.ireturn, 1) := by decide +kernel
theorem dL_law_321 : decode cL_law 321 = .ok (.aload_n 1, 1) := by decide +kernel
theorem dL_law_322 : decode cL_law 322 = .ok (.aload_n 0, 1) := by decide +kernel
theorem dL_law_323 : decode cL_law 323 = .ok (.iload_n 3, 1) := by decide +kernel
theorem dL_law_324 : decode cL_law 324 = .ok (.iconst 1, 1) := by decide +kernel
theorem dL_law_325 : decode cL_law 325 = .ok (.iadd, 1) := by decide +kernel
theorem dL_law_326 : decode cL_law 326 = .ok (.iaload, 1) := by decide +kernel
theorem dL_law_327 : decode cL_law 327 = .ok (.aload_n 0, 1) := by decide +kernel
theorem dL_law_328 : decode cL_law 328 = .ok (.iload_n 3, 1) := by decide +kernel
theorem dL_law_329 : decode cL_law 329 = .ok (.iconst 2, 1) := by decide +kernel
theorem dL_law_330 : decode cL_law 330 = .ok (.iadd, 1) := by decide +kernel
theorem dL_law_331 : decode cL_law 331 = .ok (.iaload, 1) := by decide +kernel
theorem dL_law_332 : decode cL_law 332 = .ok (.invokevirtual 37, 3) := by decide +kernel
theorem dL_law_335 : decode cL_law 335 = .ok (.aload_n 2, 1) := by decide +kernel
theorem dL_law_336 : decode cL_law 336 = .ok (.aload_n 0, 1) := by decide +kernel
theorem dL_law_337 : decode cL_law 337 = .ok (.iload_n 3, 1) := by decide +kernel
theorem dL_law_338 : decode cL_law 338 = .ok (.iconst 1, 1) := by decide +kernel
theorem dL_law_339 : decode cL_law 339 = .ok (.iadd, 1) := by decide +kernel
theorem dL_law_340 : decode cL_law 340 = .ok (.iaload, 1) := by decide +kernel
theorem dL_law_341 : decode cL_law 341 = .ok (.aload_n 0, 1) := by decide +kernel
theorem dL_law_342 : decode cL_law 342 = .ok (.iload_n 3, 1) := by decide +kernel
theorem dL_law_343 : decode cL_law 343 = .ok (.iconst 2, 1) := by decide +kernel
theorem dL_law_344 : decode cL_law 344 = .ok (.iadd, 1) := by decide +kernel
theorem dL_law_345 : decode cL_law 345 = .ok (.iaload, 1) := by decide +kernel
theorem dL_law_346 : decode cL_law 346 = .ok (.invokevirtual 40, 3) := by decide +kernel
theorem dL_law_349 : decode cL_law 349 = .ok (.if_icmp .eq 794, 3) := by decide +kernel
theorem dL_law_352 : decode cL_law 352 = .ok (.iconst 0, 1) := by decide +kernel
theorem dL_law_353 : decode cL_law 353 = .ok (.ireturn, 1) := by decide +kernel
theorem dL_law_354 : decode cL_law 354 = .ok (.aload_n 1, 1) := by decide +kernel
theorem dL_law_355 : decode cL_law 355 = .ok (.aload_n 0, 1) := by decide +kernel
theorem dL_law_356 : decode cL_law 356 = .ok (.iload_n 3, 1) := by decide +kernel
theorem dL_law_357 : decode cL_law 357 = .ok (.iconst 1, 1) := by decide +kernel
theorem dL_law_358 : decode cL_law 358 = .ok (.iadd, 1) := by decide +kernel
theorem dL_law_359 : decode cL_law 359 = .ok (.iaload, 1) := by decide +kernel
theorem dL_law_360 : decode cL_law 360 = .ok (.aload_n 0, 1) := by decide +kernel
theorem dL_law_361 : decode cL_law 361 = .ok (.iload_n 3, 1) := by decide +kernel
theorem dL_law_362 : decode cL_law 362 = .ok (.iconst 2, 1) := by decide +kernel
theorem dL_law_363 : decode cL_law 363 = .ok (.iadd, 1) := by decide +kernel
theorem dL_law_364 : decode cL_law 364 = .ok (.iaload, 1) := by decide +kernel
theorem dL_law_365 : decode cL_law 365 = .ok (.aload_n 0, 1) := by decide +kernel
theorem dL_law_366 : decode cL_law 366 = .ok (.iload_n 3, 1) := by decide +kernel
theorem dL_law_367 : decode cL_law 367 = .ok (.iconst 3, 1) := by decide +kernel
theorem dL_law_368 : decode cL_law 368 = .ok (.iadd, 1) := by decide +kernel
theorem dL_law_369 : decode cL_law 369 = .ok (.iaload, 1) := by decide +kernel
theorem dL_law_370 : decode cL_law 370 = .ok (.invokevirtual 41, 3) := by decide +kernel
theorem dL_law_373 : decode cL_law 373 = .ok (.aload_n 2, 1) := by decide +kernel
theorem dL_law_374 : decode cL_law 374 = .ok (.aload_n 0, 1) := by decide +kernel
theorem dL_law_375 : decode cL_law 375 = .ok (.iload_n 3, 1) := by decide +kernel
theorem dL_law_376 : decode cL_law 376 = .ok (.iconst 1, 1) := by decide +kernel
theorem dL_law_377 : decode cL_law 377 = .ok (.iadd, 1) := by decide +kernel
theorem dL_law_378 : decode cL_law 378 = .ok (.iaload, 1) := by decide +kernel
theorem dL_law_379 : decode cL_law 379 = .ok (.aload_n 0, 1) := by decide +kernel
theorem dL_law_380 : decode cL_law 380 = .ok (.iload_n 3, 1) := by decide +kernel
theorem dL_law_381 : decode cL_law 381 = .ok (.iconst 2, 1) := by decide +kernel
theorem dL_law_382 : decode cL_law 382 = .ok (.iadd, 1) := by decide +kernel
theorem dL_law_383 : decode cL_law 383 = .ok (.iaload, 1) := by decide +kernel
theorem dL_law_384 : decode cL_law 384 = .ok (.aload_n 0, 1) := by decide +kernel
theorem dL_law_385 : decode cL_law 385 = .ok (.iload_n 3, 1) := by decide +kernel
theorem dL_law_386 : decode cL_law 386 = .ok (.iconst 3, 1) := by decide +kernel
theorem dL_law_387 : decode cL_law 387 = .ok (.iadd, 1) := by decide +kernel
theorem dL_law_388 : decode cL_law 388 = .ok (.iaload, 1) := by decide +kernel
theorem dL_law_389 : decode cL_law 389 = .ok (.invokevirtual 44, 3) := by decide +kernel
theorem dL_law_392 : decode cL_law 392 = .ok (.if_icmp .eq 751, 3) := by decide +kernel
theorem dL_law_395 : decode cL_law 395 = .ok (.iconst 0, 1) := by decide +kernel
theorem dL_law_396 : decode cL_law 396 = .ok (.ireturn, 1) := by decide +kernel
theorem dL_law_397 : decode cL_law 397 = .ok (.aload_n 1, 1) := by decide +kernel
theorem dL_law_398 : decode cL_law 398 = .ok (.aload_n 0, 1) := by decide +kernel
theorem dL_law_399 : decode cL_law 399 = .ok (.iload_n 3, 1) := by decide +kernel
theorem dL_law_400 : decode cL_law 400 = .ok (.iconst 1, 1) := by decide +kernel
theorem dL_law_401 : decode cL_law 401 = .ok (.iadd, 1) := by decide +kernel
theorem dL_law_402 : decode cL_law 402 = .ok (.iaload, 1) := by decide +kernel
theorem dL_law_403 : decode cL_law 403 = .ok (.invokevirtual 45, 3) := by decide +kernel
theorem dL_law_406 : decode cL_law 406 = .ok (.aload_n 2, 1) := by decide +kernel
theorem dL_law_407 : decode cL_law 407 = .ok (.aload_n 0, 1) := by decide +kernel
theorem dL_law_408 : decode cL_law 408 = .ok (.iload_n 3, 1) := by decide +kernel
theorem dL_law_409 : decode cL_law 409 = .ok (.iconst 1, 1) := by decide +kernel
theorem dL_law_410 : decode cL_law 410 = .ok (.iadd, 1) := by decide +kernel
theorem dL_law_411 : decode cL_law 411 = .ok (.iaload, 1) := by decide +kernel
theorem dL_law_412 : decode cL_law 412 = .ok (.invokevirtual 48, 3) := by decide +kernel
theorem dL_law_415 : decode cL_law 415 = .ok (.if_icmp .eq 728, 3) := by decide +kernel
theorem dL_law_418 : decode cL_law 418 = .ok (.iconst 0, 1) := by decide +kernel
theorem dL_law_419 : decode cL_law 419 = .ok (.ireturn, 1) := by decide +kernel
theorem dL_law_420 : decode cL_law 420 = .ok (.aload_n 1, 1) := by decide +kernel
theorem dL_law_421 : decode cL_law 421 = .ok (.aload_n 0, 1) := by decide +kernel
theorem dL_law_422 : decode cL_law 422 = .ok (.iload_n 3, 1) := by decide +kernel
theorem dL_law_423 : decode cL_law 423 = .ok (.iconst 1, 1) := by decide +kernel
theorem dL_law_424 : decode cL_law 424 = .ok (.iadd, 1) := by decide +kernel
theorem dL_law_425 : decode cL_law 425 = .ok (.iaload, 1) := by decide +kernel
theorem dL_law_426 : decode cL_law 426 = .ok (.aload_n 0, 1) := by decide +kernel
theorem dL_law_427 : decode cL_law 427 = .ok (.iload_n 3, 1) := by decide +kernel
theorem dL_law_428 : decode cL_law 428 = .ok (.iconst 2, 1) := by decide +kernel
theorem dL_law_429 : decode cL_law 429 = .ok (.iadd, 1) := by decide +kernel
theorem dL_law_430 : decode cL_law 430 = .ok (.iaload, 1) := by decide +kernel
theorem dL_law_431 : decode cL_law 431 = .ok (.aload_n 0, 1) := by decide +kernel
theorem dL_law_432 : decode cL_law 432 = .ok (.iload_n 3, 1) := by decide +kernel
theorem dL_law_433 : decode cL_law 433 = .ok (.iconst 3, 1) := by decide +kernel
theorem dL_law_434 : decode cL_law 434 = .ok (.iadd, 1) := by decide +kernel
theorem dL_law_435 : decode cL_law 435 = .ok (.iaload, 1) := by decide +kernel
theorem dL_law_436 : decode cL_law 436 = .ok (.invokevirtual 49, 3) := by decide +kernel
theorem dL_law_439 : decode cL_law 439 = .ok (.aload_n 2, 1) := by decide +kernel
theorem dL_law_440 : decode cL_law 440 = .ok (.aload_n 0, 1) := by decide +kernel
theorem dL_law_441 : decode cL_law 441 = .ok (.iload_n 3, 1) := by decide +kernel
theorem dL_law_442 : decode cL_law 442 = .ok (.iconst 1, 1) := by decide +kernel
theorem dL_law_443 : decode cL_law 443 = .ok (.iadd, 1) := by decide +kernel
theorem dL_law_444 : decode cL_law 444 = .ok (.iaload, 1) := by decide +kernel
theorem dL_law_445 : decode cL_law 445 = .ok (.aload_n 0, 1) := by decide +kernel
theorem dL_law_446 : decode cL_law 446 = .ok (.iload_n 3, 1) := by decide +kernel
theorem dL_law_447 : decode cL_law 447 = .ok (.iconst 2, 1) := by decide +kernel
theorem dL_law_448 : decode cL_law 448 = .ok (.iadd, 1) := by decide +kernel
theorem dL_law_449 : decode cL_law 449 = .ok (.iaload, 1) := by decide +kernel
theorem dL_law_450 : decode cL_law 450 = .ok (.aload_n 0, 1) := by decide +kernel
theorem dL_law_451 : decode cL_law 451 = .ok (.iload_n 3, 1) := by decide +kernel
theorem dL_law_452 : decode cL_law 452 = .ok (.iconst 3, 1) := by decide +kernel
theorem dL_law_453 : decode cL_law 453 = .ok (.iadd, 1) := by decide +kernel
theorem dL_law_454 : decode cL_law 454 = .ok (.iaload, 1) := by decide +kernel
theorem dL_law_455 : decode cL_law 455 = .ok (.invokevirtual 52, 3) := by decide +kernel
theorem dL_law_458 : decode cL_law 458 = .ok (.if_icmp .eq 685, 3) := by decide +kernel
theorem dL_law_461 : decode cL_law 461 = .ok (.iconst 0, 1) := by decide +kernel
theorem dL_law_462 : decode cL_law 462 = .ok (.ireturn, 1) := by decide +kernel
theorem dL_law_463 : decode cL_law 463 = .ok (.aload_n 1, 1) := by decide +kernel
theorem dL_law_464 : decode cL_law 464 = .ok (.aload_n 0, 1) := by decide +kernel
theorem dL_law_465 : decode cL_law 465 = .ok (.iload_n 3, 1) := by decide +kernel
theorem dL_law_466 : decode cL_law 466 = .ok (.iconst 1, 1) := by decide +kernel
theorem dL_law_467 : decode cL_law 467 = .ok (.iadd, 1) := by decide +kernel
theorem dL_law_468 : decode cL_law 468 = .ok (.iaload, 1) := by decide +kernel
theorem dL_law_469 : decode cL_law 469 = .ok (.aload_n 0, 1) := by decide +kernel
theorem dL_law_470 : decode cL_law 470 = .ok (.iload_n 3, 1) := by decide +kernel
theorem dL_law_471 : decode cL_law 471 = .ok (.iconst 2, 1) := by decide +kernel
theorem dL_law_472 : decode cL_law 472 = .ok (.iadd, 1) := by decide +kernel
theorem dL_law_473 : decode cL_law 473 = .ok (.iaload, 1) := by decide +kernel
theorem dL_law_474 : decode cL_law 474 = .ok (.aload_n 0, 1) := by decide +kernel
theorem dL_law_475 : decode cL_law 475 = .ok (.iload_n 3, 1) := by decide +kernel
theorem dL_law_476 : decode cL_law 476 = .ok (.iconst 3, 1) := by decide +kernel
theorem dL_law_477 : decode cL_law 477 = .ok (.iadd, 1) := by decide +kernel
theorem dL_law_478 : decode cL_law 478 = .ok (.iaload, 1) := by decide +kernel
theorem dL_law_479 : decode cL_law 479 = .ok (.invokevirtual 53, 3) := by decide +kernel
theorem dL_law_482 : decode cL_law 482 = .ok (.aload_n 2, 1) := by decide +kernel
theorem dL_law_483 : decode cL_law 483 = .ok (.aload_n 0, 1) := by decide +kernel
theorem dL_law_484 : decode cL_law 484 = .ok (.iload_n 3, 1) := by decide +kernel
theorem dL_law_485 : decode cL_law 485 = .ok (.iconst 1, 1) := by decide +kernel
theorem dL_law_486 : decode cL_law 486 = .ok (.iadd, 1) := by decide +kernel
theorem dL_law_487 : decode cL_law 487 = .ok (.iaload, 1) := by decide +kernel
theorem dL_law_488 : decode cL_law 488 = .ok (.aload_n 0, 1) := by decide +kernel
theorem dL_law_489 : decode cL_law 489 = .ok (.iload_n 3, 1) := by decide +kernel
theorem dL_law_490 : decode cL_law 490 = .ok (.iconst 2, 1) := by decide +kernel
theorem dL_law_491 : decode cL_law 491 = .ok (.iadd, 1) := by decide +kernel
theorem dL_law_492 : decode cL_law 492 = .ok (.iaload, 1) := by decide +kernel
theorem dL_law_493 : decode cL_law 493 = .ok (.aload_n 0, 1) := by decide +kernel
theorem dL_law_494 : decode cL_law 494 = .ok (.iload_n 3, 1) := by decide +kernel
theorem dL_law_495 : decode cL_law 495 = .ok (.iconst 3, 1) := by decide +kernel
theorem dL_law_496 : decode cL_law 496 = .ok (.iadd, 1) := by decide +kernel
theorem dL_law_497 : decode cL_law 497 = .ok (.iaload, 1) := by decide +kernel
theorem dL_law_498 : decode cL_law 498 = .ok (.invokevirtual 56, 3) := by decide +kernel
theorem dL_law_501 : decode cL_law 501 = .ok (.if_icmp .eq 642, 3) := by decide +kernel
theorem dL_law_504 : decode cL_law 504 = .ok (.iconst 0, 1) := by decide +kernel
theorem dL_law_505 : decode cL_law 505 = .ok (.ireturn, 1) := by decide +kernel
theorem dL_law_506 : decode cL_law 506 = .ok (.aload_n 1, 1) := by decide +kernel
theorem dL_law_507 : decode cL_law 507 = .ok (.aload_n 0, 1) := by decide +kernel
theorem dL_law_508 : decode cL_law 508 = .ok (.iload_n 3, 1) := by decide +kernel
theorem dL_law_509 : decode cL_law 509 = .ok (.iconst 1, 1) := by decide +kernel
theorem dL_law_510 : decode cL_law 510 = .ok (.iadd, 1) := by decide +kernel
theorem dL_law_511 : decode cL_law 511 = .ok (.iaload, 1) := by decide +kernel
theorem dL_law_512 : decode cL_law 512 = .ok (.aload_n 0, 1) := by decide +kernel
theorem dL_law_513 : decode cL_law 513 = .ok (.iload_n 3, 1) := by decide +kernel
theorem dL_law_514 : decode cL_law 514 = .ok (.iconst 2, 1) := by decide +kernel
theorem dL_law_515 : decode cL_law 515 = .ok (.iadd, 1) := by decide +kernel
theorem dL_law_516 : decode cL_law 516 = .ok (.iaload, 1) := by decide +kernel
theorem dL_law_517 : decode cL_law 517 = .ok (.aload_n 0, 1) := by decide +kernel
theorem dL_law_518 : decode cL_law 518 = .ok (.iload_n 3, 1) := by decide +kernel
theorem dL_law_519 : decode cL_law 519 = .ok (.iconst 3, 1) := by decide +kernel
theorem dL_law_520 : decode cL_law 520 = .ok (.iadd, 1) := by decide +kernel
theorem dL_law_521 : decode cL_law 521 = .ok (.iaload, 1) := by decide +kernel
theorem dL_law_522 : decode cL_law 522 = .ok (.aload_n 0, 1) := by decide +kernel
theorem dL_law_523 : decode cL_law 523 = .ok (.iload_n 3, 1) := by decide +kernel
theorem dL_law_524 : decode cL_law 524 = .ok (.iconst 4, 1) := by decide +kernel
theorem dL_law_525 : decode cL_law 525 = .ok (.iadd, 1) := by decide +kernel
theorem dL_law_526 : decode cL_law 526 = .ok (.iaload, 1) := by decide +kernel
theorem dL_law_527 : decode cL_law 527 = .ok (.invokevirtual 57, 3) := by decide +kernel
theorem dL_law_530 : decode cL_law 530 = .ok (.aload_n 2, 1) := by decide +kernel
theorem dL_law_531 : decode cL_law 531 = .ok (.aload_n 0, 1) := by decide +kernel
theorem dL_law_532 : decode cL_law 532 = .ok (.iload_n 3, 1) := by decide +kernel
theorem dL_law_533 : decode cL_law 533 = .ok (.iconst 1, 1) := by decide +kernel
theorem dL_law_534 : decode cL_law 534 = .ok (.iadd, 1) := by decide +kernel
theorem dL_law_535 : decode cL_law 535 = .ok (.iaload, 1) := by decide +kernel
theorem dL_law_536 : decode cL_law 536 = .ok (.aload_n 0, 1) := by decide +kernel
theorem dL_law_537 : decode cL_law 537 = .ok (.iload_n 3, 1) := by decide +kernel
theorem dL_law_538 : decode cL_law 538 = .ok (.iconst 2, 1) := by decide +kernel
theorem dL_law_539 : decode cL_law 539 = .ok (.iadd, 1) := by decide +kernel
theorem dL_law_540 : decode cL_law 540 = .ok (.iaload, 1) := by decide +kernel
theorem dL_law_541 : decode cL_law 541 = .ok (.aload_n 0, 1) := by decide +kernel
theorem dL_law_542 : decode cL_law 542 = .ok (.iload_n 3, 1) := by decide +kernel
theorem dL_law_543 : decode cL_law 543 = .ok (.iconst 3, 1) := by decide +kernel
theorem dL_law_544 : decode cL_law 544 = .ok (.iadd, 1) := by decide +kernel
theorem dL_law_545 : decode cL_law 545 = .ok (.iaload, 1) := by decide +kernel
theorem dL_law_546 : decode cL_law 546 = .ok (.aload_n 0, 1) := by decide +kernel
theorem dL_law_547 : decode cL_law 547 = .ok (.iload_n 3, 1) := by decide +kernel
theorem dL_law_548 : decode cL_law 548 = .ok (.iconst 4, 1) := by decide +kernel
theorem dL_law_549 : decode cL_law 549 = .ok (.iadd, 1) := by decide +kernel
theorem dL_law_550 : decode cL_law 550 = .ok (.iaload, 1) := by decide +kernel
theorem dL_law_551 : decode cL_law 551 = .ok (.invokevirtual 61, 3) := by decide +kernel
theorem dL_law_554 : decode cL_law 554 = .ok (.if_icmp .eq 589, 3) := by decide +kernel
theorem dL_law_557 : decode cL_law 557 = .ok (.iconst 0, 1) := by decide +kernel
theorem dL_law_558 : decode cL_law 558 = .ok (.ireturn, 1) := by decide +kernel
theorem dL_law_559 : decode cL_law 559 = .ok (.aload_n 1, 1) := by decide +kernel
theorem dL_law_560 : decode cL_law 560 = .ok (.aload_n 0, 1) := by decide +kernel
theorem dL_law_561 : decode cL_law 561 = .ok (.iload_n 3, 1) := by decide +kernel
theorem dL_law_562 : decode cL_law 562 = .ok (.iconst 1, 1) := by decide +kernel
theorem dL_law_563 : decode cL_law 563 = .ok (.iadd, 1) := by decide +kernel
theorem dL_law_564 : decode cL_law 564 = .ok (.iaload, 1) := by decide +kernel
theorem dL_law_565 : decode cL_law 565 = .ok (.aload_n 0, 1) := by decide +kernel
theorem dL_law_566 : decode cL_law 566 = .ok (.iload_n 3, 1) := by decide +kernel
theorem dL_law_567 : decode cL_law 567 = .ok (.iconst 2, 1) := by decide +kernel
theorem dL_law_568 : decode cL_law 568 = .ok (.iadd, 1) := by decide +kernel
theorem dL_law_569 : decode cL_law 569 = .ok (.iaload, 1) := by decide +kernel
theorem dL_law_570 : decode cL_law 570 = .ok (.invokevirtual 62, 3) := by decide +kernel
theorem dL_law_573 : decode cL_law 573 = .ok (.aload_n 2, 1) := by decide +kernel
theorem dL_law_574 : decode cL_law 574 = .ok (.aload_n 0, 1) := by decide +kernel
theorem dL_law_575 : decode cL_law 575 = .ok (.iload_n 3, 1) := by decide +kernel
theorem dL_law_576 : decode cL_law 576 = .ok (.iconst 1, 1) := by decide +kernel
theorem dL_law_577 : decode cL_law 577 = .ok (.iadd, 1) := by decide +kernel
theorem dL_law_578 : decode cL_law 578 = .ok (.iaload, 1) := by decide +kernel
theorem dL_law_579 : decode cL_law 579 = .ok (.aload_n 0, 1) := by decide +kernel
theorem dL_law_580 : decode cL_law 580 = .ok (.iload_n 3, 1) := by decide +kernel
theorem dL_law_581 : decode cL_law 581 = .ok (.iconst 2, 1) := by decide +kernel
theorem dL_law_582 : decode cL_law 582 = .ok (.iadd, 1) := by decide +kernel
theorem dL_law_583 : decode cL_law 583 = .ok (.iaload, 1) := by decide +kernel
theorem dL_law_584 : decode cL_law 584 = .ok (.invokevirtual 65, 3) := by decide +kernel
theorem dL_law_587 : decode cL_law 587 = .ok (.if_icmp .eq 556, 3) := by decide +kernel
theorem dL_law_590 : decode cL_law 590 = .ok (.iconst 0, 1) := by decide +kernel
theorem dL_law_591 : decode cL_law 591 = .ok (.ireturn, 1) := by decide +kernel
theorem dL_law_592 : decode cL_law 592 = .ok (.aload_n 1, 1) := by decide +kernel
theorem dL_law_593 : decode cL_law 593 = .ok (.aload_n 0, 1) := by decide +kernel
theorem dL_law_594 : decode cL_law 594 = .ok (.iload_n 3, 1) := by decide +kernel
theorem dL_law_595 : decode cL_law 595 = .ok (.iconst 1, 1) := by decide +kernel
theorem dL_law_596 : decode cL_law 596 = .ok (.iadd, 1) := by decide +kernel
theorem dL_law_597 : decode cL_law 597 = .ok (.iaload, 1) := by decide +kernel
theorem dL_law_598 : decode cL_law 598 = .ok (.invokevirtual 66, 3) := by decide +kernel
theorem dL_law_601 : decode cL_law 601 = .ok (.aload_n 2, 1) := by decide +kernel
theorem dL_law_602 : decode cL_law 602 = .ok (.aload_n 0, 1) := by decide +kernel
theorem dL_law_603 : decode cL_law 603 = .ok (.iload_n 3, 1) := by decide +kernel
theorem dL_law_604 : decode cL_law 604 = .ok (.iconst 1, 1) := by decide +kernel
theorem dL_law_605 : decode cL_law 605 = .ok (.iadd, 1) := by decide +kernel
theorem dL_law_606 : decode cL_law 606 = .ok (.iaload, 1) := by decide +kernel
theorem dL_law_607 : decode cL_law 607 = .ok (.invokevirtual 69, 3) := by decide +kernel
theorem dL_law_610 : decode cL_law 610 = .ok (.if_icmp .eq 533, 3) := by decide +kernel
theorem dL_law_613 : decode cL_law 613 = .ok (.iconst 0, 1) := by decide +kernel
theorem dL_law_614 : decode cL_law 614 = .ok (.ireturn, 1) := by decide +kernel
theorem dL_law_615 : decode cL_law 615 = .ok (.aload_n 1, 1) := by decide +kernel
theorem dL_law_616 : decode cL_law 616 = .ok (.aload_n 0, 1) := by decide +kernel
theorem dL_law_617 : decode cL_law 617 = .ok (.iload_n 3, 1) := by decide +kernel
theorem dL_law_618 : decode cL_law 618 = .ok (.iconst 1, 1) := by decide +kernel
theorem dL_law_619 : decode cL_law 619 = .ok (.iadd, 1) := by decide +kernel
theorem dL_law_620 : decode cL_law 620 = .ok (.iaload, 1) := by decide +kernel
theorem dL_law_621 : decode cL_law 621 = .ok (.invokevirtual 70, 3) := by decide +kernel
theorem dL_law_624 : decode cL_law 624 = .ok (.aload_n 2, 1) := by decide +kernel
theorem dL_law_625 : decode cL_law 625 = .ok (.aload_n 0, 1) := by decide +kernel
theorem dL_law_626 : decode cL_law 626 = .ok (.iload_n 3, 1) := by decide +kernel
theorem dL_law_627 : decode cL_law 627 = .ok (.iconst 1, 1) := by decide +kernel
theorem dL_law_628 : decode cL_law 628 = .ok (.iadd, 1) := by decide +kernel
theorem dL_law_629 : decode cL_law 629 = .ok (.iaload, 1) := by decide +kernel
theorem dL_law_630 : decode cL_law 630 = .ok (.invokevirtual 73, 3) := by decide +kernel
theorem dL_law_633 : decode cL_law 633 = .ok (.if_icmp .eq 510, 3) := by decide +kernel
theorem dL_law_636 : decode cL_law 636 = .ok (.iconst 0, 1) := by decide +kernel
theorem dL_law_637 : decode cL_law 637 = .ok (.ireturn, 1) := by decide +kernel
theorem dL_law_638 : decode cL_law 638 = .ok (.aload_n 1, 1) := by decide +kernel
theorem dL_law_639 : decode cL_law 639 = .ok (.invokevirtual 74, 3) := by decide +kernel
theorem dL_law_642 : decode cL_law 642 = .ok (.aload_n 2, 1) := by decide +kernel
theorem dL_law_643 : decode cL_law 643 = .ok (.invokevirtual 77, 3) := by decide +kernel
theorem dL_law_646 : decode cL_law 646 = .ok (.if_icmp .eq 497, 3) := by decide +kernel
theorem dL_law_649 : decode cL_law 649 = .ok (.iconst 0, 1) := by decide +kernel
theorem dL_law_650 : decode cL_law 650 = .ok (.ireturn, 1) := by decide +kernel
theorem dL_law_651 : decode cL_law 651 = .ok (.aload_n 1, 1) := by decide +kernel
theorem dL_law_652 : decode cL_law 652 = .ok (.aload_n 0, 1) := by decide +kernel
theorem dL_law_653 : decode cL_law 653 = .ok (.iload_n 3, 1) := by decide +kernel
theorem dL_law_654 : decode cL_law 654 = .ok (.iconst 1, 1) := by decide +kernel
theorem dL_law_655 : decode cL_law 655 = .ok (.iadd, 1) := by decide +kernel
theorem dL_law_656 : decode cL_law 656 = .ok (.iaload, 1) := by decide +kernel
theorem dL_law_657 : decode cL_law 657 = .ok (.aload_n 0, 1) := by decide +kernel
theorem dL_law_658 : decode cL_law 658 = .ok (.iload_n 3, 1) := by decide +kernel
theorem dL_law_659 : decode cL_law 659 = .ok (.iconst 2, 1) := by decide +kernel
theorem dL_law_660 : decode cL_law 660 = .ok (.iadd, 1) := by decide +kernel
theorem dL_law_661 : decode cL_law 661 = .ok (.iaload, 1) := by decide +kernel
theorem dL_law_662 : decode cL_law 662 = .ok (.invokevirtual 78, 3) := by decide +kernel
theorem dL_law_665 : decode cL_law 665 = .ok (.aload_n 2, 1) := by decide +kernel
theorem dL_law_666 : decode cL_law 666 = .ok (.aload_n 0, 1) := by decide +kernel
theorem dL_law_667 : decode cL_law 667 = .ok (.iload_n 3, 1) := by decide +kernel
theorem dL_law_668 : decode cL_law 668 = .ok (.iconst 1, 1) := by decide +kernel
theorem dL_law_669 : decode cL_law 669 = .ok (.iadd, 1) := by decide +kernel
theorem dL_law_670 : decode cL_law 670 = .ok (.iaload, 1) := by decide +kernel
theorem dL_law_671 : decode cL_law 671 = .ok (.aload_n 0, 1) := by decide +kernel
theorem dL_law_672 : decode cL_law 672 = .ok (.iload_n 3, 1) := by decide +kernel
theorem dL_law_673 : decode cL_law 673 = .ok (.iconst 2, 1) := by decide +kernel
theorem dL_law_674 : decode cL_law 674 = .ok (.iadd, 1) := by decide +kernel
theorem dL_law_675 : decode cL_law 675 = .ok (.iaload, 1) := by decide +kernel
theorem dL_law_676 : decode cL_law 676 = .ok (.invokevirtual 81, 3) := by decide +kernel
theorem dL_law_679 : decode cL_law 679 = .ok (.if_icmp .eq 464, 3) := by decide +kernel
theorem dL_law_682 : decode cL_law 682 = .ok (.iconst 0, 1) := by decide +kernel
theorem dL_law_683 : decode cL_law 683 = .ok (.ireturn, 1) := by decide +kernel
theorem dL_law_684 : decode cL_law 684 = .ok (.aload_n 1, 1) := by decide +kernel
theorem dL_law_685 : decode cL_law 685 = .ok (.aload_n 0, 1) := by decide +kernel
theorem dL_law_686 : decode cL_law 686 = .ok (.iload_n 3, 1) := by decide +kernel
theorem dL_law_687 : decode cL_law 687 = .ok (.iconst 1, 1) := by decide +kernel
theorem dL_law_688 : decode cL_law 688 = .ok (.iadd, 1) := by decide +kernel
theorem dL_law_689 : decode cL_law 689 = .ok (.iaload, 1) := by decide +kernel
theorem dL_law_690 : decode cL_law 690 = .ok (.invokevirtual 82, 3) := by decide +kernel
theorem dL_law_693 : decode cL_law 693 = .ok (.aload_n 2, 1) := by decide +kernel
theorem dL_law_694 : decode cL_law 694 = .ok (.aload_n 0, 1) := by decide +kernel
theorem dL_law_695 : decode cL_law 695 = .ok (.iload_n 3, 1) := by decide +kernel
theorem dL_law_696 : decode cL_law 696 = .ok (.iconst 1, 1) := by decide +kernel
theorem dL_law_697 : decode cL_law 697 = .ok (.iadd, 1) := by decide +kernel
theorem dL_law_698 : decode cL_law 698 = .ok (.iaload, 1) := by decide +kernel
theorem dL_law_699 : decode cL_law 699 = .ok (.invokevirtual 85, 3) := by decide +kernel
theorem dL_law_702 : decode cL_law 702 = .ok (.if_icmp .eq 441, 3) := by decide +kernel
theorem dL_law_705 : decode cL_law 705 = .ok (.iconst 0, 1) := by decide +kernel
theorem dL_law_706 : decode cL_law 706 = .ok (.ireturn, 1) := by decide +kernel
theorem dL_law_707 : decode cL_law 707 = .ok (.aload_n 1, 1) := by decide +kernel
theorem dL_law_708 : decode cL_law 708 = .ok (.aload_n 0, 1) := by decide +kernel
theorem dL_law_709 : decode cL_law 709 = .ok (.iload_n 3, 1) := by decide +kernel
theorem dL_law_710 : decode cL_law 710 = .ok (.iconst 1, 1) := by decide +kernel
theorem dL_law_711 : decode cL_law 711 = .ok (.iadd, 1) := by decide +kernel
theorem dL_law_712 : decode cL_law 712 = .ok (.iaload, 1) := by decide +kernel
theorem dL_law_713 : decode cL_law 713 = .ok (.invokevirtual 86, 3) := by decide +kernel
theorem dL_law_716 : decode cL_law 716 = .ok (.aload_n 2, 1) := by decide +kernel
theorem dL_law_717 : decode cL_law 717 = .ok (.aload_n 0, 1) := by decide +kernel
theorem dL_law_718 : decode cL_law 718 = .ok (.iload_n 3, 1) := by decide +kernel
theorem dL_law_719 : decode cL_law 719 = .ok (.iconst 1, 1) := by decide +kernel
theorem dL_law_720 : decode cL_law 720 = .ok (.iadd, 1) := by decide +kernel
theorem dL_law_721 : decode cL_law 721 = .ok (.iaload, 1) := by decide +kernel
theorem dL_law_722 : decode cL_law 722 = .ok (.invokevirtual 89, 3) := by decide +kernel
theorem dL_law_725 : decode cL_law 725 = .ok (.if_icmp .eq 418, 3) := by decide +kernel
theorem dL_law_728 : decode cL_law 728 = .ok (.iconst 0, 1) := by decide +kernel
theorem dL_law_729 : decode cL_law 729 = .ok (.ireturn, 1) := by decide +kernel
theorem dL_law_730 : decode cL_law 730 = .ok (.aload_n 1, 1) := by decide +kernel
theorem dL_law_731 : decode cL_law 731 = .ok (.aload_n 0, 1) := by decide +kernel
theorem dL_law_732 : decode cL_law 732 = .ok (.iload_n 3, 1) := by decide +kernel
theorem dL_law_733 : decode cL_law 733 = .ok (.iconst 1, 1) := by decide +kernel
theorem dL_law_734 : decode cL_law 734 = .ok (.iadd, 1) := by decide +kernel
theorem dL_law_735 : decode cL_law 735 = .ok (.iaload, 1) := by decide +kernel
theorem dL_law_736 : decode cL_law 736 = .ok (.invokevirtual 90, 3) := by decide +kernel
theorem dL_law_739 : decode cL_law 739 = .ok (.aload_n 2, 1) := by decide +kernel
theorem dL_law_740 : decode cL_law 740 = .ok (.aload_n 0, 1) := by decide +kernel
theorem dL_law_741 : decode cL_law 741 = .ok (.iload_n 3, 1) := by decide +kernel
theorem dL_law_742 : decode cL_law 742 = .ok (.iconst 1, 1) := by decide +kernel
theorem dL_law_743 : decode cL_law 743 = .ok (.iadd, 1) := by decide +kernel
theorem dL_law_744 : decode cL_law 744 = .ok (.iaload, 1) := by decide +kernel
theorem dL_law_745 : decode cL_law 745 = .ok (.invokevirtual 93, 3) := by decide +kernel
theorem dL_law_748 : decode cL_law 748 = .ok (.if_icmp .eq 395, 3) := by decide +kernel
theorem dL_law_751 : decode cL_law 751 = .ok (.iconst 0, 1) := by decide +kernel
theorem dL_law_752 : decode cL_law 752 = .ok (.ireturn, 1) := by decide +kernel
theorem dL_law_753 : decode cL_law 753 = .ok (.aload_n 1, 1) := by decide +kernel
theorem dL_law_754 : decode cL_law 754 = .ok (.aload_n 0, 1) := by decide +kernel
theorem dL_law_755 : decode cL_law 755 = .ok (.iload_n 3, 1) := by decide +kernel
theorem dL_law_756 : decode cL_law 756 = .ok (.iconst 1, 1) := by decide +kernel
theorem dL_law_757 : decode cL_law 757 = .ok (.iadd, 1) := by decide +kernel
theorem dL_law_758 : decode cL_law 758 = .ok (.iaload, 1) := by decide +kernel
theorem dL_law_759 : decode cL_law 759 = .ok (.invokevirtual 94, 3) := by decide +kernel
theorem dL_law_762 : decode cL_law 762 = .ok (.aload_n 2, 1) := by decide +kernel
theorem dL_law_763 : decode cL_law 763 = .ok (.aload_n 0, 1) := by decide +kernel
theorem dL_law_764 : decode cL_law 764 = .ok (.iload_n 3, 1) := by decide +kernel
theorem dL_law_765 : decode cL_law 765 = .ok (.iconst 1, 1) := by decide +kernel
theorem dL_law_766 : decode cL_law 766 = .ok (.iadd, 1) := by decide +kernel
theorem dL_law_767 : decode cL_law 767 = .ok (.iaload, 1) := by decide +kernel
theorem dL_law_768 : decode cL_law 768 = .ok (.invokevirtual 97, 3) := by decide +kernel
theorem dL_law_771 : decode cL_law 771 = .ok (.if_icmp .eq 372, 3) := by decide +kernel
theorem dL_law_774 : decode cL_law 774 = .ok (.iconst 0, 1) := by decide +kernel
theorem dL_law_775 : decode cL_law 775 = .ok (.ireturn, 1) := by decide +kernel
theorem dL_law_776 : decode cL_law 776 = .ok (.aload_n 1, 1) := by decide +kernel
theorem dL_law_777 : decode cL_law 777 = .ok (.aload_n 0, 1) := by decide +kernel
theorem dL_law_778 : decode cL_law 778 = .ok (.iload_n 3, 1) := by decide +kernel
theorem dL_law_779 : decode cL_law 779 = .ok (.iconst 1, 1) := by decide +kernel
theorem dL_law_780 : decode cL_law 780 = .ok (.iadd, 1) := by decide +kernel
theorem dL_law_781 : decode cL_law 781 = .ok (.iaload, 1) := by decide +kernel
theorem dL_law_782 : decode cL_law 782 = .ok (.aload_n 0, 1) := by decide +kernel
theorem dL_law_783 : decode cL_law 783 = .ok (.iload_n 3, 1) := by decide +kernel
theorem dL_law_784 : decode cL_law 784 = .ok (.iconst 2, 1) := by decide +kernel
theorem dL_law_785 : decode cL_law 785 = .ok (.iadd, 1) := by decide +kernel
theorem dL_law_786 : decode cL_law 786 = .ok (.iaload, 1) := by decide +kernel
theorem dL_law_787 : decode cL_law 787 = .ok (.aload_n 0, 1) := by decide +kernel
theorem dL_law_788 : decode cL_law 788 = .ok (.iload_n 3, 1) := by decide +kernel
theorem dL_law_789 : decode cL_law 789 = .ok (.iconst 3, 1) := by decide +kernel
theorem dL_law_790 : decode cL_law 790 = .ok (.iadd, 1) := by decide +kernel
theorem dL_law_791 : decode cL_law 791 = .ok (.iaload, 1) := by decide +kernel
theorem dL_law_792 : decode cL_law 792 = .ok (.invokevirtual 98, 3) := by decide +kernel
theorem dL_law_795 : decode cL_law 795 = .ok (.aload_n 2, 1) := by decide +kernel
theorem dL_law_796 : decode cL_law 796 = .ok (.aload_n 0, 1) := by decide +kernel
theorem dL_law_797 : decode cL_law 797 = .ok (.iload_n 3, 1) := by decide +kernel
theorem dL_law_798 : decode cL_law 798 = .ok (.iconst 1, 1) := by decide +kernel
theorem dL_law_799 : decode cL_law 799 = .ok (.iadd, 1) := by decide +kernel
theorem dL_law_800 : decode cL_law 800 = .ok (.iaload, 1) := by decide +kernel
theorem dL_law_801 : decode cL_law 801 = .ok (.aload_n 0, 1) := by decide +kernel
theorem dL_law_802 : decode cL_law 802 = .ok (.iload_n 3, 1) := by decide +kernel
theorem dL_law_803 : decode cL_law 803 = .ok (.iconst 2, 1) := by decide +kernel
theorem dL_law_804 : decode cL_law 804 = .ok (.iadd, 1) := by decide +kernel
theorem dL_law_805 : decode cL_law 805 = .ok (.iaload, 1) := by decide +kernel
theorem dL_law_806 : decode cL_law 806 = .ok (.aload_n 0, 1) := by decide +kernel
theorem dL_law_807 : decode cL_law 807 = .ok (.iload_n 3, 1) := by decide +kernel
theorem dL_law_808 : decode cL_law 808 = .ok (.iconst 3, 1) := by decide +kernel
theorem dL_law_809 : decode cL_law 809 = .ok (.iadd, 1) := by decide +kernel
theorem dL_law_810 : decode cL_law 810 = .ok (.iaload, 1) := by decide +kernel
theorem dL_law_811 : decode cL_law 811 = .ok (.invokevirtual 101, 3) := by decide +kernel
theorem dL_law_814 : decode cL_law 814 = .ok (.if_icmp .eq 329, 3) := by decide +kernel
theorem dL_law_817 : decode cL_law 817 = .ok (.iconst 0, 1) := by decide +kernel
theorem dL_law_818 : decode cL_law 818 = .ok (.ireturn, 1) := by decide +kernel
theorem dL_law_819 : decode cL_law 819 = .ok (.aload_n 1, 1) := by decide +kernel
theorem dL_law_820 : decode cL_law 820 = .ok (.aload_n 0, 1) := by decide +kernel
theorem dL_law_821 : decode cL_law 821 = .ok (.iload_n 3, 1) := by decide +kernel
theorem dL_law_822 : decode cL_law 822 = .ok (.iconst 1, 1) := by decide +kernel
theorem dL_law_823 : decode cL_law 823 = .ok (.iadd, 1) := by decide +kernel
theorem dL_law_824 : decode cL_law 824 = .ok (.iaload, 1) := by decide +kernel
theorem dL_law_825 : decode cL_law 825 = .ok (.aload_n 0, 1) := by decide +kernel
theorem dL_law_826 : decode cL_law 826 = .ok (.iload_n 3, 1) := by decide +kernel
theorem dL_law_827 : decode cL_law 827 = .ok (.iconst 2, 1) := by decide +kernel
theorem dL_law_828 : decode cL_law 828 = .ok (.iadd, 1) := by decide +kernel
theorem dL_law_829 : decode cL_law 829 = .ok (.iaload, 1) := by decide +kernel
theorem dL_law_830 : decode cL_law 830 = .ok (.aload_n 0, 1) := by decide +kernel
theorem dL_law_831 : decode cL_law 831 = .ok (.iload_n 3, 1) := by decide +kernel
theorem dL_law_832 : decode cL_law 832 = .ok (.iconst 3, 1) := by decide +kernel
theorem dL_law_833 : decode cL_law 833 = .ok (.iadd, 1) := by decide +kernel
theorem dL_law_834 : decode cL_law 834 = .ok (.iaload, 1) := by decide +kernel
theorem dL_law_835 : decode cL_law 835 = .ok (.invokevirtual 102, 3) := by decide +kernel
theorem dL_law_838 : decode cL_law 838 = .ok (.aload_n 2, 1) := by decide +kernel
theorem dL_law_839 : decode cL_law 839 = .ok (.aload_n 0, 1) := by decide +kernel
theorem dL_law_840 : decode cL_law 840 = .ok (.iload_n 3, 1) := by decide +kernel
theorem dL_law_841 : decode cL_law 841 = .ok (.iconst 1, 1) := by decide +kernel
theorem dL_law_842 : decode cL_law 842 = .ok (.iadd, 1) := by decide +kernel
theorem dL_law_843 : decode cL_law 843 = .ok (.iaload, 1) := by decide +kernel
theorem dL_law_844 : decode cL_law 844 = .ok (.aload_n 0, 1) := by decide +kernel
theorem dL_law_845 : decode cL_law 845 = .ok (.iload_n 3, 1) := by decide +kernel
theorem dL_law_846 : decode cL_law 846 = .ok (.iconst 2, 1) := by decide +kernel
theorem dL_law_847 : decode cL_law 847 = .ok (.iadd, 1) := by decide +kernel
theorem dL_law_848 : decode cL_law 848 = .ok (.iaload, 1) := by decide +kernel
theorem dL_law_849 : decode cL_law 849 = .ok (.aload_n 0, 1) := by decide +kernel
theorem dL_law_850 : decode cL_law 850 = .ok (.iload_n 3, 1) := by decide +kernel
theorem dL_law_851 : decode cL_law 851 = .ok (.iconst 3, 1) := by decide +kernel
theorem dL_law_852 : decode cL_law 852 = .ok (.iadd, 1) := by decide +kernel
theorem dL_law_853 : decode cL_law 853 = .ok (.iaload, 1) := by decide +kernel
theorem dL_law_854 : decode cL_law 854 = .ok (.invokevirtual 105, 3) := by decide +kernel
theorem dL_law_857 : decode cL_law 857 = .ok (.if_icmp .eq 286, 3) := by decide +kernel
theorem dL_law_860 : decode cL_law 860 = .ok (.iconst 0, 1) := by decide +kernel
theorem dL_law_861 : decode cL_law 861 = .ok (.ireturn, 1) := by decide +kernel
theorem dL_law_862 : decode cL_law 862 = .ok (.aload_n 1, 1) := by decide +kernel
theorem dL_law_863 : decode cL_law 863 = .ok (.aload_n 0, 1) := by decide +kernel
theorem dL_law_864 : decode cL_law 864 = .ok (.iload_n 3, 1) := by decide +kernel
theorem dL_law_865 : decode cL_law 865 = .ok (.iconst 1, 1) := by decide +kernel
theorem dL_law_866 : decode cL_law 866 = .ok (.iadd, 1) := by decide +kernel
theorem dL_law_867 : decode cL_law 867 = .ok (.iaload, 1) := by decide +kernel
theorem dL_law_868 : decode cL_law 868 = .ok (.invokevirtual 106, 3) := by decide +kernel
theorem dL_law_871 : decode cL_law 871 = .ok (.aload_n 2, 1) := by decide +kernel
theorem dL_law_872 : decode cL_law 872 = .ok (.aload_n 0, 1) := by decide +kernel
theorem dL_law_873 : decode cL_law 873 = .ok (.iload_n 3, 1) := by decide +kernel
theorem dL_law_874 : decode cL_law 874 = .ok (.iconst 1, 1) := by decide +kernel
theorem dL_law_875 : decode cL_law 875 = .ok (.iadd, 1) := by decide +kernel
theorem dL_law_876 : decode cL_law 876 = .ok (.iaload, 1) := by decide +kernel
theorem dL_law_877 : decode cL_law 877 = .ok (.invokevirtual 109, 3) := by decide +kernel
theorem dL_law_880 : decode cL_law 880 = .ok (.if_icmp .eq 263, 3) := by decide +kernel
theorem dL_law_883 : decode cL_law 883 = .ok (.iconst 0, 1) := by decide +kernel
theorem dL_law_884 : decode cL_law 884 = .ok (.ireturn, 1) := by decide +kernel
theorem dL_law_885 : decode cL_law 885 = .ok (.aload_n 1, 1) := by decide +kernel
theorem dL_law_886 : decode cL_law 886 = .ok (.aload_n 0, 1) := by decide +kernel
theorem dL_law_887 : decode cL_law 887 = .ok (.iload_n 3, 1) := by decide +kernel
theorem dL_law_888 : decode cL_law 888 = .ok (.iconst 1, 1) := by decide +kernel
theorem dL_law_889 : decode cL_law 889 = .ok (.iadd, 1) := by decide +kernel
theorem dL_law_890 : decode cL_law 890 = .ok (.iaload, 1) := by decide +kernel
theorem dL_law_891 : decode cL_law 891 = .ok (.aload_n 0, 1) := by decide +kernel
theorem dL_law_892 : decode cL_law 892 = .ok (.iload_n 3, 1) := by decide +kernel
theorem dL_law_893 : decode cL_law 893 = .ok (.iconst 2, 1) := by decide +kernel
theorem dL_law_894 : decode cL_law 894 = .ok (.iadd, 1) := by decide +kernel
theorem dL_law_895 : decode cL_law 895 = .ok (.iaload, 1) := by decide +kernel
theorem dL_law_896 : decode cL_law 896 = .ok (.aload_n 0, 1) := by decide +kernel
theorem dL_law_897 : decode cL_law 897 = .ok (.iload_n 3, 1) := by decide +kernel
theorem dL_law_898 : decode cL_law 898 = .ok (.iconst 3, 1) := by decide +kernel
theorem dL_law_899 : decode cL_law 899 = .ok (.iadd, 1) := by decide +kernel
theorem dL_law_900 : decode cL_law 900 = .ok (.iaload, 1) := by decide +kernel
theorem dL_law_901 : decode cL_law 901 = .ok (.aload_n 0, 1) := by decide +kernel
theorem dL_law_902 : decode cL_law 902 = .ok (.iload_n 3, 1) := by decide +kernel
theorem dL_law_903 : decode cL_law 903 = .ok (.iconst 4, 1) := by decide +kernel
theorem dL_law_904 : decode cL_law 904 = .ok (.iadd, 1) := by decide +kernel
theorem dL_law_905 : decode cL_law 905 = .ok (.iaload, 1) := by decide +kernel
theorem dL_law_906 : decode cL_law 906 = .ok (.aload_n 0, 1) := by decide +kernel
theorem dL_law_907 : decode cL_law 907 = .ok (.iload_n 3, 1) := by decide +kernel
theorem dL_law_908 : decode cL_law 908 = .ok (.iconst 5, 1) := by decide +kernel
theorem dL_law_909 : decode cL_law 909 = .ok (.iadd, 1) := by decide +kernel
theorem dL_law_910 : decode cL_law 910 = .ok (.iaload, 1) := by decide +kernel
theorem dL_law_911 : decode cL_law 911 = .ok (.invokevirtual 110, 3) := by decide +kernel
theorem dL_law_914 : decode cL_law 914 = .ok (.aload_n 2, 1) := by decide +kernel
theorem dL_law_915 : decode cL_law 915 = .ok (.aload_n 0, 1) := by decide +kernel
theorem dL_law_916 : decode cL_law 916 = .ok (.iload_n 3, 1) := by decide +kernel
theorem dL_law_917 : decode cL_law 917 = .ok (.iconst 1, 1) := by decide +kernel
theorem dL_law_918 : decode cL_law 918 = .ok (.iadd, 1) := by decide +kernel
theorem dL_law_919 : decode cL_law 919 = .ok (.iaload, 1) := by decide +kernel
theorem dL_law_920 : decode cL_law 920 = .ok (.aload_n 0, 1) := by decide +kernel
theorem dL_law_921 : decode cL_law 921 = .ok (.iload_n 3, 1) := by decide +kernel
theorem dL_law_922 : decode cL_law 922 = .ok (.iconst 2, 1) := by decide +kernel
theorem dL_law_923 : decode cL_law 923 = .ok (.iadd, 1) := by decide +kernel
theorem dL_law_924 : decode cL_law 924 = .ok (.iaload, 1) := by decide +kernel
theorem dL_law_925 : decode cL_law 925 = .ok (.aload_n 0, 1) := by decide +kernel
theorem dL_law_926 : decode cL_law 926 = .ok (.iload_n 3, 1) := by decide +kernel
theorem dL_law_927 : decode cL_law 927 = .ok (.iconst 3, 1) := by decide +kernel
theorem dL_law_928 : decode cL_law 928 = .ok (.iadd, 1) := by decide +kernel
theorem dL_law_929 : decode cL_law 929 = .ok (.iaload, 1) := by decide +kernel
theorem dL_law_930 : decode cL_law 930 = .ok (.aload_n 0, 1) := by decide +kernel
theorem dL_law_931 : decode cL_law 931 = .ok (.iload_n 3, 1) := by decide +kernel
theorem dL_law_932 : decode cL_law 932 = .ok (.iconst 4, 1) := by decide +kernel
theorem dL_law_933 : decode cL_law 933 = .ok (.iadd, 1) := by decide +kernel
theorem dL_law_934 : decode cL_law 934 = .ok (.iaload, 1) := by decide +kernel
theorem dL_law_935 : decode cL_law 935 = .ok (.aload_n 0, 1) := by decide +kernel
theorem dL_law_936 : decode cL_law 936 = .ok (.iload_n 3, 1) := by decide +kernel
theorem dL_law_937 : decode cL_law 937 = .ok (.iconst 5, 1) := by decide +kernel
theorem dL_law_938 : decode cL_law 938 = .ok (.iadd, 1) := by decide +kernel
theorem dL_law_939 : decode cL_law 939 = .ok (.iaload, 1) := by decide +kernel
theorem dL_law_940 : decode cL_law 940 = .ok (.invokevirtual 114, 3) := by decide +kernel
theorem dL_law_943 : decode cL_law 943 = .ok (.lcmp, 1) := by decide +kernel
theorem dL_law_944 : decode cL_law 944 = .ok (.ifCond .eq 199, 3) := by decide +kernel
theorem dL_law_947 : decode cL_law 947 = .ok (.iconst 0, 1) := by decide +kernel
theorem dL_law_948 : decode cL_law 948 = .ok (.ireturn, 1) := by decide +kernel
theorem dL_law_949 : decode cL_law 949 = .ok (.aload_n 1, 1) := by decide +kernel
theorem dL_law_950 : decode cL_law 950 = .ok (.aload_n 0, 1) := by decide +kernel
theorem dL_law_951 : decode cL_law 951 = .ok (.iload_n 3, 1) := by decide +kernel
theorem dL_law_952 : decode cL_law 952 = .ok (.iconst 1, 1) := by decide +kernel
theorem dL_law_953 : decode cL_law 953 = .ok (.iadd, 1) := by decide +kernel
theorem dL_law_954 : decode cL_law 954 = .ok (.iaload, 1) := by decide +kernel
theorem dL_law_955 : decode cL_law 955 = .ok (.aload_n 0, 1) := by decide +kernel
theorem dL_law_956 : decode cL_law 956 = .ok (.iload_n 3, 1) := by decide +kernel
theorem dL_law_957 : decode cL_law 957 = .ok (.iconst 2, 1) := by decide +kernel
theorem dL_law_958 : decode cL_law 958 = .ok (.iadd, 1) := by decide +kernel
theorem dL_law_959 : decode cL_law 959 = .ok (.iaload, 1) := by decide +kernel
theorem dL_law_960 : decode cL_law 960 = .ok (.aload_n 0, 1) := by decide +kernel
theorem dL_law_961 : decode cL_law 961 = .ok (.iload_n 3, 1) := by decide +kernel
theorem dL_law_962 : decode cL_law 962 = .ok (.iconst 3, 1) := by decide +kernel
theorem dL_law_963 : decode cL_law 963 = .ok (.iadd, 1) := by decide +kernel
theorem dL_law_964 : decode cL_law 964 = .ok (.iaload, 1) := by decide +kernel
theorem dL_law_965 : decode cL_law 965 = .ok (.invokevirtual 115, 3) := by decide +kernel
theorem dL_law_968 : decode cL_law 968 = .ok (.aload_n 2, 1) := by decide +kernel
theorem dL_law_969 : decode cL_law 969 = .ok (.aload_n 0, 1) := by decide +kernel
theorem dL_law_970 : decode cL_law 970 = .ok (.iload_n 3, 1) := by decide +kernel
theorem dL_law_971 : decode cL_law 971 = .ok (.iconst 1, 1) := by decide +kernel
theorem dL_law_972 : decode cL_law 972 = .ok (.iadd, 1) := by decide +kernel
theorem dL_law_973 : decode cL_law 973 = .ok (.iaload, 1) := by decide +kernel
theorem dL_law_974 : decode cL_law 974 = .ok (.aload_n 0, 1) := by decide +kernel
theorem dL_law_975 : decode cL_law 975 = .ok (.iload_n 3, 1) := by decide +kernel
theorem dL_law_976 : decode cL_law 976 = .ok (.iconst 2, 1) := by decide +kernel
theorem dL_law_977 : decode cL_law 977 = .ok (.iadd, 1) := by decide +kernel
theorem dL_law_978 : decode cL_law 978 = .ok (.iaload, 1) := by decide +kernel
theorem dL_law_979 : decode cL_law 979 = .ok (.aload_n 0, 1) := by decide +kernel
theorem dL_law_980 : decode cL_law 980 = .ok (.iload_n 3, 1) := by decide +kernel
theorem dL_law_981 : decode cL_law 981 = .ok (.iconst 3, 1) := by decide +kernel
theorem dL_law_982 : decode cL_law 982 = .ok (.iadd, 1) := by decide +kernel
theorem dL_law_983 : decode cL_law 983 = .ok (.iaload, 1) := by decide +kernel
theorem dL_law_984 : decode cL_law 984 = .ok (.invokevirtual 118, 3) := by decide +kernel
theorem dL_law_987 : decode cL_law 987 = .ok (.if_icmp .eq 156, 3) := by decide +kernel
theorem dL_law_990 : decode cL_law 990 = .ok (.iconst 0, 1) := by decide +kernel
theorem dL_law_991 : decode cL_law 991 = .ok (.ireturn, 1) := by decide +kernel
theorem dL_law_992 : decode cL_law 992 = .ok (.aload_n 1, 1) := by decide +kernel
theorem dL_law_993 : decode cL_law 993 = .ok (.aload_n 0, 1) := by decide +kernel
theorem dL_law_994 : decode cL_law 994 = .ok (.iload_n 3, 1) := by decide +kernel
theorem dL_law_995 : decode cL_law 995 = .ok (.iconst 1, 1) := by decide +kernel
theorem dL_law_996 : decode cL_law 996 = .ok (.iadd, 1) := by decide +kernel
theorem dL_law_997 : decode cL_law 997 = .ok (.iaload, 1) := by decide +kernel
theorem dL_law_998 : decode cL_law 998 = .ok (.invokevirtual 119, 3) := by decide +kernel
theorem dL_law_1001 : decode cL_law 1001 = .ok (.aload_n 2, 1) := by decide +kernel
theorem dL_law_1002 : decode cL_law 1002 = .ok (.aload_n 0, 1) := by decide +kernel
theorem dL_law_1003 : decode cL_law 1003 = .ok (.iload_n 3, 1) := by decide +kernel
theorem dL_law_1004 : decode cL_law 1004 = .ok (.iconst 1, 1) := by decide +kernel
theorem dL_law_1005 : decode cL_law 1005 = .ok (.iadd, 1) := by decide +kernel
theorem dL_law_1006 : decode cL_law 1006 = .ok (.iaload, 1) := by decide +kernel
theorem dL_law_1007 : decode cL_law 1007 = .ok (.invokevirtual 122, 3) := by decide +kernel
theorem dL_law_1010 : decode cL_law 1010 = .ok (.if_icmp .eq 133, 3) := by decide +kernel
theorem dL_law_1013 : decode cL_law 1013 = .ok (.iconst 0, 1) := by decide +kernel
theorem dL_law_1014 : decode cL_law 1014 = .ok (.ireturn, 1) := by decide +kernel
theorem dL_law_1015 : decode cL_law 1015 = .ok (.aload_n 1, 1) := by decide +kernel
theorem dL_law_1016 : decode cL_law 1016 = .ok (.aload_n 0, 1) := by decide +kernel
theorem dL_law_1017 : decode cL_law 1017 = .ok (.iload_n 3, 1) := by decide +kernel
theorem dL_law_1018 : decode cL_law 1018 = .ok (.iconst 1, 1) := by decide +kernel
theorem dL_law_1019 : decode cL_law 1019 = .ok (.iadd, 1) := by decide +kernel
theorem dL_law_1020 : decode cL_law 1020 = .ok (.iaload, 1) := by decide +kernel
theorem dL_law_1021 : decode cL_law 1021 = .ok (.invokevirtual 123, 3) := by decide +kernel
theorem dL_law_1024 : decode cL_law 1024 = .ok (.aload_n 2, 1) := by decide +kernel
theorem dL_law_1025 : decode cL_law 1025 = .ok (.aload_n 0, 1) := by decide +kernel
theorem dL_law_1026 : decode cL_law 1026 = .ok (.iload_n 3, 1) := by decide +kernel
theorem dL_law_1027 : decode cL_law 1027 = .ok (.iconst 1, 1) := by decide +kernel
theorem dL_law_1028 : decode cL_law 1028 = .ok (.iadd, 1) := by decide +kernel
theorem dL_law_1029 : decode cL_law 1029 = .ok (.iaload, 1) := by decide +kernel
theorem dL_law_1030 : decode cL_law 1030 = .ok (.invokevirtual 126, 3) := by decide +kernel
theorem dL_law_1033 : decode cL_law 1033 = .ok (.if_icmp .eq 110, 3) := by decide +kernel
theorem dL_law_1036 : decode cL_law 1036 = .ok (.iconst 0, 1) := by decide +kernel
theorem dL_law_1037 : decode cL_law 1037 = .ok (.ireturn, 1) := by decide +kernel
theorem dL_law_1038 : decode cL_law 1038 = .ok (.aload_n 1, 1) := by decide +kernel
theorem dL_law_1039 : decode cL_law 1039 = .ok (.invokevirtual 127, 3) := by decide +kernel
theorem dL_law_1042 : decode cL_law 1042 = .ok (.aload_n 2, 1) := by decide +kernel
theorem dL_law_1043 : decode cL_law 1043 = .ok (.invokevirtual 130, 3) := by decide +kernel
theorem dL_law_1046 : decode cL_law 1046 = .ok (.if_icmp .eq 97, 3) := by decide +kernel
theorem dL_law_1049 : decode cL_law 1049 = .ok (.iconst 0, 1) := by decide +kernel
theorem dL_law_1050 : decode cL_law 1050 = .ok (.ireturn, 1) := by decide +kernel
theorem dL_law_1051 : decode cL_law 1051 = .ok (.aload_n 1, 1) := by decide +kernel
theorem dL_law_1052 : decode cL_law 1052 = .ok (.aload_n 0, 1) := by decide +kernel
theorem dL_law_1053 : decode cL_law 1053 = .ok (.iload_n 3, 1) := by decide +kernel
theorem dL_law_1054 : decode cL_law 1054 = .ok (.iconst 1, 1) := by decide +kernel
theorem dL_law_1055 : decode cL_law 1055 = .ok (.iadd, 1) := by decide +kernel
theorem dL_law_1056 : decode cL_law 1056 = .ok (.iaload, 1) := by decide +kernel
theorem dL_law_1057 : decode cL_law 1057 = .ok (.aload_n 0, 1) := by decide +kernel
theorem dL_law_1058 : decode cL_law 1058 = .ok (.iload_n 3, 1) := by decide +kernel
theorem dL_law_1059 : decode cL_law 1059 = .ok (.iconst 2, 1) := by decide +kernel
theorem dL_law_1060 : decode cL_law 1060 = .ok (.iadd, 1) := by decide +kernel
theorem dL_law_1061 : decode cL_law 1061 = .ok (.iaload, 1) := by decide +kernel
theorem dL_law_1062 : decode cL_law 1062 = .ok (.aload_n 0, 1) := by decide +kernel
theorem dL_law_1063 : decode cL_law 1063 = .ok (.iload_n 3, 1) := by decide +kernel
theorem dL_law_1064 : decode cL_law 1064 = .ok (.iconst 3, 1) := by decide +kernel
theorem dL_law_1065 : decode cL_law 1065 = .ok (.iadd, 1) := by decide +kernel
theorem dL_law_1066 : decode cL_law 1066 = .ok (.iaload, 1) := by decide +kernel
theorem dL_law_1067 : decode cL_law 1067 = .ok (.invokevirtual 131, 3) := by decide +kernel
theorem dL_law_1070 : decode cL_law 1070 = .ok (.aload_n 2, 1) := by decide +kernel
theorem dL_law_1071 : decode cL_law 1071 = .ok (.aload_n 0, 1) := by decide +kernel
theorem dL_law_1072 : decode cL_law 1072 = .ok (.iload_n 3, 1) := by decide +kernel
theorem dL_law_1073 : decode cL_law 1073 = .ok (.iconst 1, 1) := by decide +kernel
theorem dL_law_1074 : decode cL_law 1074 = .ok (.iadd, 1) := by decide +kernel
theorem dL_law_1075 : decode cL_law 1075 = .ok (.iaload, 1) := by decide +kernel
theorem dL_law_1076 : decode cL_law 1076 = .ok (.aload_n 0, 1) := by decide +kernel
theorem dL_law_1077 : decode cL_law 1077 = .ok (.iload_n 3, 1) := by decide +kernel
theorem dL_law_1078 : decode cL_law 1078 = .ok (.iconst 2, 1) := by decide +kernel
theorem dL_law_1079 : decode cL_law 1079 = .ok (.iadd, 1) := by decide +kernel
theorem dL_law_1080 : decode cL_law 1080 = .ok (.iaload, 1) := by decide +kernel
theorem dL_law_1081 : decode cL_law 1081 = .ok (.aload_n 0, 1) := by decide +kernel
theorem dL_law_1082 : decode cL_law 1082 = .ok (.iload_n 3, 1) := by decide +kernel
theorem dL_law_1083 : decode cL_law 1083 = .ok (.iconst 3, 1) := by decide +kernel
theorem dL_law_1084 : decode cL_law 1084 = .ok (.iadd, 1) := by decide +kernel
theorem dL_law_1085 : decode cL_law 1085 = .ok (.iaload, 1) := by decide +kernel
theorem dL_law_1086 : decode cL_law 1086 = .ok (.invokevirtual 134, 3) := by decide +kernel
theorem dL_law_1089 : decode cL_law 1089 = .ok (.if_icmp .eq 54, 3) := by decide +kernel
theorem dL_law_1092 : decode cL_law 1092 = .ok (.iconst 0, 1) := by decide +kernel
theorem dL_law_1093 : decode cL_law 1093 = .ok (.ireturn, 1) := by decide +kernel
theorem dL_law_1094 : decode cL_law 1094 = .ok (.aload_n 1, 1) := by decide +kernel
theorem dL_law_1095 : decode cL_law 1095 = .ok (.invokevirtual 135, 3) := by decide +kernel
theorem dL_law_1098 : decode cL_law 1098 = .ok (.aload_n 2, 1) := by decide +kernel
theorem dL_law_1099 : decode cL_law 1099 = .ok (.invokevirtual 138, 3) := by decide +kernel
theorem dL_law_1102 : decode cL_law 1102 = .ok (.if_icmp .eq 41, 3) := by decide +kernel
theorem dL_law_1105 : decode cL_law 1105 = .ok (.iconst 0, 1) := by decide +kernel
theorem dL_law_1106 : decode cL_law 1106 = .ok (.ireturn, 1) := by decide +kernel
theorem dL_law_1107 : decode cL_law 1107 = .ok (.aload_n 1, 1) := by decide +kernel
theorem dL_law_1108 : decode cL_law 1108 = .ok (.invokevirtual 139, 3) := by decide +kernel
theorem dL_law_1111 : decode cL_law 1111 = .ok (.aload_n 2, 1) := by decide +kernel
theorem dL_law_1112 : decode cL_law 1112 = .ok (.invokevirtual 142, 3) := by decide +kernel
theorem dL_law_1115 : decode cL_law 1115 = .ok (.if_icmp .eq 28, 3) := by decide +kernel
theorem dL_law_1118 : decode cL_law 1118 = .ok (.iconst 0, 1) := by decide +kernel
theorem dL_law_1119 : decode cL_law 1119 = .ok (.ireturn, 1) := by decide +kernel
theorem dL_law_1120 : decode cL_law 1120 = .ok (.aload_n 1, 1) := by decide +kernel
theorem dL_law_1121 : decode cL_law 1121 = .ok (.aload_n 0, 1) := by decide +kernel
theorem dL_law_1122 : decode cL_law 1122 = .ok (.iload_n 3, 1) := by decide +kernel
theorem dL_law_1123 : decode cL_law 1123 = .ok (.iconst 1, 1) := by decide +kernel
theorem dL_law_1124 : decode cL_law 1124 = .ok (.iadd, 1) := by decide +kernel
theorem dL_law_1125 : decode cL_law 1125 = .ok (.iaload, 1) := by decide +kernel
theorem dL_law_1126 : decode cL_law 1126 = .ok (.invokevirtual 143, 3) := by decide +kernel
theorem dL_law_1129 : decode cL_law 1129 = .ok (.aload_n 2, 1) := by decide +kernel
theorem dL_law_1130 : decode cL_law 1130 = .ok (.aload_n 0, 1) := by decide +kernel
theorem dL_law_1131 : decode cL_law 1131 = .ok (.iload_n 3, 1) := by decide +kernel
theorem dL_law_1132 : decode cL_law 1132 = .ok (.iconst 1, 1) := by decide +kernel
theorem dL_law_1133 : decode cL_law 1133 = .ok (.iadd, 1) := by decide +kernel
theorem dL_law_1134 : decode cL_law 1134 = .ok (.iaload, 1) := by decide +kernel
theorem dL_law_1135 : decode cL_law 1135 = .ok (.invokevirtual 146, 3) := by decide +kernel
theorem dL_law_1138 : decode cL_law 1138 = .ok (.if_icmp .eq 5, 3) := by decide +kernel
theorem dL_law_1141 : decode cL_law 1141 = .ok (.iconst 0, 1) := by decide +kernel
theorem dL_law_1142 : decode cL_law 1142 = .ok (.ireturn, 1) := by decide +kernel
theorem dL_law_1143 : decode cL_law 1143 = .ok (.iinc 3 6, 3) := by decide +kernel
theorem dL_law_1146 : decode cL_law 1146 = .ok (.goto (-1128), 3) := by decide +kernel
theorem dL_law_1149 : decode cL_law 1149 = .ok (.iconst 1, 1) := by decide +kernel
theorem dL_law_1150 : decode cL_law 1150 = .ok (.ireturn, 1) := by decide +kernel
end
section
/-! THE CLAIM OUT OF ONE WALK OF THE LAW'S BODY. Your part is whole_start (and what it stands on); all else here is the same for every law, but numbers. -/
def R_law : String := "FoughtFromMemoryLaw"
def lw_P (b : Addr) (xs : List Int32) (args : Array Value) (s : State) : Prop := args = #[.ref b] ∧ s.IntsAt b xs ∧ xs.length ≤ 3072 ∧ (Jvm.Cond.and given_1 narrow_1).before args s = true
def lw_Q (_ : Array Value) (s : State) (o : Outcome) (t : State) : Prop := o = .returned (some (.int 1)) ∧ Framed s o t [] 600000 7302250
def lw_Z (below : List Frame) (a : Array Value) (s : State) : State → Prop := fun t => ∃ o, t.status = .running ∧ Ended t below o ∧ lw_Q a s o t
/-- the law's own end, with 1 on the stack, nothing written that was there before, its room as the claim has it -/
theorem lw_ret {p : Program} {l : Launch} {e : Env} {s : State} {m : MethodId} {below : List Frame} {meth : Method} {c : Code} {b : Nat} (hx : p.tables.exec = Jvm.exec) (hb : c.code = code) (hr : meth.sig.returnType = ret) (hlocks : meth.locks = false) {pc : Nat} {H : Heap} {ls : Array Slot} (hdg : decode code pc = .ok (.ireturn, 1)) : W p l e room_1 s m #[Value.ref b] below meth c H [] 600000 7302250 (lw_Z below #[Value.ref b] s) (F0 m pc ls [.int 1]) := by
  intro T hT X
  obtain ⟨fs, hret, hrun, hended, hW, hframe⟩ := X.leave (v := some (.int 1)) (hlocks := hlocks) (fun h => by rw [hr] at h; cases h)
  have hmeth' : T.vm.method? m = some meth := X.method'
  refine ⟨T.setFrames fs, ?_, .returned (some (.int 1)), hrun, hended, rfl, ⟨_, rfl⟩, hW, hframe⟩
  jvm_step X.here [X.here.top, hx, hb, hdg, hmeth', hr, ret, narrow_b1]
  (try refine ⟨rfl, ?_⟩); (try refine ⟨rfl, ?_⟩)
  first | (intro acts; rw [hret _ acts rfl rfl rfl]) | rw [hret _ _ rfl rfl rfl]
  exact Steps.refl _
/-- what holds at the law's entry: the machine, the code, the tables' words (any of lw_tbl by 'hts w (by decide +kernel)'), the script of L ints xs at the cell b, what the Statement gives of the start (any of its parts by flat_of_before) -/
def lw_At (p : Program) (s : State) (m : MethodId) (meth : Method) (c : Code) (b L : Nat) (xs : Nat → Int32) : Prop :=
  p.tables.exec = Jvm.exec ∧ c.code = code ∧ meth.sig.returnType = ret ∧ c.maxLocals = 4 ∧ s.vm.findClass R_law = some m.cls ∧ (∀ w ∈ lw_tbl, w.before #[Value.ref b] s = true) ∧ va_X b L xs s s.heap ∧ b < s.heap.size ∧ meth.locks = false ∧ (Jvm.Cond.and given_1 narrow_1).before #[Value.ref b] s = true
end
section
/-! THE WALK'S OWN JUDGEMENT. Cells have small numbers (the i-th cell made lies at base + i); a state is pc, locals by place, stack, number of cells, slots made so far, cells. -/
abbrev ca_Cl : Type := (Nat × (Nat → Int32)) ⊕ (Nat × List Value)
abbrev ca_G : Type := Nat → ca_Cl
abbrev ca_J : Type := Nat → List (Option Value) → List Value → Nat → Nat → ca_G → Prop
abbrev ca_Post : Type := Option Value → ca_G → Prop
abbrev ca_Sc : Type := Option (Nat × (Nat → Int32))
def ca_up (g : ca_G) (i : Nat) (c : ca_Cl) : ca_G := fun j => if j = i then c else g j
def ca_vz (ad : Nat → Nat) : Value → Value
  | .ref i => .ref (ad i)
  | v => v
def ca_cz (ad : Nat → Nat) (cI : ClassId) : ca_Cl → va_E
  | .inl a => .inl (cI, a.1, .inl a.2)
  | .inr o => .inr (o.1, o.2.map (ca_vz ad))
def ca_ws (ad : Nat → Nat) (cI : ClassId) (N : Nat) (g : ca_G) : va_W := (List.range N).map (fun i => (ad i, ca_cz ad cI (g i)))
theorem ca_up_s (g : ca_G) (i : Nat) (c : ca_Cl) : ca_up g i c i = c := if_pos rfl
theorem ca_up_n (g : ca_G) {i j : Nat} (c : ca_Cl) (h : j ≠ i) : ca_up g i c j = g j := if_neg h
theorem ca_up_up (g : ca_G) (i : Nat) (c d : ca_Cl) : ca_up (ca_up g i c) i d = ca_up g i d := by
  funext j; by_cases h : j = i
  · subst h; rw [ca_up_s, ca_up_s]
  · rw [ca_up_n _ _ h, ca_up_n _ _ h, ca_up_n _ _ h]
theorem ca_vz_cat (ad : Nat → Nat) (v : Value) : (ca_vz ad v).category = v.category := by cases v <;> rfl
theorem ca_ws_at {ad : Nat → Nat} {cI : ClassId} {N i : Nat} {g : ca_G} (h : i < N) : (ca_ws ad cI N g)[i]? = some (ad i, ca_cz ad cI (g i)) := by
  simp [ca_ws, h]
theorem ca_ws_set {ad : Nat → Nat} {cI : ClassId} {N i : Nat} {g : ca_G} (c : ca_Cl) (h : i < N) : (ca_ws ad cI N g).set i (ad i, ca_cz ad cI c) = ca_ws ad cI N (ca_up g i c) := by
  apply List.ext_getElem?
  intro j
  by_cases hj : j = i
  · subst hj
    rw [List.getElem?_set_self (by simp [ca_ws, h]), ca_ws_at h, ca_up_s]
  · rw [List.getElem?_set_ne (fun q => hj q.symm)]
    by_cases hN : j < N
    · rw [ca_ws_at hN, ca_ws_at hN, ca_up_n _ _ hj]
    · rw [List.getElem?_eq_none (by simp [ca_ws]; omega), List.getElem?_eq_none (by simp [ca_ws]; omega)]
theorem ca_ws_push {ad : Nat → Nat} {cI : ClassId} {N : Nat} {g : ca_G} (c : ca_Cl) : ca_ws ad cI N g ++ [(ad N, ca_cz ad cI c)] = ca_ws ad cI (N + 1) (ca_up g N c) := by
  simp only [ca_ws, List.range_succ, List.map_append, List.map_cons, List.map_nil, ca_up_s]
  congr 1
  apply List.map_congr_left
  intro i hi
  have := List.mem_range.mp hi
  rw [ca_up_n _ _ (by omega)]
theorem ca_ws_ex {ad : Nat → Nat} {cI : ClassId} {N k : Nat} {g : ca_G} {q : Nat × va_E} (h : (ca_ws ad cI N g)[k]? = some q) : k < N ∧ q = (ad k, ca_cz ad cI (g k)) := by
  have hk : k < N := by
    have := (List.getElem?_eq_some_iff.mp h).1
    simpa [ca_ws] using this
  rw [ca_ws_at hk] at h
  exact ⟨hk, (Option.some.inj h).symm⟩
theorem ca_D {ad : Nat → Nat} {cI : ClassId} {N base : Nat} {g : ca_G} (had : ∀ i, i < 1000 → ad i = base + i) (hN : N ≤ 1000) : va_D (fun q => base ≤ q) (ca_ws ad cI N g) := by
  refine ⟨fun i j p q hp hq hpq => ?_, fun k q hq => ?_⟩
  · obtain ⟨a1, rfl⟩ := ca_ws_ex hp
    obtain ⟨a2, rfl⟩ := ca_ws_ex hq
    have e : ad i = ad j := hpq
    rw [had i (by omega), had j (by omega)] at e
    omega
  · obtain ⟨a1, rfl⟩ := ca_ws_ex hq
    show base ≤ ad k
    rw [had k (by omega)]
    omega
/-! locals by place -/
def ca_lv (ad : Nat → Nat) : Nat → List (Option Value) → List (Nat × Value)
  | _, [] => []
  | k, some v :: t => (k, ca_vz ad v) :: ca_lv ad (k + 1) t
  | k, none :: t => ca_lv ad (k + 1) t
theorem ca_lv_mem {ad : Nat → Nat} {q : Nat × Value} : ∀ (L : List (Option Value)) (k : Nat), q ∈ ca_lv ad k L ↔ ∃ (j : Nat) (v : Value), L[j]? = some (some v) ∧ q = (k + j, ca_vz ad v)
  | [], k => by simp [ca_lv]
  | none :: t, k => by
    rw [ca_lv, ca_lv_mem t (k + 1)]
    constructor
    · rintro ⟨j, v, h1, h2⟩
      exact ⟨j + 1, v, by simpa using h1, by rw [h2, Nat.add_right_comm, Nat.add_assoc]⟩
    · rintro ⟨j, v, h1, h2⟩
      cases j with
      | zero => simp at h1
      | succ j => exact ⟨j, v, by simpa using h1, by rw [h2, Nat.add_right_comm, Nat.add_assoc]⟩
  | some w :: t, k => by
    rw [ca_lv, List.mem_cons, ca_lv_mem t (k + 1)]
    constructor
    · rintro (h | ⟨j, v, h1, h2⟩)
      · exact ⟨0, w, by simp, h⟩
      · exact ⟨j + 1, v, by simpa using h1, by rw [h2, Nat.add_right_comm, Nat.add_assoc]⟩
    · rintro ⟨j, v, h1, h2⟩
      cases j with
      | zero => left; simp at h1; subst h1; exact h2
      | succ j => right; exact ⟨j, v, by simpa using h1, by rw [h2, Nat.add_right_comm, Nat.add_assoc]⟩
theorem ca_lv_at {ad : Nat → Nat} {la : Array Slot} {nL i : Nat} {ls : List (Option Value)} {v : Value} (h : lv_has la nL (ca_lv ad 0 ls)) (hv : ls[i]? = some (some v)) : la[i]? = some (.val (ca_vz ad v)) := by
  have := h.2.2 (0 + i, ca_vz ad v) ((ca_lv_mem ls 0).mpr ⟨i, v, hv, rfl⟩)
  rwa [Nat.zero_add] at this
/-- no long, no double at this place -/
def ca_n2 (ls : List (Option Value)) (i : Nat) : Bool := match ls[i]? with
  | some (some (.long _)) => false
  | some (some (.double _)) => false
  | _ => true
theorem ca_n2_cat {ls : List (Option Value)} {i : Nat} {v : Value} (h : ca_n2 ls i = true) (hv : ls[i]? = some (some v)) : v.category = 1 := by
  unfold ca_n2 at h
  rw [hv] at h
  cases v <;> first | rfl | simp at h
theorem ca_sto1 {ad : Nat → Nat} {la : Array Slot} {nL i : Nat} {ls : List (Option Value)} {v : Value} {l' : List (Nat × Value)} (hi : i < ls.length) (hp : i = 0 ∨ ca_n2 ls (i - 1) = true)
    (e : l' = (i, ca_vz ad v) :: (ca_lv ad 0 ls).filter (fun q => !(q.1 == i) && !(q.1 + 1 == i && q.2.category == 2))) (h : lv_has la nL l') : lv_has la nL (ca_lv ad 0 (ls.set i (some v))) := by
  refine ⟨h.1, h.2.1, fun q hq => h.2.2 q ?_⟩
  rw [e]
  obtain ⟨j, w, h1, rfl⟩ := (ca_lv_mem _ _).mp hq
  by_cases hj : j = i
  · subst hj
    rw [List.getElem?_set_self hi] at h1
    cases h1
    rw [Nat.zero_add]
    exact List.mem_cons_self
  · rw [List.getElem?_set_ne (fun q => hj q.symm)] at h1
    refine List.mem_cons_of_mem _ (List.mem_filter.mpr ⟨(ca_lv_mem _ _).mpr ⟨j, w, h1, rfl⟩, ?_⟩)
    have hc : ¬ (j + 1 = i ∧ w.category = 2) := by
      rintro ⟨a, b⟩
      rcases hp with hp | hp
      · omega
      · have := ca_n2_cat (v := w) hp (by rw [show i - 1 = j by omega]; exact h1)
        omega
    simp only [Nat.zero_add, ca_vz_cat, Bool.and_eq_true, Bool.not_eq_true', beq_eq_false_iff_ne, ne_eq, Bool.and_eq_false_iff]
    refine ⟨hj, ?_⟩
    by_cases a : j + 1 = i
    · exact Or.inr (fun b => hc ⟨a, b⟩)
    · exact Or.inl a
theorem ca_sto2 {ad : Nat → Nat} {la : Array Slot} {nL i : Nat} {ls : List (Option Value)} {v : Value} {l' : List (Nat × Value)} (hi : i + 1 < ls.length) (hp : i = 0 ∨ ca_n2 ls (i - 1) = true)
    (e : l' = (i, ca_vz ad v) :: (ca_lv ad 0 ls).filter (fun q => !(q.1 == i) && (!(q.1 == i + 1) && !(q.1 + 1 == i && q.2.category == 2)))) (h : lv_has la nL l') : lv_has la nL (ca_lv ad 0 ((ls.set i (some v)).set (i + 1) none)) := by
  refine ⟨h.1, h.2.1, fun q hq => h.2.2 q ?_⟩
  rw [e]
  obtain ⟨j, w, h1, rfl⟩ := (ca_lv_mem _ _).mp hq
  by_cases hj2 : j = i + 1
  · subst hj2
    rw [List.getElem?_set_self (by simpa using hi)] at h1
    cases h1
  rw [List.getElem?_set_ne (fun q => hj2 q.symm)] at h1
  by_cases hj : j = i
  · subst hj
    rw [List.getElem?_set_self (by omega)] at h1
    cases h1
    rw [Nat.zero_add]
    exact List.mem_cons_self
  · rw [List.getElem?_set_ne (fun q => hj q.symm)] at h1
    refine List.mem_cons_of_mem _ (List.mem_filter.mpr ⟨(ca_lv_mem _ _).mpr ⟨j, w, h1, rfl⟩, ?_⟩)
    have hc : ¬ (j + 1 = i ∧ w.category = 2) := by
      rintro ⟨a, b⟩
      rcases hp with hp | hp
      · omega
      · have := ca_n2_cat (v := w) hp (by rw [show i - 1 = j by omega]; exact h1)
        omega
    simp only [Nat.zero_add, ca_vz_cat, Bool.and_eq_true, Bool.not_eq_true', beq_eq_false_iff_ne, ne_eq, Bool.and_eq_false_iff]
    refine ⟨hj, hj2, ?_⟩
    by_cases a : j + 1 = i
    · exact Or.inr (fun b => hc ⟨a, b⟩)
    · exact Or.inl a
/-- a method's first locals -/
def ca_en : List Value → List (Option Value)
  | [] => []
  | v :: t => if v.category = 2 then some v :: none :: ca_en t else some v :: ca_en t
theorem ca_en_lv {ad : Nat → Nat} {q : Nat × Value} : ∀ (As : List Value) (k n : Nat), q ∈ ca_lv ad k (ca_en As ++ List.replicate n none) → q ∈ lv_args k (As.map (ca_vz ad))
  | [], k, n, h => by
    exfalso
    obtain ⟨j, v, h1, -⟩ := (ca_lv_mem _ _).mp h
    simp only [ca_en, List.nil_append] at h1
    have := List.eq_of_mem_replicate (List.mem_of_getElem? h1)
    cases this
  | v :: t, k, n, h => by
    rw [List.map_cons, lv_args]
    unfold ca_en at h
    rw [ca_vz_cat]
    by_cases hc : v.category = 2
    · rw [if_pos hc] at h ⊢
      simp only [List.cons_append, ca_lv] at h
      rcases List.mem_cons.mp h with h | h
      · rw [h]; exact List.mem_cons_self
      · exact List.mem_cons_of_mem _ (ca_en_lv t (k + 2) n h)
    · rw [if_neg hc] at h ⊢
      simp only [List.cons_append, ca_lv] at h
      rcases List.mem_cons.mp h with h | h
      · rw [h]; exact List.mem_cons_self
      · exact List.mem_cons_of_mem _ (ca_en_lv t (k + 1) n h)
theorem ca_en_len {ad : Nat → Nat} : ∀ (As : List Value), (lg_sl (As.map (ca_vz ad))).length = (ca_en As).length
  | [] => rfl
  | v :: t => by
    have ih := ca_en_len (ad := ad) t
    unfold lg_sl at ih ⊢
    rw [List.map_cons, List.flatMap_cons, List.length_append, ih, ca_vz_cat]
    by_cases hc : v.category = 2
    · rw [if_pos hc, show ca_en (v :: t) = some v :: none :: ca_en t from if_pos hc]; simp; omega
    · rw [if_neg hc, show ca_en (v :: t) = some v :: ca_en t from if_neg hc]; simp; omega
/-! what the tables say -/
def ca_isNest : Cond → Bool
  | .fieldLinkNest .. => true
  | .methodLinkNest .. => true
  | _ => false
def ca_NT : List Cond := lw_tbl.filter ca_isNest
def ca_TT : List Cond := lw_tbl.filter goodWord
theorem ca_inT {w : Cond} (h : w ∈ lw_tbl) (g : goodWord w = true) : w ∈ ca_TT := List.mem_filter.mpr ⟨h, g⟩
theorem ca_inN {w : Cond} (h : w ∈ lw_tbl) (g : ca_isNest w = true) : w ∈ ca_NT := List.mem_filter.mpr ⟨h, g⟩
theorem ca_nest_tab {w : Cond} (h : ca_isNest w = true) : w.onTables = true := by
  cases w <;> first | rfl | (simp [ca_isNest] at h; done)
theorem ca_nest_warm {w : Cond} (h : ca_isNest w = true) {s U : State} (hW : s.WarmedH U.vm) (hz : va_Nw w s) : va_Nw w U := by
  cases w <;> first | exact va_Nw.warmF hW hz | exact va_Nw.warmM hW hz | (simp [ca_isNest] at h; done)
def ca_sI : Nat → Nat
  | 0 => 64 | 1 => 66 | 2 => 68 | 3 => 70 | 4 => 72 | 5 => 74 | _ => 114
def ca_sT : Nat → String
  | 0 => "\x72K000;" | 1 => "vK00000;" | 2 => "p0;" | 3 => "k000000;" | 4 => "n00;" | 5 => "" | _ => "tlspwd"
def ca_sL : List Nat := [6, 8, 3, 8, 4, 0, 6]
def ca_sB : List (List Int32) := [[114, 75, 48, 48, 48, 59], [118, 75, 48, 48, 48, 48, 48, 59], [112, 48, 59], [107, 48, 48, 48, 48, 48, 48, 59], [110, 48, 48, 59], [], [116, 108, 115, 112, 119, 100]]
def ca_SK (ad : Nat → Nat) (base : Nat) (U : State) : Prop :=
  (∀ k, k < 7 → vk_R "FoughtFromMemory$Telling" (ca_sI k) (ca_sT k) (ad (1000 + k)) U) ∧
  (∃ adV, vk_S 7 ca_sL ca_sB (fun k => ad (1000 + k)) adV (fun q => base ≤ q) U U.heap) ∧
  va_Z "java/lang/String" "COMPACT_STRINGS" "Z" (.int 1) (fun q => base ≤ q) U U.heap ∧
  va_Zq "jdk/internal/util/Preconditions" "SIOOBE_FORMATTER" "Ljava/util/function/BiFunction;" (fun q => base ≤ q) U U.heap
def ca_KK (D : va_G) (cI : ClassId) (ad : Nat → Nat) (base : Nat) (U : State) : Prop := va_K D vwCl [(cI, .int)] U ∧ (∀ w ∈ ca_NT, va_Nw w U) ∧ ca_SK ad base U
theorem ca_KK.warm {D : va_G} {cI : ClassId} {ad : Nat → Nat} {base : Nat} {s U : State} {H : Heap} {locs : List Loc} (h : ca_KK D cI ad base s) (hS : va_S (fun q => base ≤ q) s.heap H locs) (hH : U.heap = H) (hW : s.WarmedH U.vm) : ca_KK D cI ad base U := by
  obtain ⟨h1, h2, h3, ⟨adV, h4⟩, h5, h6⟩ := h
  have hq : ∀ a : Nat, a < s.heap.size → ¬ base ≤ a → U.heap[a]? = s.heap[a]? := fun a b1 b2 => by rw [hH]; exact hS.2.1 a b1 b2
  exact ⟨va_K.moved hW.alike h1, fun w hw => ca_nest_warm (List.mem_filter.mp hw).2 hW (h2 w hw), fun k hk => (h3 k hk).warm hW, ⟨adV, (h4.moved hW.alike).kept hq⟩, (h5.moved hW.alike).kept hq, (h6.moved hW.alike).kept hq⟩
theorem ca_KK.call {D : va_G} {cI : ClassId} {ad : Nat → Nat} {base : Nat} {U : State} (g : JFrame) (mk : MethodId) (a : Array Value) (h : ca_KK D cI ad base U) : ca_KK D cI ad base (U.calling g mk a) := by
  obtain ⟨h1, h2, h3, ⟨adV, h4⟩, h5, h6⟩ := h
  have hv : U.vm.Alike (U.calling g mk a).vm := Vm.Alike.refl U.vm
  exact ⟨va_K.moved hv h1, fun w hw => va_Nw.same (u := U) (U := U.calling g mk a) (ca_nest_tab (List.mem_filter.mp hw).2) rfl (h2 w hw), fun k hk => (h3 k hk).same rfl, ⟨adV, h4.moved hv⟩, h5.moved hv, h6.moved hv⟩
end
section
/-! what a method's walk stands on, and the rows of the walk. S below 1000000: the heap's size is told too. -/
def ca_Q (D : va_G) (cI : ClassId) (ad : Nat → Nat) (base N1 S1 : Nat) (post : ca_Post) : Array Value → State → Outcome → State → Prop := fun _ st o t =>
  ∃ (r : Option Value) (g' : ca_G), o = .returned (r.map (ca_vz ad)) ∧ post r g' ∧ (S1 < 1000000 → t.heap.size = base + N1) ∧ va_P D vwCl (ca_ws ad cI N1 g') t.heap ∧ va_F (fun q => base ≤ q) st t
def ca_X (p : Program) (l : Launch) (e : Env) (R : Room) (s : State) (m : MethodId) (args : Array Value) (below : List Frame) (meth : Method) (c : Code) (Q : State → Prop) (nL : Nat) (D : va_G) (cI : ClassId) (ad : Nat → Nat) (base N0 S0 mc ms : Nat) : ca_J := fun pc ls st N S g =>
  N0 ≤ N → N ≤ N0 + mc → S0 ≤ S → S ≤ S0 + ms → ∀ (H : Heap) (locs : List Loc) (la : Array Slot), (S < 1000000 → H.size = base + N) → va_P D vwCl (ca_ws ad cI N g) H → va_S (fun q => base ≤ q) s.heap H locs → lv_has la nL (ca_lv ad 0 ls) →
    W p l e R s m args below meth c H locs (N - N0) (S - S0) Q (F0 m pc la (st.map (ca_vz ad)))
def ca_Good (l : Launch) (y : MethodName) (cc : ByteArray) (nL : Nat) (ret : Option FieldType) (F mc ms N0 S0 : Nat) (sc : ca_Sc) (post : ca_Post) (X : ca_J) : Prop :=
  ∃ (p : Program) (e : Env) (R : Room) (s : State) (m : MethodId) (args : Array Value) (below : List Frame) (meth : Method) (c : Code) (D : va_G) (cI : ClassId) (ad : Nat → Nat) (base : Nat) (Q : State → Prop),
    X = ca_X p l e R s m args below meth c Q nL D cI ad base N0 S0 mc ms ∧ p.tables.exec = Jvm.exec ∧ c.code = cc ∧ c.maxLocals = nL ∧ s.vm.findClass y.cls = some m.cls ∧ (∀ w ∈ ca_TT, w.before args s = true) ∧ ca_KK D cI ad base s ∧
    ((∀ i, i < 1000 → ad i = base + i) ∧ base ≤ s.heap.size ∧ F ≤ R.frames ∧ 37 * F ≤ R.locals ∧ mc ≤ R.cells ∧ ms ≤ R.slots) ∧
    (meth.sig.returnType = ret ∧ meth.locks = false ∧ meth.name = y.name) ∧
    (sc = none → N0 + mc ≤ 1000 ∧ Q = MQ below (ca_Q D cI ad base (N0 + mc) (S0 + ms) post) args s mc ms (fun q => base ≤ q)) ∧
    (∀ L xs, sc = some (L, xs) → Q = lw_Z below args s ∧ va_X (ad 2000) L xs s s.heap ∧ ad 2000 < base ∧ base = s.heap.size ∧ args = #[Value.ref (ad 2000)] ∧ cc = code ∧ mc = 600000 ∧ ms = 7302250)
/-- a class of the worlds -/
def ca_CL (ci : Nat) (C : String) (T : u_T) (n : Nat) (ty0 : Nat → FieldType) : Prop := vwCl[ci]? = some (C, T, n) ∧ (∀ w ∈ u_ws C T n, w ∈ ca_TT) ∧ (∀ k, k < n → parseFieldDescriptor (T k).2.2.1 = some (ty0 k)) ∧ (∀ a, a < n → ∀ b, b < n → a ≠ b → (T a).2.1 ≠ (T b).2.1) ∧ ∀ k, k < n → (T k).1 = C
section CAPUT
variable {p : Program} {l : Launch} {e : Env} {R : Room} {s : State} {m : MethodId} {args : Array Value} {below : List Frame} {meth : Method} {c : Code} {H : Heap} {locs : List Loc} {cells slots : Nat} {Q : State → Prop}
variable {cc : ByteArray} {pc : Nat} {la : Array Slot} {rest : List Value} {D : va_G} {A : Nat → Prop} {a : Nat} {tys : List (ClassId × FieldType)} {ws : va_W} {H0 : Heap}
theorem ca_putW (hexec : p.tables.exec = Jvm.exec) (hb : c.code = cc) {own C : String} {T : u_T} {n ci index : Nat} {ty0 : Nat → FieldType} (hts : ∀ w ∈ ca_TT, w.before args s = true) (hC : ca_CL ci C T n ty0) (hown : s.vm.findClass own = some m.cls) (hK : va_K D vwCl tys s) (hP : va_P D vwCl ws H) (hD : va_D A ws) (hS0 : va_S A H0 H locs) (q0 : Nat) {fs : List Value} (he : ws[q0]? = some (a, .inr (ci, fs))) (k : Nat) (hk : k < n) (hlink : Cond.fieldLink own index C (T k).2.1 (T k).2.2.1 ∈ ca_TT)
    (hfin : (T k).2.2.2 = false ∨ (meth.name = "<init>" ∧ C = own)) {v : Value} (hn : narrow (ty0 k) v = v) (hfit : fits (ty0 k) v = true) (hl : k < fs.length) (hdg : decode cc pc = .ok (.putfield index, 3))
    (kk : ∀ (H1 : Heap) (locs1 : List Loc), H1.size = H.size → va_P D vwCl (ws.set q0 (a, .inr (ci, fs.set k v))) H1 → va_S A H0 H1 locs1 → W p l e R s m args below meth c H1 locs1 cells slots Q (F0 m (pc + 3) la rest)) : W p l e R s m args below meth c H locs cells slots Q (F0 m pc la (v :: .ref a :: rest)) := by
  obtain ⟨hc, hin, hty, hnm, hdec⟩ := hC
  have hap := va_apart (own := own) hts hin ty0 hty hnm hK hc
  obtain ⟨r, h1, cell, q1, q2, q3, q4⟩ := hP q0 _ he
  have hr : r = (C, T, n) := Option.some.inj (h1.symm.trans hc)
  subst hr
  obtain ⟨hS, hfc, kC, hkC, hkind⟩ := hK.1 ci _ hc
  obtain ⟨cf, kf, fi, f, hi, hsl⟩ := hS k hk
  have hlay := hts _ (hin _ (u_in_lay hk))
  unfold u_lay at hlay
  have hi' : s.fieldFound? C (T k).2.1 (T k).2.2.1 = some (cf, kf, fi, f) := by rw [← hdec k hk]; exact hi
  have hst := (u_facts hfc hkC (u_lays hts hin hk) hi).1
  by_cases hf : (T k).2.2.2 = true
  · rw [if_pos hf] at hlay
    obtain ⟨hin2, hdecl⟩ : meth.name = "<init>" ∧ C = own := by
      rcases hfin with z | z
      · rw [hf] at z; cases z
      · exact z
    have hcf : m.cls = cf := by
      obtain ⟨_, _, c', _, _, _, -, -, hf', -, -, -, hown2, -⟩ := Cond.laysFinal_spec hlay
      have e1 : c' = cf := by have := hi.symm.trans hf'; simp at this; exact this.1.symm
      rw [hdec k hk, hdecl] at hown2
      rw [← e1]; exact Option.some.inj (hown.symm.trans hown2)
    have h6 := u_fits hfc hkC hkind (Or.inr hlay) hi (hty k hk) hn hfit
    refine W.putFinK hexec hb hown (hts _ hlink) hi' hst hcf hin2 (by rw [q2]; exact h6) q1 q3 (by rw [hsl]; exact k2_hasslot (q4 k hk)) rfl rfl hdg fun H' e1 e2 e3 => ?_
    rw [hsl] at e1 ⊢
    exact kk H' _ e2 (hP.set hD he ⟨_, hc, t_OB.to (V := updV (vp_V fs) k v) ⟨_, e1, q2, q3, t_set q4 hap hk v⟩ (fun j _ => vp_updV_set hl v j)⟩ e3) (hS0.put e2 e3 (hD.2 q0 _ he))
  · rw [if_neg hf] at hlay
    have h6 := u_store hfc hkC hkind hlay hi (hty k hk) hn hfit
    refine W.putK hexec hb (f := f) ⟨hown, hts _ hlink, ⟨_, _, _, hi'⟩, hst⟩ (by rw [q2]; exact h6) q1 q3 (by rw [hsl]; exact k2_hasslot (q4 k hk)) rfl rfl hdg fun H' e1 e2 e3 => ?_
    rw [hsl] at e1 ⊢
    exact kk H' _ e2 (hP.set hD he ⟨_, hc, t_OB.to (V := updV (vp_V fs) k v) ⟨_, e1, q2, q3, t_set q4 hap hk v⟩ (fun j _ => vp_updV_set hl v j)⟩ e3) (hS0.put e2 e3 (hD.2 q0 _ he))
end CAPUT
section CARULES
variable {l : Launch} {y : MethodName} {cc : ByteArray} {nL : Nat} {ret : Option FieldType} {F mc ms N0 S0 : Nat} {sc : ca_Sc} {post : ca_Post} {X : ca_J}
variable {pc q : Nat} {ls : List (Option Value)} {st : List Value} {N S : Nat} {g : ca_G}
theorem ca_iconst (hX : ca_Good l y cc nL ret F mc ms N0 S0 sc post X) {n : Int} {v : Int32} (hv : Int32.ofInt n = v) (hq : pc + 1 = q) (hd : decode cc pc = .ok (.iconst n, 1)) (k : X q ls (.int v :: st) N S g) : X pc ls (st) N S g := by
  obtain ⟨p, e, R, s, m, args, below, meth, c, D, cI, ad, base, Q, rfl, hx, hb, hml, hown, hts, hK, hB, hR, hQ, hL⟩ := hX
  subst hq
  intro h1 h2 h3 h4 H locs la q1 q2 q3 q4
  exact lv_iconst hx hb hd hv (k h1 h2 h3 h4 H locs la q1 q2 q3 q4)

theorem ca_bipush (hX : ca_Good l y cc nL ret F mc ms N0 S0 sc post X) {n : Int} {v : Int32} (hv : (Int8.ofInt n).toInt32 = v) (hq : pc + 2 = q) (hd : decode cc pc = .ok (.bipush n, 2)) (k : X q ls (.int v :: st) N S g) : X pc ls (st) N S g := by
  obtain ⟨p, e, R, s, m, args, below, meth, c, D, cI, ad, base, Q, rfl, hx, hb, hml, hown, hts, hK, hB, hR, hQ, hL⟩ := hX
  subst hq
  intro h1 h2 h3 h4 H locs la q1 q2 q3 q4
  exact lv_bipush hx hb hd hv (k h1 h2 h3 h4 H locs la q1 q2 q3 q4)

theorem ca_sipush (hX : ca_Good l y cc nL ret F mc ms N0 S0 sc post X) {n : Int} {v : Int32} (hv : (Int16.ofInt n).toInt32 = v) (hq : pc + 3 = q) (hd : decode cc pc = .ok (.sipush n, 3)) (k : X q ls (.int v :: st) N S g) : X pc ls (st) N S g := by
  obtain ⟨p, e, R, s, m, args, below, meth, c, D, cI, ad, base, Q, rfl, hx, hb, hml, hown, hts, hK, hB, hR, hQ, hL⟩ := hX
  subst hq
  intro h1 h2 h3 h4 H locs la q1 q2 q3 q4
  exact lv_sipush hx hb hd hv (k h1 h2 h3 h4 H locs la q1 q2 q3 q4)

theorem ca_lconst (hX : ca_Good l y cc nL ret F mc ms N0 S0 sc post X) {n : Fin 2} {v : Int64} (hv : Int64.ofNat (n : Nat) = v) (hq : pc + 1 = q) (hd : decode cc pc = .ok (.lconst n, 1)) (k : X q ls (.long v :: st) N S g) : X pc ls (st) N S g := by
  obtain ⟨p, e, R, s, m, args, below, meth, c, D, cI, ad, base, Q, rfl, hx, hb, hml, hown, hts, hK, hB, hR, hQ, hL⟩ := hX
  subst hq
  intro h1 h2 h3 h4 H locs la q1 q2 q3 q4
  exact lv_lconst hx hb hd hv (k h1 h2 h3 h4 H locs la q1 q2 q3 q4)

theorem ca_ldc (hX : ca_Good l y cc nL ret F mc ms N0 S0 sc post X) {idx : Nat} {v : Int32} (hc : Cond.constant y.cls idx v ∈ ca_TT) (hq : pc + 2 = q) (hd : decode cc pc = .ok (.ldc idx, 2)) (k : X q ls (.int v :: st) N S g) : X pc ls st N S g := by
  obtain ⟨p, e, R, s, m, args, below, meth, c, D, cI, ad, base, Q, rfl, hx, hb, hml, hown, hts, hK, hB, hR, hQ, hL⟩ := hX
  subst hq
  intro h1 h2 h3 h4 H locs la q1 q2 q3 q4
  exact lv_ldc hx hb hown (hts _ hc) hd (k h1 h2 h3 h4 H locs la q1 q2 q3 q4)

theorem ca_ldcw (hX : ca_Good l y cc nL ret F mc ms N0 S0 sc post X) {idx : Nat} {v : Int32} (hc : Cond.constant y.cls idx v ∈ ca_TT) (hq : pc + 3 = q) (hd : decode cc pc = .ok (.ldc_w idx, 3)) (k : X q ls (.int v :: st) N S g) : X pc ls st N S g := by
  obtain ⟨p, e, R, s, m, args, below, meth, c, D, cI, ad, base, Q, rfl, hx, hb, hml, hown, hts, hK, hB, hR, hQ, hL⟩ := hX
  subst hq
  intro h1 h2 h3 h4 H locs la q1 q2 q3 q4
  exact lv_ldcw hx hb hown (hts _ hc) hd (k h1 h2 h3 h4 H locs la q1 q2 q3 q4)

theorem ca_ldc2 (hX : ca_Good l y cc nL ret F mc ms N0 S0 sc post X) {idx : Nat} {v : Int64} (hc : Cond.constantLong y.cls idx v ∈ ca_TT) (hq : pc + 3 = q) (hd : decode cc pc = .ok (.ldc2_w idx, 3)) (k : X q ls (.long v :: st) N S g) : X pc ls st N S g := by
  obtain ⟨p, e, R, s, m, args, below, meth, c, D, cI, ad, base, Q, rfl, hx, hb, hml, hown, hts, hK, hB, hR, hQ, hL⟩ := hX
  subst hq
  intro h1 h2 h3 h4 H locs la q1 q2 q3 q4
  exact lv_ldc2 hx hb hown (hts _ hc) hd (k h1 h2 h3 h4 H locs la q1 q2 q3 q4)

theorem ca_iload_n (hX : ca_Good l y cc nL ret F mc ms N0 S0 sc post X) {k4 : Fin 4} (i : Nat) (hk : (k4 : Nat) = i) {x : Int32} (hl : ls[i]? = some (some (.int x))) (hq : pc + 1 = q) (hd : decode cc pc = .ok (.iload_n k4, 1)) (k : X q ls (.int x :: st) N S g) : X pc ls (st) N S g := by
  obtain ⟨p, e, R, s, m, args, below, meth, c, D, cI, ad, base, Q, rfl, hx, hb, hml, hown, hts, hK, hB, hR, hQ, hL⟩ := hX
  subst hq
  intro h1 h2 h3 h4 H locs la q1 q2 q3 q4
  exact lv_iload_n hx hb hd hk (ca_lv_at q4 hl) (k h1 h2 h3 h4 H locs la q1 q2 q3 q4)

theorem ca_iload (hX : ca_Good l y cc nL ret F mc ms N0 S0 sc post X) {i : Nat} {x : Int32} (hl : ls[i]? = some (some (.int x))) (hq : pc + 2 = q) (hd : decode cc pc = .ok (.iload i, 2)) (k : X q ls (.int x :: st) N S g) : X pc ls (st) N S g := by
  obtain ⟨p, e, R, s, m, args, below, meth, c, D, cI, ad, base, Q, rfl, hx, hb, hml, hown, hts, hK, hB, hR, hQ, hL⟩ := hX
  subst hq
  intro h1 h2 h3 h4 H locs la q1 q2 q3 q4
  exact lv_iload hx hb hd (ca_lv_at q4 hl) (k h1 h2 h3 h4 H locs la q1 q2 q3 q4)

theorem ca_lload_n (hX : ca_Good l y cc nL ret F mc ms N0 S0 sc post X) {k4 : Fin 4} (i : Nat) (hk : (k4 : Nat) = i) {x : Int64} (hl : ls[i]? = some (some (.long x))) (hq : pc + 1 = q) (hd : decode cc pc = .ok (.lload_n k4, 1)) (k : X q ls (.long x :: st) N S g) : X pc ls (st) N S g := by
  obtain ⟨p, e, R, s, m, args, below, meth, c, D, cI, ad, base, Q, rfl, hx, hb, hml, hown, hts, hK, hB, hR, hQ, hL⟩ := hX
  subst hq
  intro h1 h2 h3 h4 H locs la q1 q2 q3 q4
  exact lv_lload_n hx hb hd hk (ca_lv_at q4 hl) (k h1 h2 h3 h4 H locs la q1 q2 q3 q4)

theorem ca_lload (hX : ca_Good l y cc nL ret F mc ms N0 S0 sc post X) {i : Nat} {x : Int64} (hl : ls[i]? = some (some (.long x))) (hq : pc + 2 = q) (hd : decode cc pc = .ok (.lload i, 2)) (k : X q ls (.long x :: st) N S g) : X pc ls (st) N S g := by
  obtain ⟨p, e, R, s, m, args, below, meth, c, D, cI, ad, base, Q, rfl, hx, hb, hml, hown, hts, hK, hB, hR, hQ, hL⟩ := hX
  subst hq
  intro h1 h2 h3 h4 H locs la q1 q2 q3 q4
  exact lv_lload hx hb hd (ca_lv_at q4 hl) (k h1 h2 h3 h4 H locs la q1 q2 q3 q4)

theorem ca_aload_n (hX : ca_Good l y cc nL ret F mc ms N0 S0 sc post X) {k4 : Fin 4} (i : Nat) (hk : (k4 : Nat) = i) {x : Nat} (hl : ls[i]? = some (some (.ref x))) (hq : pc + 1 = q) (hd : decode cc pc = .ok (.aload_n k4, 1)) (k : X q ls (.ref x :: st) N S g) : X pc ls (st) N S g := by
  obtain ⟨p, e, R, s, m, args, below, meth, c, D, cI, ad, base, Q, rfl, hx, hb, hml, hown, hts, hK, hB, hR, hQ, hL⟩ := hX
  subst hq
  intro h1 h2 h3 h4 H locs la q1 q2 q3 q4
  exact lv_aload_n hx hb hd hk (ca_lv_at q4 hl) (k h1 h2 h3 h4 H locs la q1 q2 q3 q4)

theorem ca_aload (hX : ca_Good l y cc nL ret F mc ms N0 S0 sc post X) {i : Nat} {x : Nat} (hl : ls[i]? = some (some (.ref x))) (hq : pc + 2 = q) (hd : decode cc pc = .ok (.aload i, 2)) (k : X q ls (.ref x :: st) N S g) : X pc ls (st) N S g := by
  obtain ⟨p, e, R, s, m, args, below, meth, c, D, cI, ad, base, Q, rfl, hx, hb, hml, hown, hts, hK, hB, hR, hQ, hL⟩ := hX
  subst hq
  intro h1 h2 h3 h4 H locs la q1 q2 q3 q4
  exact lv_aload hx hb hd (ca_lv_at q4 hl) (k h1 h2 h3 h4 H locs la q1 q2 q3 q4)

theorem ca_iadd (hX : ca_Good l y cc nL ret F mc ms N0 S0 sc post X) {a b : Int32} (hq : pc + 1 = q) (hd : decode cc pc = .ok (.iadd, 1)) (k : X q ls (.int (a + b) :: st) N S g) : X pc ls (.int b :: .int a :: st) N S g := by
  obtain ⟨p, e, R, s, m, args, below, meth, c, D, cI, ad, base, Q, rfl, hx, hb, hml, hown, hts, hK, hB, hR, hQ, hL⟩ := hX
  subst hq
  intro h1 h2 h3 h4 H locs la q1 q2 q3 q4
  exact lv_iadd hx hb hd (k h1 h2 h3 h4 H locs la q1 q2 q3 q4)

theorem ca_isub (hX : ca_Good l y cc nL ret F mc ms N0 S0 sc post X) {a b : Int32} (hq : pc + 1 = q) (hd : decode cc pc = .ok (.isub, 1)) (k : X q ls (.int (a - b) :: st) N S g) : X pc ls (.int b :: .int a :: st) N S g := by
  obtain ⟨p, e, R, s, m, args, below, meth, c, D, cI, ad, base, Q, rfl, hx, hb, hml, hown, hts, hK, hB, hR, hQ, hL⟩ := hX
  subst hq
  intro h1 h2 h3 h4 H locs la q1 q2 q3 q4
  exact lv_isub hx hb hd (k h1 h2 h3 h4 H locs la q1 q2 q3 q4)

theorem ca_imul (hX : ca_Good l y cc nL ret F mc ms N0 S0 sc post X) {a b : Int32} (hq : pc + 1 = q) (hd : decode cc pc = .ok (.imul, 1)) (k : X q ls (.int (a * b) :: st) N S g) : X pc ls (.int b :: .int a :: st) N S g := by
  obtain ⟨p, e, R, s, m, args, below, meth, c, D, cI, ad, base, Q, rfl, hx, hb, hml, hown, hts, hK, hB, hR, hQ, hL⟩ := hX
  subst hq
  intro h1 h2 h3 h4 H locs la q1 q2 q3 q4
  exact lv_imul hx hb hd (k h1 h2 h3 h4 H locs la q1 q2 q3 q4)

theorem ca_iand (hX : ca_Good l y cc nL ret F mc ms N0 S0 sc post X) {a b : Int32} (hq : pc + 1 = q) (hd : decode cc pc = .ok (.iand, 1)) (k : X q ls (.int (a &&& b) :: st) N S g) : X pc ls (.int b :: .int a :: st) N S g := by
  obtain ⟨p, e, R, s, m, args, below, meth, c, D, cI, ad, base, Q, rfl, hx, hb, hml, hown, hts, hK, hB, hR, hQ, hL⟩ := hX
  subst hq
  intro h1 h2 h3 h4 H locs la q1 q2 q3 q4
  exact lv_iand hx hb hd (k h1 h2 h3 h4 H locs la q1 q2 q3 q4)

theorem ca_ior (hX : ca_Good l y cc nL ret F mc ms N0 S0 sc post X) {a b : Int32} (hq : pc + 1 = q) (hd : decode cc pc = .ok (.ior, 1)) (k : X q ls (.int (a ||| b) :: st) N S g) : X pc ls (.int b :: .int a :: st) N S g := by
  obtain ⟨p, e, R, s, m, args, below, meth, c, D, cI, ad, base, Q, rfl, hx, hb, hml, hown, hts, hK, hB, hR, hQ, hL⟩ := hX
  subst hq
  intro h1 h2 h3 h4 H locs la q1 q2 q3 q4
  exact lv_ior hx hb hd (k h1 h2 h3 h4 H locs la q1 q2 q3 q4)

theorem ca_ixor (hX : ca_Good l y cc nL ret F mc ms N0 S0 sc post X) {a b : Int32} (hq : pc + 1 = q) (hd : decode cc pc = .ok (.ixor, 1)) (k : X q ls (.int (a ^^^ b) :: st) N S g) : X pc ls (.int b :: .int a :: st) N S g := by
  obtain ⟨p, e, R, s, m, args, below, meth, c, D, cI, ad, base, Q, rfl, hx, hb, hml, hown, hts, hK, hB, hR, hQ, hL⟩ := hX
  subst hq
  intro h1 h2 h3 h4 H locs la q1 q2 q3 q4
  exact lv_ixor hx hb hd (k h1 h2 h3 h4 H locs la q1 q2 q3 q4)

theorem ca_ladd (hX : ca_Good l y cc nL ret F mc ms N0 S0 sc post X) {a b : Int64} (hq : pc + 1 = q) (hd : decode cc pc = .ok (.ladd, 1)) (k : X q ls (.long (a + b) :: st) N S g) : X pc ls (.long b :: .long a :: st) N S g := by
  obtain ⟨p, e, R, s, m, args, below, meth, c, D, cI, ad, base, Q, rfl, hx, hb, hml, hown, hts, hK, hB, hR, hQ, hL⟩ := hX
  subst hq
  intro h1 h2 h3 h4 H locs la q1 q2 q3 q4
  exact lv_ladd hx hb hd (k h1 h2 h3 h4 H locs la q1 q2 q3 q4)

theorem ca_lsub (hX : ca_Good l y cc nL ret F mc ms N0 S0 sc post X) {a b : Int64} (hq : pc + 1 = q) (hd : decode cc pc = .ok (.lsub, 1)) (k : X q ls (.long (a - b) :: st) N S g) : X pc ls (.long b :: .long a :: st) N S g := by
  obtain ⟨p, e, R, s, m, args, below, meth, c, D, cI, ad, base, Q, rfl, hx, hb, hml, hown, hts, hK, hB, hR, hQ, hL⟩ := hX
  subst hq
  intro h1 h2 h3 h4 H locs la q1 q2 q3 q4
  exact lv_lsub hx hb hd (k h1 h2 h3 h4 H locs la q1 q2 q3 q4)

theorem ca_lmul (hX : ca_Good l y cc nL ret F mc ms N0 S0 sc post X) {a b : Int64} (hq : pc + 1 = q) (hd : decode cc pc = .ok (.lmul, 1)) (k : X q ls (.long (a * b) :: st) N S g) : X pc ls (.long b :: .long a :: st) N S g := by
  obtain ⟨p, e, R, s, m, args, below, meth, c, D, cI, ad, base, Q, rfl, hx, hb, hml, hown, hts, hK, hB, hR, hQ, hL⟩ := hX
  subst hq
  intro h1 h2 h3 h4 H locs la q1 q2 q3 q4
  exact lv_lmul hx hb hd (k h1 h2 h3 h4 H locs la q1 q2 q3 q4)

theorem ca_ishl (hX : ca_Good l y cc nL ret F mc ms N0 S0 sc post X) {a b : Int32} (hq : pc + 1 = q) (hd : decode cc pc = .ok (.ishl, 1)) (k : X q ls (.int (a <<< (b &&& 31)) :: st) N S g) : X pc ls (.int b :: .int a :: st) N S g := by
  obtain ⟨p, e, R, s, m, args, below, meth, c, D, cI, ad, base, Q, rfl, hx, hb, hml, hown, hts, hK, hB, hR, hQ, hL⟩ := hX
  subst hq
  intro h1 h2 h3 h4 H locs la q1 q2 q3 q4
  exact lv_ishl hx hb hd (k h1 h2 h3 h4 H locs la q1 q2 q3 q4)

theorem ca_ishr (hX : ca_Good l y cc nL ret F mc ms N0 S0 sc post X) {a b : Int32} (hq : pc + 1 = q) (hd : decode cc pc = .ok (.ishr, 1)) (k : X q ls (.int (a >>> (b &&& 31)) :: st) N S g) : X pc ls (.int b :: .int a :: st) N S g := by
  obtain ⟨p, e, R, s, m, args, below, meth, c, D, cI, ad, base, Q, rfl, hx, hb, hml, hown, hts, hK, hB, hR, hQ, hL⟩ := hX
  subst hq
  intro h1 h2 h3 h4 H locs la q1 q2 q3 q4
  exact lv_ishr hx hb hd (k h1 h2 h3 h4 H locs la q1 q2 q3 q4)

theorem ca_iushr (hX : ca_Good l y cc nL ret F mc ms N0 S0 sc post X) {a b : Int32} (hq : pc + 1 = q) (hd : decode cc pc = .ok (.iushr, 1)) (k : X q ls (.int ((a.toUInt32 >>> (b.toUInt32 &&& Int32.toUInt32 31)).toInt32) :: st) N S g) : X pc ls (.int b :: .int a :: st) N S g := by
  obtain ⟨p, e, R, s, m, args, below, meth, c, D, cI, ad, base, Q, rfl, hx, hb, hml, hown, hts, hK, hB, hR, hQ, hL⟩ := hX
  subst hq
  intro h1 h2 h3 h4 H locs la q1 q2 q3 q4
  exact lv_iushr hx hb hd rfl (k h1 h2 h3 h4 H locs la q1 q2 q3 q4)

theorem ca_idiv (hX : ca_Good l y cc nL ret F mc ms N0 S0 sc post X) {a b : Int32} (hne : ¬ b = 0) (hq : pc + 1 = q) (hd : decode cc pc = .ok (.idiv, 1)) (k : X q ls (.int (a / b) :: st) N S g) : X pc ls (.int b :: .int a :: st) N S g := by
  obtain ⟨p, e, R, s, m, args, below, meth, c, D, cI, ad, base, Q, rfl, hx, hb, hml, hown, hts, hK, hB, hR, hQ, hL⟩ := hX
  subst hq
  intro h1 h2 h3 h4 H locs la q1 q2 q3 q4
  exact lv_idiv hx hb hd hne (k h1 h2 h3 h4 H locs la q1 q2 q3 q4)

theorem ca_irem (hX : ca_Good l y cc nL ret F mc ms N0 S0 sc post X) {a b : Int32} (hne : ¬ b = 0) (hq : pc + 1 = q) (hd : decode cc pc = .ok (.irem, 1)) (k : X q ls (.int (a - a / b * b) :: st) N S g) : X pc ls (.int b :: .int a :: st) N S g := by
  obtain ⟨p, e, R, s, m, args, below, meth, c, D, cI, ad, base, Q, rfl, hx, hb, hml, hown, hts, hK, hB, hR, hQ, hL⟩ := hX
  subst hq
  intro h1 h2 h3 h4 H locs la q1 q2 q3 q4
  exact lv_irem hx hb hd hne (k h1 h2 h3 h4 H locs la q1 q2 q3 q4)

theorem ca_ldiv (hX : ca_Good l y cc nL ret F mc ms N0 S0 sc post X) {a b : Int64} (hne : ¬ b = 0) (hq : pc + 1 = q) (hd : decode cc pc = .ok (.ldiv, 1)) (k : X q ls (.long (a / b) :: st) N S g) : X pc ls (.long b :: .long a :: st) N S g := by
  obtain ⟨p, e, R, s, m, args, below, meth, c, D, cI, ad, base, Q, rfl, hx, hb, hml, hown, hts, hK, hB, hR, hQ, hL⟩ := hX
  subst hq
  intro h1 h2 h3 h4 H locs la q1 q2 q3 q4
  exact lv_ldiv hx hb hd hne (k h1 h2 h3 h4 H locs la q1 q2 q3 q4)

theorem ca_lrem (hX : ca_Good l y cc nL ret F mc ms N0 S0 sc post X) {a b : Int64} (hne : ¬ b = 0) (hq : pc + 1 = q) (hd : decode cc pc = .ok (.lrem, 1)) (k : X q ls (.long (a - a / b * b) :: st) N S g) : X pc ls (.long b :: .long a :: st) N S g := by
  obtain ⟨p, e, R, s, m, args, below, meth, c, D, cI, ad, base, Q, rfl, hx, hb, hml, hown, hts, hK, hB, hR, hQ, hL⟩ := hX
  subst hq
  intro h1 h2 h3 h4 H locs la q1 q2 q3 q4
  exact lv_lrem hx hb hd hne (k h1 h2 h3 h4 H locs la q1 q2 q3 q4)

theorem ca_ineg (hX : ca_Good l y cc nL ret F mc ms N0 S0 sc post X) {a : Int32} (hq : pc + 1 = q) (hd : decode cc pc = .ok (.ineg, 1)) (k : X q ls (.int (-a) :: st) N S g) : X pc ls (.int a :: st) N S g := by
  obtain ⟨p, e, R, s, m, args, below, meth, c, D, cI, ad, base, Q, rfl, hx, hb, hml, hown, hts, hK, hB, hR, hQ, hL⟩ := hX
  subst hq
  intro h1 h2 h3 h4 H locs la q1 q2 q3 q4
  exact lv_ineg hx hb hd (k h1 h2 h3 h4 H locs la q1 q2 q3 q4)

theorem ca_i2l (hX : ca_Good l y cc nL ret F mc ms N0 S0 sc post X) {a : Int32} (hq : pc + 1 = q) (hd : decode cc pc = .ok (.i2l, 1)) (k : X q ls (.long a.toInt64 :: st) N S g) : X pc ls (.int a :: st) N S g := by
  obtain ⟨p, e, R, s, m, args, below, meth, c, D, cI, ad, base, Q, rfl, hx, hb, hml, hown, hts, hK, hB, hR, hQ, hL⟩ := hX
  subst hq
  intro h1 h2 h3 h4 H locs la q1 q2 q3 q4
  exact lv_i2l hx hb hd rfl (k h1 h2 h3 h4 H locs la q1 q2 q3 q4)

theorem ca_i2c (hX : ca_Good l y cc nL ret F mc ms N0 S0 sc post X) {a : Int32} (hq : pc + 1 = q) (hd : decode cc pc = .ok (.i2c, 1)) (k : X q ls (.int (a.toUInt32 % 65536).toInt32 :: st) N S g) : X pc ls (.int a :: st) N S g := by
  obtain ⟨p, e, R, s, m, args, below, meth, c, D, cI, ad, base, Q, rfl, hx, hb, hml, hown, hts, hK, hB, hR, hQ, hL⟩ := hX
  subst hq
  intro h1 h2 h3 h4 H locs la q1 q2 q3 q4
  exact lv_i2c hx hb hd rfl (k h1 h2 h3 h4 H locs la q1 q2 q3 q4)

theorem ca_lcmp (hX : ca_Good l y cc nL ret F mc ms N0 S0 sc post X) {a b : Int64} (hq : pc + 1 = q) (hd : decode cc pc = .ok (.lcmp, 1)) (k : X q ls (.int (lg_cmp a b) :: st) N S g) : X pc ls (.long b :: .long a :: st) N S g := by
  obtain ⟨p, e, R, s, m, args, below, meth, c, D, cI, ad, base, Q, rfl, hx, hb, hml, hown, hts, hK, hB, hR, hQ, hL⟩ := hX
  subst hq
  intro h1 h2 h3 h4 H locs la q1 q2 q3 q4
  exact W.lcmp hx hb hd (k h1 h2 h3 h4 H locs la q1 q2 q3 q4)

theorem ca_dup (hX : ca_Good l y cc nL ret F mc ms N0 S0 sc post X) {v : Value} (hc : v.category = 1) (hq : pc + 1 = q) (hd : decode cc pc = .ok (.dup, 1)) (k : X q ls (v :: v :: st) N S g) : X pc ls (v :: st) N S g := by
  obtain ⟨p, e, R, s, m, args, below, meth, c, D, cI, ad, base, Q, rfl, hx, hb, hml, hown, hts, hK, hB, hR, hQ, hL⟩ := hX
  subst hq
  intro h1 h2 h3 h4 H locs la q1 q2 q3 q4
  exact lv_dup hx hb hd (by rw [ca_vz_cat]; exact hc) (k h1 h2 h3 h4 H locs la q1 q2 q3 q4)

theorem ca_pop (hX : ca_Good l y cc nL ret F mc ms N0 S0 sc post X) {v : Value} (hc : v.category = 1) (hq : pc + 1 = q) (hd : decode cc pc = .ok (.pop, 1)) (k : X q ls (st) N S g) : X pc ls (v :: st) N S g := by
  obtain ⟨p, e, R, s, m, args, below, meth, c, D, cI, ad, base, Q, rfl, hx, hb, hml, hown, hts, hK, hB, hR, hQ, hL⟩ := hX
  subst hq
  intro h1 h2 h3 h4 H locs la q1 q2 q3 q4
  exact lv_pop hx hb hd (by rw [ca_vz_cat]; exact hc) (k h1 h2 h3 h4 H locs la q1 q2 q3 q4)

theorem ca_dup2 (hX : ca_Good l y cc nL ret F mc ms N0 S0 sc post X) {v u : Value} (hc : v.category = 1) (hc2 : u.category = 1) (hq : pc + 1 = q) (hd : decode cc pc = .ok (.dup2, 1)) (k : X q ls (v :: u :: v :: u :: st) N S g) : X pc ls (v :: u :: st) N S g := by
  obtain ⟨p, e, R, s, m, args, below, meth, c, D, cI, ad, base, Q, rfl, hx, hb, hml, hown, hts, hK, hB, hR, hQ, hL⟩ := hX
  subst hq
  intro h1 h2 h3 h4 H locs la q1 q2 q3 q4
  exact lv_dup2_11 hx hb hd (by rw [ca_vz_cat]; exact hc) (by rw [ca_vz_cat]; exact hc2) (k h1 h2 h3 h4 H locs la q1 q2 q3 q4)

theorem ca_istore_n (hX : ca_Good l y cc nL ret F mc ms N0 S0 sc post X) {k4 : Fin 4} (i : Nat) (hk : (k4 : Nat) = i) {x : Int32} {ls' : List (Option Value)} (hi : i < ls.length) (hn : i < nL) (hp : i = 0 ∨ ca_n2 ls (i - 1) = true) (hl : ls.set i (some (.int x)) = ls') (hq : pc + 1 = q) (hd : decode cc pc = .ok (.istore_n k4, 1)) (k : X q ls' st N S g) : X pc ls (.int x :: st) N S g := by
  obtain ⟨p, e, R, s, m, args, below, meth, c, D, cI, ad, base, Q, rfl, hx, hb, hml, hown, hts, hK, hB, hR, hQ, hL⟩ := hX
  subst hq
  subst hl
  intro h1 h2 h3 h4 H locs la q1 q2 q3 q4
  exact lv_istore_n hx hb hd hk q4 hn rfl (fun la' hl' => k h1 h2 h3 h4 H locs la' q1 q2 q3 (ca_sto1 (v := .int x) hi hp rfl hl'))

theorem ca_istore (hX : ca_Good l y cc nL ret F mc ms N0 S0 sc post X) {i : Nat} {x : Int32} {ls' : List (Option Value)} (hi : i < ls.length) (hn : i < nL) (hp : i = 0 ∨ ca_n2 ls (i - 1) = true) (hl : ls.set i (some (.int x)) = ls') (hq : pc + 2 = q) (hd : decode cc pc = .ok (.istore i, 2)) (k : X q ls' st N S g) : X pc ls (.int x :: st) N S g := by
  obtain ⟨p, e, R, s, m, args, below, meth, c, D, cI, ad, base, Q, rfl, hx, hb, hml, hown, hts, hK, hB, hR, hQ, hL⟩ := hX
  subst hq
  subst hl
  intro h1 h2 h3 h4 H locs la q1 q2 q3 q4
  exact lv_istore hx hb hd q4 hn rfl (fun la' hl' => k h1 h2 h3 h4 H locs la' q1 q2 q3 (ca_sto1 (v := .int x) hi hp rfl hl'))

theorem ca_astore_n (hX : ca_Good l y cc nL ret F mc ms N0 S0 sc post X) {k4 : Fin 4} (i : Nat) (hk : (k4 : Nat) = i) {x : Nat} {ls' : List (Option Value)} (hi : i < ls.length) (hn : i < nL) (hp : i = 0 ∨ ca_n2 ls (i - 1) = true) (hl : ls.set i (some (.ref x)) = ls') (hq : pc + 1 = q) (hd : decode cc pc = .ok (.astore_n k4, 1)) (k : X q ls' st N S g) : X pc ls (.ref x :: st) N S g := by
  obtain ⟨p, e, R, s, m, args, below, meth, c, D, cI, ad, base, Q, rfl, hx, hb, hml, hown, hts, hK, hB, hR, hQ, hL⟩ := hX
  subst hq
  subst hl
  intro h1 h2 h3 h4 H locs la q1 q2 q3 q4
  exact lv_astore_n hx hb hd hk q4 hn rfl (fun la' hl' => k h1 h2 h3 h4 H locs la' q1 q2 q3 (ca_sto1 (v := .ref x) hi hp rfl hl'))

theorem ca_astore (hX : ca_Good l y cc nL ret F mc ms N0 S0 sc post X) {i : Nat} {x : Nat} {ls' : List (Option Value)} (hi : i < ls.length) (hn : i < nL) (hp : i = 0 ∨ ca_n2 ls (i - 1) = true) (hl : ls.set i (some (.ref x)) = ls') (hq : pc + 2 = q) (hd : decode cc pc = .ok (.astore i, 2)) (k : X q ls' st N S g) : X pc ls (.ref x :: st) N S g := by
  obtain ⟨p, e, R, s, m, args, below, meth, c, D, cI, ad, base, Q, rfl, hx, hb, hml, hown, hts, hK, hB, hR, hQ, hL⟩ := hX
  subst hq
  subst hl
  intro h1 h2 h3 h4 H locs la q1 q2 q3 q4
  exact lv_astore hx hb hd q4 hn rfl (fun la' hl' => k h1 h2 h3 h4 H locs la' q1 q2 q3 (ca_sto1 (v := .ref x) hi hp rfl hl'))

theorem ca_lstore_n (hX : ca_Good l y cc nL ret F mc ms N0 S0 sc post X) {k4 : Fin 4} (i : Nat) (hk : (k4 : Nat) = i) {x : Int64} {ls' : List (Option Value)} (hi : i + 1 < ls.length) (hn : i + 1 < nL) (hp : i = 0 ∨ ca_n2 ls (i - 1) = true) (hl : (ls.set i (some (.long x))).set (i + 1) none = ls') (hq : pc + 1 = q) (hd : decode cc pc = .ok (.lstore_n k4, 1)) (k : X q ls' st N S g) : X pc ls (.long x :: st) N S g := by
  obtain ⟨p, e, R, s, m, args, below, meth, c, D, cI, ad, base, Q, rfl, hx, hb, hml, hown, hts, hK, hB, hR, hQ, hL⟩ := hX
  subst hq
  subst hl
  intro h1 h2 h3 h4 H locs la q1 q2 q3 q4
  exact lv_lstore_n hx hb hd hk q4 hn rfl (fun la' hl' => k h1 h2 h3 h4 H locs la' q1 q2 q3 (ca_sto2 (v := .long x) hi hp rfl hl'))

theorem ca_lstore (hX : ca_Good l y cc nL ret F mc ms N0 S0 sc post X) {i : Nat} {x : Int64} {ls' : List (Option Value)} (hi : i + 1 < ls.length) (hn : i + 1 < nL) (hp : i = 0 ∨ ca_n2 ls (i - 1) = true) (hl : (ls.set i (some (.long x))).set (i + 1) none = ls') (hq : pc + 2 = q) (hd : decode cc pc = .ok (.lstore i, 2)) (k : X q ls' st N S g) : X pc ls (.long x :: st) N S g := by
  obtain ⟨p, e, R, s, m, args, below, meth, c, D, cI, ad, base, Q, rfl, hx, hb, hml, hown, hts, hK, hB, hR, hQ, hL⟩ := hX
  subst hq
  subst hl
  intro h1 h2 h3 h4 H locs la q1 q2 q3 q4
  exact lv_lstore hx hb hd q4 hn rfl (fun la' hl' => k h1 h2 h3 h4 H locs la' q1 q2 q3 (ca_sto2 (v := .long x) hi hp rfl hl'))

theorem ca_iinc (hX : ca_Good l y cc nL ret F mc ms N0 S0 sc post X) {i : Nat} {n : Int} {d x : Int32} {ls' : List (Option Value)} (hv : Int32.ofInt n = d) (hx0 : ls[i]? = some (some (.int x))) (hn : i < nL) (hp : i = 0 ∨ ca_n2 ls (i - 1) = true) (hl : ls.set i (some (.int (x + d))) = ls') (hq : pc + 3 = q) (hd : decode cc pc = .ok (.iinc i n, 3)) (k : X q ls' st N S g) : X pc ls st N S g := by
  obtain ⟨p, e, R, s, m, args, below, meth, c, D, cI, ad, base, Q, rfl, hx, hb, hml, hown, hts, hK, hB, hR, hQ, hL⟩ := hX
  subst hq
  subst hl
  subst hv
  intro h1 h2 h3 h4 H locs la q1 q2 q3 q4
  have hi : i < ls.length := (List.getElem?_eq_some_iff.mp hx0).1
  obtain ⟨j, hj⟩ := List.getElem?_of_mem ((ca_lv_mem (ad := ad) ls 0).mpr ⟨i, _, hx0, rfl⟩)
  rw [Nat.zero_add] at hj
  exact lv_iinc hx hb hd q4 hj rfl hn rfl (fun la' hl' => k h1 h2 h3 h4 H locs la' q1 q2 q3 (ca_sto1 (v := .int (x + Int32.ofInt n)) hi hp rfl hl'))

theorem ca_if_eq (hX : ca_Good l y cc nL ret F mc ms N0 S0 sc post X) {x : Int32} {off : Int} (tgt : Nat) (ht : (pc : Int) + off = (tgt : Int)) (hq : pc + 3 = q) (hd : decode cc pc = .ok (.ifCond .eq off, 3)) (kt : x = 0 → X tgt ls st N S g) (kf : ¬ x = 0 → X q ls st N S g) : X pc ls (.int x :: st) N S g := by
  obtain ⟨p, e, R, s, m, args, below, meth, c, D, cI, ad, base, Q, rfl, hx, hb, hml, hown, hts, hK, hB, hR, hQ, hL⟩ := hX
  subst hq
  intro h1 h2 h3 h4 H locs la q1 q2 q3 q4
  exact lv_if_eq hx hb hd ht (fun z => kt z h1 h2 h3 h4 H locs la q1 q2 q3 q4) (fun z => kf z h1 h2 h3 h4 H locs la q1 q2 q3 q4)

theorem ca_icmp_eq (hX : ca_Good l y cc nL ret F mc ms N0 S0 sc post X) {x y0 : Int32} {off : Int} (tgt : Nat) (ht : (pc : Int) + off = (tgt : Int)) (hq : pc + 3 = q) (hd : decode cc pc = .ok (.if_icmp .eq off, 3)) (kt : x = y0 → X tgt ls st N S g) (kf : ¬ x = y0 → X q ls st N S g) : X pc ls (.int y0 :: .int x :: st) N S g := by
  obtain ⟨p, e, R, s, m, args, below, meth, c, D, cI, ad, base, Q, rfl, hx, hb, hml, hown, hts, hK, hB, hR, hQ, hL⟩ := hX
  subst hq
  intro h1 h2 h3 h4 H locs la q1 q2 q3 q4
  exact lv_icmp_eq hx hb hd ht (fun z => kt z h1 h2 h3 h4 H locs la q1 q2 q3 q4) (fun z => kf z h1 h2 h3 h4 H locs la q1 q2 q3 q4)

theorem ca_if_ne (hX : ca_Good l y cc nL ret F mc ms N0 S0 sc post X) {x : Int32} {off : Int} (tgt : Nat) (ht : (pc : Int) + off = (tgt : Int)) (hq : pc + 3 = q) (hd : decode cc pc = .ok (.ifCond .ne off, 3)) (kt : ¬ x = 0 → X tgt ls st N S g) (kf : x = 0 → X q ls st N S g) : X pc ls (.int x :: st) N S g := by
  obtain ⟨p, e, R, s, m, args, below, meth, c, D, cI, ad, base, Q, rfl, hx, hb, hml, hown, hts, hK, hB, hR, hQ, hL⟩ := hX
  subst hq
  intro h1 h2 h3 h4 H locs la q1 q2 q3 q4
  exact lv_if_ne hx hb hd ht (fun z => kt z h1 h2 h3 h4 H locs la q1 q2 q3 q4) (fun z => kf z h1 h2 h3 h4 H locs la q1 q2 q3 q4)

theorem ca_icmp_ne (hX : ca_Good l y cc nL ret F mc ms N0 S0 sc post X) {x y0 : Int32} {off : Int} (tgt : Nat) (ht : (pc : Int) + off = (tgt : Int)) (hq : pc + 3 = q) (hd : decode cc pc = .ok (.if_icmp .ne off, 3)) (kt : ¬ x = y0 → X tgt ls st N S g) (kf : x = y0 → X q ls st N S g) : X pc ls (.int y0 :: .int x :: st) N S g := by
  obtain ⟨p, e, R, s, m, args, below, meth, c, D, cI, ad, base, Q, rfl, hx, hb, hml, hown, hts, hK, hB, hR, hQ, hL⟩ := hX
  subst hq
  intro h1 h2 h3 h4 H locs la q1 q2 q3 q4
  exact lv_icmp_ne hx hb hd ht (fun z => kt z h1 h2 h3 h4 H locs la q1 q2 q3 q4) (fun z => kf z h1 h2 h3 h4 H locs la q1 q2 q3 q4)

theorem ca_if_lt (hX : ca_Good l y cc nL ret F mc ms N0 S0 sc post X) {x : Int32} {off : Int} (tgt : Nat) (ht : (pc : Int) + off = (tgt : Int)) (hq : pc + 3 = q) (hd : decode cc pc = .ok (.ifCond .lt off, 3)) (kt : x < 0 → X tgt ls st N S g) (kf : ¬ x < 0 → X q ls st N S g) : X pc ls (.int x :: st) N S g := by
  obtain ⟨p, e, R, s, m, args, below, meth, c, D, cI, ad, base, Q, rfl, hx, hb, hml, hown, hts, hK, hB, hR, hQ, hL⟩ := hX
  subst hq
  intro h1 h2 h3 h4 H locs la q1 q2 q3 q4
  exact lv_if_lt hx hb hd ht (fun z => kt z h1 h2 h3 h4 H locs la q1 q2 q3 q4) (fun z => kf z h1 h2 h3 h4 H locs la q1 q2 q3 q4)

theorem ca_icmp_lt (hX : ca_Good l y cc nL ret F mc ms N0 S0 sc post X) {x y0 : Int32} {off : Int} (tgt : Nat) (ht : (pc : Int) + off = (tgt : Int)) (hq : pc + 3 = q) (hd : decode cc pc = .ok (.if_icmp .lt off, 3)) (kt : x < y0 → X tgt ls st N S g) (kf : ¬ x < y0 → X q ls st N S g) : X pc ls (.int y0 :: .int x :: st) N S g := by
  obtain ⟨p, e, R, s, m, args, below, meth, c, D, cI, ad, base, Q, rfl, hx, hb, hml, hown, hts, hK, hB, hR, hQ, hL⟩ := hX
  subst hq
  intro h1 h2 h3 h4 H locs la q1 q2 q3 q4
  exact lv_icmp_lt hx hb hd ht (fun z => kt z h1 h2 h3 h4 H locs la q1 q2 q3 q4) (fun z => kf z h1 h2 h3 h4 H locs la q1 q2 q3 q4)

theorem ca_if_ge (hX : ca_Good l y cc nL ret F mc ms N0 S0 sc post X) {x : Int32} {off : Int} (tgt : Nat) (ht : (pc : Int) + off = (tgt : Int)) (hq : pc + 3 = q) (hd : decode cc pc = .ok (.ifCond .ge off, 3)) (kt : 0 ≤ x → X tgt ls st N S g) (kf : ¬ 0 ≤ x → X q ls st N S g) : X pc ls (.int x :: st) N S g := by
  obtain ⟨p, e, R, s, m, args, below, meth, c, D, cI, ad, base, Q, rfl, hx, hb, hml, hown, hts, hK, hB, hR, hQ, hL⟩ := hX
  subst hq
  intro h1 h2 h3 h4 H locs la q1 q2 q3 q4
  exact lv_if_ge hx hb hd ht (fun z => kt z h1 h2 h3 h4 H locs la q1 q2 q3 q4) (fun z => kf z h1 h2 h3 h4 H locs la q1 q2 q3 q4)

theorem ca_icmp_ge (hX : ca_Good l y cc nL ret F mc ms N0 S0 sc post X) {x y0 : Int32} {off : Int} (tgt : Nat) (ht : (pc : Int) + off = (tgt : Int)) (hq : pc + 3 = q) (hd : decode cc pc = .ok (.if_icmp .ge off, 3)) (kt : y0 ≤ x → X tgt ls st N S g) (kf : ¬ y0 ≤ x → X q ls st N S g) : X pc ls (.int y0 :: .int x :: st) N S g := by
  obtain ⟨p, e, R, s, m, args, below, meth, c, D, cI, ad, base, Q, rfl, hx, hb, hml, hown, hts, hK, hB, hR, hQ, hL⟩ := hX
  subst hq
  intro h1 h2 h3 h4 H locs la q1 q2 q3 q4
  exact lv_icmp_ge hx hb hd ht (fun z => kt z h1 h2 h3 h4 H locs la q1 q2 q3 q4) (fun z => kf z h1 h2 h3 h4 H locs la q1 q2 q3 q4)

theorem ca_if_gt (hX : ca_Good l y cc nL ret F mc ms N0 S0 sc post X) {x : Int32} {off : Int} (tgt : Nat) (ht : (pc : Int) + off = (tgt : Int)) (hq : pc + 3 = q) (hd : decode cc pc = .ok (.ifCond .gt off, 3)) (kt : 0 < x → X tgt ls st N S g) (kf : ¬ 0 < x → X q ls st N S g) : X pc ls (.int x :: st) N S g := by
  obtain ⟨p, e, R, s, m, args, below, meth, c, D, cI, ad, base, Q, rfl, hx, hb, hml, hown, hts, hK, hB, hR, hQ, hL⟩ := hX
  subst hq
  intro h1 h2 h3 h4 H locs la q1 q2 q3 q4
  exact lv_if_gt hx hb hd ht (fun z => kt z h1 h2 h3 h4 H locs la q1 q2 q3 q4) (fun z => kf z h1 h2 h3 h4 H locs la q1 q2 q3 q4)

theorem ca_icmp_gt (hX : ca_Good l y cc nL ret F mc ms N0 S0 sc post X) {x y0 : Int32} {off : Int} (tgt : Nat) (ht : (pc : Int) + off = (tgt : Int)) (hq : pc + 3 = q) (hd : decode cc pc = .ok (.if_icmp .gt off, 3)) (kt : y0 < x → X tgt ls st N S g) (kf : ¬ y0 < x → X q ls st N S g) : X pc ls (.int y0 :: .int x :: st) N S g := by
  obtain ⟨p, e, R, s, m, args, below, meth, c, D, cI, ad, base, Q, rfl, hx, hb, hml, hown, hts, hK, hB, hR, hQ, hL⟩ := hX
  subst hq
  intro h1 h2 h3 h4 H locs la q1 q2 q3 q4
  exact lv_icmp_gt hx hb hd ht (fun z => kt z h1 h2 h3 h4 H locs la q1 q2 q3 q4) (fun z => kf z h1 h2 h3 h4 H locs la q1 q2 q3 q4)

theorem ca_if_le (hX : ca_Good l y cc nL ret F mc ms N0 S0 sc post X) {x : Int32} {off : Int} (tgt : Nat) (ht : (pc : Int) + off = (tgt : Int)) (hq : pc + 3 = q) (hd : decode cc pc = .ok (.ifCond .le off, 3)) (kt : x ≤ 0 → X tgt ls st N S g) (kf : ¬ x ≤ 0 → X q ls st N S g) : X pc ls (.int x :: st) N S g := by
  obtain ⟨p, e, R, s, m, args, below, meth, c, D, cI, ad, base, Q, rfl, hx, hb, hml, hown, hts, hK, hB, hR, hQ, hL⟩ := hX
  subst hq
  intro h1 h2 h3 h4 H locs la q1 q2 q3 q4
  exact lv_if_le hx hb hd ht (fun z => kt z h1 h2 h3 h4 H locs la q1 q2 q3 q4) (fun z => kf z h1 h2 h3 h4 H locs la q1 q2 q3 q4)

theorem ca_icmp_le (hX : ca_Good l y cc nL ret F mc ms N0 S0 sc post X) {x y0 : Int32} {off : Int} (tgt : Nat) (ht : (pc : Int) + off = (tgt : Int)) (hq : pc + 3 = q) (hd : decode cc pc = .ok (.if_icmp .le off, 3)) (kt : x ≤ y0 → X tgt ls st N S g) (kf : ¬ x ≤ y0 → X q ls st N S g) : X pc ls (.int y0 :: .int x :: st) N S g := by
  obtain ⟨p, e, R, s, m, args, below, meth, c, D, cI, ad, base, Q, rfl, hx, hb, hml, hown, hts, hK, hB, hR, hQ, hL⟩ := hX
  subst hq
  intro h1 h2 h3 h4 H locs la q1 q2 q3 q4
  exact lv_icmp_le hx hb hd ht (fun z => kt z h1 h2 h3 h4 H locs la q1 q2 q3 q4) (fun z => kf z h1 h2 h3 h4 H locs la q1 q2 q3 q4)

theorem ca_goto (hX : ca_Good l y cc nL ret F mc ms N0 S0 sc post X) {off : Int} (tgt : Nat) (ht : (pc : Int) + off = (tgt : Int)) (hd : decode cc pc = .ok (.goto off, 3)) (k : X tgt ls st N S g) : X pc ls st N S g := by
  obtain ⟨p, e, R, s, m, args, below, meth, c, D, cI, ad, base, Q, rfl, hx, hb, hml, hown, hts, hK, hB, hR, hQ, hL⟩ := hX
  intro h1 h2 h3 h4 H locs la q1 q2 q3 q4
  exact lv_goto hx hb hd ht (k h1 h2 h3 h4 H locs la q1 q2 q3 q4)

theorem ca_tabOut (hX : ca_Good l y cc nL ret F mc ms N0 S0 sc post X) {dflt lo hi : Int} {offs : Array Int} {len : Nat} {x : Int32} (tgt : Nat) (hd : decode cc pc = .ok (.tableswitch dflt lo hi offs, len)) (h : x.toInt < lo ∨ hi < x.toInt) (ht : (pc : Int) + dflt = (tgt : Int)) (k : X tgt ls st N S g) : X pc ls (.int x :: st) N S g := by
  obtain ⟨p, e, R, s, m, args, below, meth, c, D, cI, ad, base, Q, rfl, hx, hb, hml, hown, hts, hK, hB, hR, hQ, hL⟩ := hX
  intro h1 h2 h3 h4 H locs la q1 q2 q3 q4
  exact lv_tableOut hx hb hd h ht (k h1 h2 h3 h4 H locs la q1 q2 q3 q4)

theorem ca_tabIn (hX : ca_Good l y cc nL ret F mc ms N0 S0 sc post X) {dflt lo hi : Int} {offs : Array Int} {len : Nat} {x : Int32} {off : Int} (tgt : Nat) (hd : decode cc pc = .ok (.tableswitch dflt lo hi offs, len)) (ha : ¬ x.toInt < lo) (hb0 : ¬ hi < x.toInt) (ho : offs[(x.toInt - lo).toNat]? = some off) (ht : (pc : Int) + off = (tgt : Int)) (k : X tgt ls st N S g) : X pc ls (.int x :: st) N S g := by
  obtain ⟨p, e, R, s, m, args, below, meth, c, D, cI, ad, base, Q, rfl, hx, hb, hml, hown, hts, hK, hB, hR, hQ, hL⟩ := hX
  intro h1 h2 h3 h4 H locs la q1 q2 q3 q4
  exact lv_tableIn hx hb hd ha hb0 ho ht (k h1 h2 h3 h4 H locs la q1 q2 q3 q4)

theorem ca_look (hX : ca_Good l y cc nL ret F mc ms N0 S0 sc post X) {dflt : Int} {ps : Array (Int × Int)} {len : Nat} {x : Int32} {off : Int} (tgt : Nat) (hd : decode cc pc = .ok (.lookupswitch dflt ps, len)) (hp : (ps.toList.zip (ps.toList.drop 1)).all (fun (a, next) => a.1 < next.1) = true) (ho : Op.lookupswitch.offset ps.toList dflt x.toInt = off) (ht : (pc : Int) + off = (tgt : Int)) (k : X tgt ls st N S g) : X pc ls (.int x :: st) N S g := by
  obtain ⟨p, e, R, s, m, args, below, meth, c, D, cI, ad, base, Q, rfl, hx, hb, hml, hown, hts, hK, hB, hR, hQ, hL⟩ := hX
  intro h1 h2 h3 h4 H locs la q1 q2 q3 q4
  exact lv_lookup hx hb hd hp ho ht (k h1 h2 h3 h4 H locs la q1 q2 q3 q4)

theorem ca_iald (hX : ca_Good l y cc nL ret F mc ms N0 S0 sc post X) {i n : Nat} {f : Nat → Int32} {x : Int32} (hi : i < N) (hg : g i = .inl (n, f)) (hin : vp_in x n) (hq : pc + 1 = q) (hd : decode cc pc = .ok (.iaload, 1)) (k : X q ls (.int (f x.toNatClampNeg) :: st) N S g) : X pc ls (.int x :: .ref i :: st) N S g := by
  obtain ⟨p, e, R, s, m, args, below, meth, c, D, cI, ad, base, Q, rfl, hx, hb, hml, hown, hts, hK, hB, hR, hQ, hL⟩ := hX
  subst hq
  intro h1 h2 h3 h4 H locs la q1 q2 q3 q4
  exact va_iald hx hb hK.1 q2 i 0 (by rw [ca_ws_at hi, hg]; rfl) rfl hin hd (k h1 h2 h3 h4 H locs la q1 q2 q3 q4)

theorem ca_N (hX : ca_Good l y cc nL ret F mc ms N0 S0 sc post X) (hsc : sc = none) (hk : N ≤ 1000 → X pc ls st N S g) : X pc ls st N S g := by
  obtain ⟨p, e, R, s, m, args, below, meth, c, D, cI, ad, base, Q, rfl, hx, hb, hml, hown, hts, hK, hB, hR, hQ, hL⟩ := hX
  intro h1 h2 h3 h4 H locs la q1 q2 q3 q4
  exact hk (by have := (hQ hsc).1; omega) h1 h2 h3 h4 H locs la q1 q2 q3 q4

theorem ca_iast (hX : ca_Good l y cc nL ret F mc ms N0 S0 sc post X) {i n : Nat} {f : Nat → Int32} {x v : Int32} (hi : i < N) (hN : N ≤ 1000) (hS : 1000000 ≤ S) (hg : g i = .inl (n, f)) (hin : vp_in x n) (hq : pc + 1 = q) (hd : decode cc pc = .ok (.iastore, 1)) (k : X q ls st N S (ca_up g i (.inl (n, upd f x.toNatClampNeg v)))) : X pc ls (.int v :: .int x :: .ref i :: st) N S g := by
  obtain ⟨p, e, R, s, m, args, below, meth, c, D, cI, ad, base, Q, rfl, hx, hb, hml, hown, hts, hK, hB, hR, hQ, hL⟩ := hX
  subst hq
  intro h1 h2 h3 h4 H locs la q1 q2 q3 q4
  refine va_iast hx hb hK.1 q2 (ca_D hB.1 hN) q3 i 0 (a := ad i) (cA := cI) (n := n) (f := f) (by rw [ca_ws_at hi, hg]; rfl) rfl hin hd (fun H1 locs1 p2 p3 p4 => ?_)
  rw [show ((ad i, Sum.inl (cI, n, Sum.inl (upd f x.toNatClampNeg v))) : Nat × va_E) = (ad i, ca_cz ad cI (.inl (n, upd f x.toNatClampNeg v))) from rfl, ca_ws_set _ hi] at p2
  exact k h1 h2 h3 h4 H1 locs1 la (fun z => absurd z (by omega)) p2 p4 q4

theorem ca_alen (hX : ca_Good l y cc nL ret F mc ms N0 S0 sc post X) {i n : Nat} {f : Nat → Int32} {v : Int32} (hi : i < N) (hg : g i = .inl (n, f)) (hv : Int32.ofNat n = v) (hq : pc + 1 = q) (hd : decode cc pc = .ok (.arraylength, 1)) (k : X q ls (.int v :: st) N S g) : X pc ls (.ref i :: st) N S g := by
  obtain ⟨p, e, R, s, m, args, below, meth, c, D, cI, ad, base, Q, rfl, hx, hb, hml, hown, hts, hK, hB, hR, hQ, hL⟩ := hX
  subst hq
  intro h1 h2 h3 h4 H locs la q1 q2 q3 q4
  exact va_alen hx hb hK.1 q2 i 0 (x := (n, .inl f)) (by rw [ca_ws_at hi, hg]; rfl) rfl hv hd (k h1 h2 h3 h4 H locs la q1 q2 q3 q4)

theorem ca_getf (hX : ca_Good l y cc nL ret F mc ms N0 S0 sc post X) {idx ci n i : Nat} {C : String} {T : u_T} {ty0 : Nat → FieldType} {fs : List Value} {v : Value} (hC : ca_CL ci C T n ty0) (k : Nat) (hk : k < n) (hl : Cond.fieldLink y.cls idx C (T k).2.1 (T k).2.2.1 ∈ ca_TT) (hi : i < N) (hg : g i = .inr (ci, fs)) (hv : fs[k]? = some v) (hq : pc + 3 = q) (hd : decode cc pc = .ok (.getfield idx, 3)) (kk : X q ls (v :: st) N S g) : X pc ls (.ref i :: st) N S g := by
  obtain ⟨p, e, R, s, m, args, below, meth, c, D, cI, ad, base, Q, rfl, hx, hb, hml, hown, hts, hK, hB, hR, hQ, hL⟩ := hX
  subst hq
  intro h1 h2 h3 h4 H locs la q1 q2 q3 q4
  exact va_get (C := C) (T := T) (N := n) (ref := C) hx hb hts hC.2.1 hown hK.1 q2 i (by rw [ca_ws_at hi, hg]; rfl) hC.1 k hk (hts _ hl) (by rw [hC.2.2.2.2 k hk]; exact fun _ h => h) (v := ca_vz ad v) (by rw [List.getElem?_map, hv]; rfl) hd (kk h1 h2 h3 h4 H locs la q1 q2 q3 q4)

theorem ca_getN (hX : ca_Good l y cc nL ret F mc ms N0 S0 sc post X) {idx ci n i : Nat} {C host : String} {T : u_T} {ty0 : Nat → FieldType} {fs : List Value} {v : Value} (hC : ca_CL ci C T n ty0) (k : Nat) (hk : k < n) (hl : Cond.fieldLinkNest y.cls idx C (T k).2.1 (T k).2.2.1 host ∈ ca_NT) (hi : i < N) (hg : g i = .inr (ci, fs)) (hv : fs[k]? = some v) (hq : pc + 3 = q) (hd : decode cc pc = .ok (.getfield idx, 3)) (kk : X q ls (v :: st) N S g) : X pc ls (.ref i :: st) N S g := by
  obtain ⟨p, e, R, s, m, args, below, meth, c, D, cI, ad, base, Q, rfl, hx, hb, hml, hown, hts, hK, hB, hR, hQ, hL⟩ := hX
  subst hq
  intro h1 h2 h3 h4 H locs la q1 q2 q3 q4
  exact va_getN (C := C) (T := T) (N := n) (ref := C) (host := host) hx hb hts hC.2.1 hown hK.1 q2 i (by rw [ca_ws_at hi, hg]; rfl) hC.1 k hk (va_Nw.use rfl (hK.2.1 _ hl)) (by rw [hC.2.2.2.2 k hk]; exact fun _ h => h) (v := ca_vz ad v) (by rw [List.getElem?_map, hv]; rfl) hd (kk h1 h2 h3 h4 H locs la q1 q2 q3 q4)

theorem ca_put (hX : ca_Good l y cc nL ret F mc ms N0 S0 sc post X) {idx ci n i : Nat} {C : String} {T : u_T} {ty0 : Nat → FieldType} {fs : List Value} {v : Value} (hC : ca_CL ci C T n ty0) (k : Nat) (hk : k < n) (hl : Cond.fieldLink y.cls idx C (T k).2.1 (T k).2.2.1 ∈ ca_TT) (hf : (T k).2.2.2 = false ∨ (y.name = "<init>" ∧ C = y.cls)) (hn : ∀ ad, narrow (ty0 k) (ca_vz ad v) = ca_vz ad v) (hfit : ∀ ad, fits (ty0 k) (ca_vz ad v) = true) (hi : i < N) (hN : N ≤ 1000) (hg : g i = .inr (ci, fs)) (hlen : k < fs.length) (hq : pc + 3 = q) (hd : decode cc pc = .ok (.putfield idx, 3)) (kk : X q ls st N S (ca_up g i (.inr (ci, fs.set k v)))) : X pc ls (v :: .ref i :: st) N S g := by
  obtain ⟨p, e, R, s, m, args, below, meth, c, D, cI, ad, base, Q, rfl, hx, hb, hml, hown, hts, hK, hB, hR, hQ, hL⟩ := hX
  subst hq
  intro h1 h2 h3 h4 H locs la q1 q2 q3 q4
  refine ca_putW hx hb hts hC hown hK.1 q2 (ca_D hB.1 hN) q3 i (a := ad i) (fs := fs.map (ca_vz ad)) (by rw [ca_ws_at hi, hg]; rfl) k hk hl (by rw [hR.2.2]; exact hf) (hn ad) (hfit ad) (by rw [List.length_map]; exact hlen) hd (fun H1 locs1 z p2 p4 => ?_)
  rw [show ((ad i, Sum.inr (ci, (fs.map (ca_vz ad)).set k (ca_vz ad v))) : Nat × va_E) = (ad i, ca_cz ad cI (.inr (ci, fs.set k v))) by rw [← List.map_set]; rfl, ca_ws_set _ hi] at p2
  exact kk h1 h2 h3 h4 H1 locs1 la (fun w => by rw [z]; exact q1 w) p2 p4 q4

theorem ca_newa (hX : ca_Good l y cc nL ret F mc ms N0 S0 sc post X) {n : Nat} {x : Int32} (hA : Cond.arrayClass .int ∈ ca_TT) (hx0 : x = nI n) (hn : n < 100000) (hN : N < 1000) (hc : N + 1 ≤ N0 + mc) (hs : S + n ≤ S0 + ms) (hS : S < 1000000) (hq : pc + 2 = q) (hd : decode cc pc = .ok (.newarray .int, 2)) (kk : X q ls (.ref N :: st) (N + 1) (S + n) (ca_up g N (.inl (n, fun _ => 0)))) : X pc ls (.int x :: st) N S g := by
  obtain ⟨p, e, R, s, m, args, below, meth, c, D, cI, ad, base, Q, rfl, hx, hb, hml, hown, hts, hK, hB, hR, hQ, hL⟩ := hX
  subst hq
  intro h1 h2 h3 h4 H locs la q1 q2 q3 q4
  subst hx0
  have hz := q1 hS
  have hAr : (Cond.arrayClass (newarray.typeOf .int)).before args s = true := hts _ hA
  refine va_newaK (N := n) hx hb hAr rfl hd rfl (nI_pos (by omega)) (nI_clamp (by omega)) (by show n * 4 ≤ _; omega) (by have := hB.2.2.2.2.1; omega) (by have := hB.2.2.2.2.2; omega) hz (fun H1 cA e1 z1 o1 hAo hNm => ?_)
  have hcA : cA = cI := by
    have h5 := (hK.1.2 0 _ rfl).2
    exact Option.some.inj (hNm.symm.trans h5)
  subst hcA
  have hk : ∀ (j : Nat) (w : Nat × va_E), (ca_ws ad cA N g)[j]? = some w → H1[w.1]? = H[w.1]? := fun j w hw => o1 w.1 (by have := (q2 j w hw).lt; omega)
  have p2 : va_P D vwCl (ca_ws ad cA (N + 1) (ca_up g N (.inl (n, fun _ => 0)))) H1 := by
    rw [← ca_ws_push]
    refine (q2.kept hk).app (fun j w hw => ?_)
    have hj : j < 1 := (List.getElem?_eq_some_iff.mp hw).1
    rw [show j = 0 by omega] at hw
    cases hw
    show H1[ad N]? = some (vp_cell cA (n, .inl (fun _ => 0)))
    rw [hB.1 N hN, e1]
    rfl
  have hw := kk (by omega) hc (by omega) hs H1 locs la (fun _ => by omega) p2 ⟨by have := q3.1; omega, fun w b1 b2 => (o1 w (by have := hB.2.1; have := q3.1; omega)).trans (q3.2.1 w b1 b2), q3.2.2⟩ q4
  have eW : (Value.ref N :: st).map (ca_vz ad) = .ref (base + N) :: st.map (ca_vz ad) := by
    show Value.ref (ad N) :: _ = _
    rw [hB.1 N hN]
  rw [eW] at hw
  exact W.cs (by omega) (by omega) hw

theorem ca_new (hX : ca_Good l y cc nL ret F mc ms N0 S0 sc post X) {idx ci n : Nat} {C : String} {T : u_T} {ty0 : Nat → FieldType} {fs : List Value} (hC : ca_CL ci C T n ty0) (w1 : Cond.classLink y.cls idx C ∈ ca_TT) (w2 : Cond.instantiable C n ∈ ca_TT) (w3 : Cond.initialized C ∈ ca_TT) (hfs : ∀ ad j, j < n → defaultValue (ty0 j) = vp_V (fs.map (ca_vz ad)) j) (hN : N < 1000) (hc : N + 1 ≤ N0 + mc) (hs : S + n ≤ S0 + ms) (hS : S < 1000000) (hq : pc + 3 = q) (hd : decode cc pc = .ok (.new idx, 3)) (kk : X q ls (.ref N :: st) (N + 1) (S + n) (ca_up g N (.inr (ci, fs)))) : X pc ls st N S g := by
  obtain ⟨p, e, R, s, m, args, below, meth, c, D, cI, ad, base, Q, rfl, hx, hb, hml, hown, hts, hK, hB, hR, hQ, hL⟩ := hX
  subst hq
  intro h1 h2 h3 h4 H locs la q1 q2 q3 q4
  have hz := q1 hS
  have hKn := hK.1.1 ci _ hC.1
  refine W.newcK hx hb hown (hts _ w1) (hts _ w2) (hts _ w3) rfl hd (by have := hB.2.2.2.2.1; omega) (by have := hB.2.2.2.2.2; omega) hKn.2.1 hz (fun H1 kC hkC e1 z1 o1 => ?_)
  have hk : ∀ (j : Nat) (w : Nat × va_E), (ca_ws ad cI N g)[j]? = some w → H1[w.1]? = H[w.1]? := fun j w hw => o1 w.1 (by have := (q2 j w hw).lt; omega)
  have p2 : va_P D vwCl (ca_ws ad cI (N + 1) (ca_up g N (.inr (ci, fs)))) H1 := by
    rw [← ca_ws_push]
    refine (q2.kept hk).app (fun j w hw => ?_)
    have hj : j < 1 := (List.getElem?_eq_some_iff.mp hw).1
    rw [show j = 0 by omega] at hw
    cases hw
    rw [← hB.1 N hN] at e1
    exact ⟨_, hC.1, (u_born ty0 hts hC.2.1 hKn hkC e1 hC.2.2.1).to (hfs ad)⟩
  have hw := kk (by omega) hc (by omega) hs H1 locs la (fun _ => by omega) p2 ⟨by have := q3.1; omega, fun w b1 b2 => (o1 w (by have := hB.2.1; have := q3.1; omega)).trans (q3.2.1 w b1 b2), q3.2.2⟩ q4
  have eW : (Value.ref N :: st).map (ca_vz ad) = .ref (base + N) :: st.map (ca_vz ad) := by
    show Value.ref (ad N) :: _ = _
    rw [hB.1 N hN]
  rw [eW] at hw
  exact W.cs (by omega) (by omega) hw

theorem ca_obj (hX : ca_Good l y cc nL ret F mc ms N0 S0 sc post X) {idx i : Nat} (w1 : Cond.methodLink y.cls idx Lib.objectInit ∈ ca_TT) (w2 : Cond.instanceMethod Lib.objectInit ∈ ca_TT) (w3 : Cond.code Lib.objectInit ⟨#[0xb1]⟩ 1 none ∈ ca_TT) (hF : 1 ≤ F) (hst : (st.map fun v => v.category).sum ≤ 8) (hq : pc + 3 = q) (hd : decode cc pc = .ok (.invokespecial idx, 3)) (kk : X q ls st N S g) : X pc ls (.ref i :: st) N S g := by
  obtain ⟨p, e, R, s, m, args, below, meth, c, D, cI, ad, base, Q, rfl, hx, hb, hml, hown, hts, hK, hB, hR, hQ, hL⟩ := hX
  subst hq
  intro h1 h2 h3 h4 H locs la q1 q2 q3 q4
  have hcat : ((st.map (ca_vz ad)).map fun v => v.category).sum = (st.map fun v => v.category).sum := by
    rw [List.map_map]; congr 1; apply List.map_congr_left; intro v _; exact ca_vz_cat ad v
  exact W.objInit hx hb hown (hts _ w1) (hts _ w2) (hts _ w3) rfl (by show la.size = _; rw [q4.1, hml]) rfl hd (by have := hB.2.2.1; omega) (by rw [hcat]; show 2 * 0 + _ + 12 ≤ _; have := hB.2.2.2.1; omega) (kk h1 h2 h3 h4 H locs la q1 q2 q3 q4)

theorem ca_retW {s : State} {args : Array Value} {D : va_G} {cI : ClassId} {ad : Nat → Nat} {base : Nat} {H : Heap} {locs : List Loc} {r : Option Value} (hp : post r g) (q1 : S0 + ms < 1000000 → H.size = base + (N0 + mc)) (q2 : va_P D vwCl (ca_ws ad cI (N0 + mc) g) H) (q3 : va_S (fun q => base ≤ q) s.heap H locs) (t : State) (ht : t.heap = H) (_ : s.WarmedH t.vm) : ca_Q D cI ad base (N0 + mc) (S0 + ms) post args s (.returned (r.map (ca_vz ad))) t :=
  ⟨r, g, rfl, hp, fun z => by rw [ht]; exact q1 z, by rw [ht]; exact q2, q3.F ht⟩

theorem ca_iret (hX : ca_Good l y cc nL ret F mc ms N0 S0 sc post X) (hsc : sc = none) {v : Int32} (hr : ret = some .int) (hN : N = N0 + mc) (hS : S = S0 + ms) (hd : decode cc pc = .ok (.ireturn, 1)) (hp : post (some (.int v)) g) : X pc ls [.int v] N S g := by
  obtain ⟨p, e, R, s, m, args, below, meth, c, D, cI, ad, base, Q, rfl, hx, hb, hml, hown, hts, hK, hB, hR, hQ, hL⟩ := hX
  intro h1 h2 h3 h4 H locs la q1 q2 q3 q4
  obtain ⟨-, rfl⟩ := hQ hsc
  subst hN
  subst hS
  have hlocks := hR.2.1
  refine W.widen (k := mc) (n := ms) (by omega) (by omega) ?_
  exact W.iret hx hb (by rw [hR.1]; exact hr) (ca_retW hp q1 q2 q3) (fun l hl => q3.2.2 l hl) hd hlocks

theorem ca_zret (hX : ca_Good l y cc nL ret F mc ms N0 S0 sc post X) (hsc : sc = none) {v : Int32} {ty : FieldType} (hr : ret = some ty) (hn : narrow ty (.int v) = .int v) (hN : N = N0 + mc) (hS : S = S0 + ms) (hd : decode cc pc = .ok (.ireturn, 1)) (hp : post (some (.int v)) g) : X pc ls [.int v] N S g := by
  obtain ⟨p, e, R, s, m, args, below, meth, c, D, cI, ad, base, Q, rfl, hx, hb, hml, hown, hts, hK, hB, hR, hQ, hL⟩ := hX
  intro h1 h2 h3 h4 H locs la q1 q2 q3 q4
  obtain ⟨-, rfl⟩ := hQ hsc
  subst hN
  subst hS
  have hlocks := hR.2.1
  refine W.widen (k := mc) (n := ms) (by omega) (by omega) ?_
  exact W.zret hx hb (by rw [hR.1]; exact hr) hn (ca_retW hp q1 q2 q3) (fun l hl => q3.2.2 l hl) hd hlocks

theorem ca_lret (hX : ca_Good l y cc nL ret F mc ms N0 S0 sc post X) (hsc : sc = none) {v : Int64} (hr : ret = some .long) (hN : N = N0 + mc) (hS : S = S0 + ms) (hd : decode cc pc = .ok (.lreturn, 1)) (hp : post (some (.long v)) g) : X pc ls [.long v] N S g := by
  obtain ⟨p, e, R, s, m, args, below, meth, c, D, cI, ad, base, Q, rfl, hx, hb, hml, hown, hts, hK, hB, hR, hQ, hL⟩ := hX
  intro h1 h2 h3 h4 H locs la q1 q2 q3 q4
  obtain ⟨-, rfl⟩ := hQ hsc
  subst hN
  subst hS
  have hlocks := hR.2.1
  refine W.widen (k := mc) (n := ms) (by omega) (by omega) ?_
  exact W.lret hx hb (by rw [hR.1]; exact hr) (ca_retW hp q1 q2 q3) (fun l hl => q3.2.2 l hl) hd hlocks

theorem ca_vret (hX : ca_Good l y cc nL ret F mc ms N0 S0 sc post X) (hsc : sc = none) (hr : ret = none) (hN : N = N0 + mc) (hS : S = S0 + ms) (hd : decode cc pc = .ok (.return_, 1)) (hp : post none g) : X pc ls [] N S g := by
  obtain ⟨p, e, R, s, m, args, below, meth, c, D, cI, ad, base, Q, rfl, hx, hb, hml, hown, hts, hK, hB, hR, hQ, hL⟩ := hX
  intro h1 h2 h3 h4 H locs la q1 q2 q3 q4
  obtain ⟨-, rfl⟩ := hQ hsc
  subst hN
  subst hS
  have hlocks := hR.2.1
  refine W.widen (k := mc) (n := ms) (by omega) (by omega) ?_
  exact W.vret hx hb (by rw [hR.1]; exact hr) (ca_retW hp q1 q2 q3) (fun l hl => q3.2.2 l hl) hd hlocks

theorem ca_aret (hX : ca_Good l y cc nL ret F mc ms N0 S0 sc post X) (hsc : sc = none) {i : Nat} {rt : FieldType} (hr : ret = some rt) (hrt : (∃ n, rt = .object n) ∨ ∃ t, rt = .array t) (hN : N = N0 + mc) (hS : S = S0 + ms) (hd : decode cc pc = .ok (.areturn, 1)) (hp : post (some (.ref i)) g) : X pc ls [.ref i] N S g := by
  obtain ⟨p, e, R, s, m, args, below, meth, c, D, cI, ad, base, Q, rfl, hx, hb, hml, hown, hts, hK, hB, hR, hQ, hL⟩ := hX
  intro h1 h2 h3 h4 H locs la q1 q2 q3 q4
  obtain ⟨-, rfl⟩ := hQ hsc
  subst hN
  subst hS
  have hlocks := hR.2.1
  refine W.widen (k := mc) (n := ms) (by omega) (by omega) ?_
  exact W.aret hx hb (by rw [hR.1]; exact hr) hrt (Or.inr ⟨ad i, rfl⟩) (ca_retW hp q1 q2 q3) (fun l hl => q3.2.2 l hl) hd hlocks

end CARULES
end
section
/-! a method's contract, how it is begun, how it is used -/
def ca_Ct (l : Launch) (y : MethodName) (cc : ByteArray) (nL : Nat) (ret : Option FieldType) (F mc ms N S0 : Nat) (As : List Value) (g : ca_G) (post : ca_Post) : Prop :=
  ∀ (D : va_G) (cI : ClassId) (ad : Nat → Nat) (base : Nat), Met l y (Cond.code y cc nL ret :: ca_TT) { frames := F, cells := mc, slots := ms, locals := 37 * F }
    (va_Pc (As.map (ca_vz ad)) (fun U => (S0 < 1000000 → U.heap.size = base + N) ∧ va_P D vwCl (ca_ws ad cI N g) U.heap ∧ ca_KK D cI ad base U ∧ (∀ i, i < 1000 → ad i = base + i) ∧ N + mc ≤ 1000 ∧ base ≤ U.heap.size))
    (ca_Q D cI ad base (N + mc) (S0 + ms) post) mc ms (fun q => base ≤ q)
theorem ca_intro {l : Launch} {y : MethodName} {cc : ByteArray} {nL : Nat} {ret : Option FieldType} {F mc ms N S0 : Nat} {As : List Value} {g : ca_G} {post : ca_Post} (hy : plainName y.cls = true) (hA : (ca_en As).length ≤ nL)
    (body : ∀ X, ca_Good l y cc nL ret F mc ms N S0 none post X → N ≤ 1000 → X 0 (ca_en As ++ List.replicate (nL - (ca_en As).length) none) [] N S0 g) : ca_Ct l y cc nL ret F mc ms N S0 As g post := by
  intro D cI ad base
  refine Met.ofW (cc := cc) (maxL := nL) (ret := ret) hy rfl ?_
  intro p e s m args below meth c s₁ B hml hv
  obtain ⟨rfl, hsz, hP, hK, had, hN, hbs⟩ := hv
  have hts := atoms_spec (ws := Cond.code y cc nL ret :: ca_TT) B.pre
  have hown : s.vm.findClass y.cls = some m.cls := findClass_of_methodNamed B.named
  have hb := body (ca_X p l e { frames := F, cells := mc, slots := ms, locals := 37 * F } s m (As.map (ca_vz ad)).toArray below meth c (MQ below (ca_Q D cI ad base (N + mc) (S0 + ms) post) (As.map (ca_vz ad)).toArray s mc ms (fun q => base ≤ q)) nL D cI ad base N S0 mc ms)
    ⟨p, e, _, s, m, _, below, meth, c, D, cI, ad, base, _, rfl, B.exec, B.bytes, hml, hown, fun w hw => hts w (List.mem_cons_of_mem _ hw), hK, ⟨had, hbs, Nat.le_refl _, Nat.le_refl _, Nat.le_refl _, Nat.le_refl _⟩, ⟨B.returns, B.notSynchronized, (name_of_methodNamed B.named B.method).1⟩, fun _ => ⟨hN, rfl⟩, fun L xs h => by cases h⟩ (by omega)
  have hl := lv_entry (As.map (ca_vz ad)) (n := nL) (by rw [ca_en_len]; exact hA)
  have hl2 : lv_has ((lg_sl (As.map (ca_vz ad)) ++ List.replicate (nL - (lg_sl (As.map (ca_vz ad))).length) Slot.unset).toArray) nL (ca_lv ad 0 (ca_en As ++ List.replicate (nL - (ca_en As).length) none)) := ⟨hl.1, hl.2.1, fun q hq => hl.2.2 q (ca_en_lv As 0 _ hq)⟩
  have hw := hb (Nat.le_refl _) (by omega) (Nat.le_refl _) (by omega) s.heap [] _ hsz hP va_S.rf hl2
  rw [lg_entry_eq]
  exact W.cs (by omega) (by omega) hw
theorem ca_goodIn {y : MethodName} {cc : ByteArray} {nL : Nat} {ret : Option FieldType} (h : Cond.code y cc nL ret ∈ ca_TT) : GoodIn ca_TT (Cond.code y cc nL ret :: ca_TT) := by
  intro w hw
  have hm : w ∈ ca_TT := by
    rcases List.mem_cons.mp hw with rfl | hw
    · exact h
    · exact hw
  exact ⟨hm, good_of_word (List.mem_filter.mp hm).2⟩
/-- what a call needs of the tables: the callee -/
def ca_Y (y : MethodName) (cc : ByteArray) (nL : Nat) (ret : Option FieldType) (n : Nat) : Prop := Cond.code y cc nL ret ∈ ca_TT ∧ Cond.initialized y.cls ∈ ca_TT ∧ (y.cls ≠ "java/lang/invoke/MethodHandle" ∧ y.cls ≠ "java/lang/invoke/VarHandle" ∧ (parseMethodDescriptor y.desc).map (fun d => d.parameters.length) = some n) ∧ nL ≤ 18
def ca_YV (y : MethodName) (cc : ByteArray) (nL : Nat) (ret : Option FieldType) (n ci : Nat) : Prop := ca_Y y cc nL ret n ∧ Cond.instanceMethod y ∈ ca_TT ∧ Cond.selects y.cls y y ∈ ca_TT ∧ (vwCl[ci]?).map (fun q => q.1) = some y.cls
def ca_YS (y : MethodName) (cc : ByteArray) (nL : Nat) (ret : Option FieldType) (n : Nat) : Prop := ca_Y y cc nL ret n ∧ Cond.static y ∈ ca_TT
def ca_YI (y : MethodName) (cc : ByteArray) (nL : Nat) (n : Nat) : Prop := ca_Y y cc nL none n ∧ y.name = "<init>" ∧ Cond.instanceMethod y ∈ ca_TT
section CACALLS
variable {l : Launch} {y : MethodName} {cc : ByteArray} {nL : Nat} {ret : Option FieldType} {F mc ms N0 S0 : Nat} {sc : ca_Sc} {post : ca_Post} {X : ca_J}
variable {pc q : Nat} {ls : List (Option Value)} {st : List Value} {N S : Nat} {g : ca_G}
variable {y' : MethodName} {cc' : ByteArray} {nL' : Nat} {ret' : Option FieldType} {F' mc' ms' S0' idx : Nat} {post' : ca_Post} {As : List Value}
/-- behind a call -/
theorem ca_back {p : Program} {e : Env} {R : Room} {s : State} {m : MethodId} {args a : Array Value} {below : List Frame} {meth : Method} {c : Code} {D : va_G} {cI : ClassId} {ad : Nat → Nat} {base : Nat} {Q : State → Prop} {H : Heap} {locs : List Loc} {la : Array Slot} {st0 : List Value}
    (h1 : N0 ≤ N) (h3 : S0 ≤ S) (hc : N + mc' ≤ N0 + mc) (hs : S + ms' ≤ S0 + ms) (hSS : S + ms' < 1000000 → S0' + ms' < 1000000) (q3 : va_S (fun q => base ≤ q) s.heap H locs) (q4 : lv_has la nL (ca_lv ad 0 ls))
    (hr : va_Run p l e R s m args below meth c H locs (N - N0) (S - S0) mc' ms' (F0 m pc la st0) (st.map (ca_vz ad)) (ca_Q D cI ad base (N + mc') (S0' + ms') post' a) (fun q => base ≤ q))
    (kk : ∀ (r : Option Value) (g' : ca_G), post' r g' → ca_X p l e R s m args below meth c Q nL D cI ad base N0 S0 mc ms (pc + 3) ls (r.toList ++ st) (N + mc') (S + ms') g') : W p l e R s m args below meth c H locs (N - N0) (S - S0) Q (F0 m pc la st0) := by
  intro T hT X0
  obtain ⟨v, st₀, t, T', L, b0, X', hL, e1, e2, ⟨r, g', hv, hp, hz, hP, hF⟩, stp⟩ := hr T hT X0
  cases hv
  have hS' : va_S (fun q => base ≤ q) s.heap T'.heap (locs ++ L) := by
    rw [e1]
    rw [va_F, b0] at hF
    refine ⟨Nat.le_trans q3.1 hF.1, fun w z1 z2 => (hF.2 w (Nat.lt_of_lt_of_le z1 q3.1) z2).trans (q3.2.1 w z1 z2), fun w hw => ?_⟩
    rcases List.mem_append.mp hw with z | z
    · exact q3.2.2 w z
    · exact hL w z
  have hw := kk r g' hp (by omega) hc (by omega) hs T'.heap (locs ++ L) la (fun z => by rw [e1]; exact hz (hSS z)) (by rw [e1]; exact hP) hS' q4
  have eV : (r.toList ++ st).map (ca_vz ad) = (r.map (ca_vz ad)).toList ++ st.map (ca_vz ad) := by cases r <;> simp
  rw [eV] at hw
  have hw2 := W.cs (cells := N - N0 + mc') (slots := S - S0 + ms') (by omega) (by omega) hw
  obtain ⟨t2, a1, b1⟩ := hw2 T' rfl X'
  exact ⟨t2, stp t2 a1, b1⟩
theorem ca_Pblind {D : va_G} {cI : ClassId} {ad : Nat → Nat} {base : Nat} {as : List Value} {n1 n2 n3 : Nat} : FrameBlind (va_Pc as (fun U => (n1 < 1000000 → U.heap.size = base + n2) ∧ va_P D vwCl (ca_ws ad cI n2 g) U.heap ∧ ca_KK D cI ad base U ∧ (∀ i, i < 1000 → ad i = base + i) ∧ n2 + n3 ≤ 1000 ∧ base ≤ U.heap.size)) := by
  intro a U g0 mk h
  obtain ⟨e, z1, z2, z3, z4, z5, z6⟩ := h
  exact ⟨e, z1, z2, z3.call g0 mk a, z4, z5, z6⟩
theorem ca_cat {ad : Nat → Nat} (st : List Value) : ((st.map (ca_vz ad)).map fun v => v.category).sum = (st.map fun v => v.category).sum := by
  rw [List.map_map]; congr 1; apply List.map_congr_left; intro v _; exact ca_vz_cat ad v
theorem ca_callV (hX : ca_Good l y cc nL ret F mc ms N0 S0 sc post X) {n ci i : Nat} {fs : List Value} (hY : ca_YV y' cc' nL' ret' n ci) (hl : Cond.methodLink y.cls idx y' ∈ ca_TT) (hi : i < N) (hN : N + mc' ≤ 1000) (hg : g i = .inr (ci, fs)) (hC : ca_Ct l y' cc' nL' ret' F' mc' ms' N S0' (.ref i :: As) g post') (hF : F' < F) (hc : N + mc' ≤ N0 + mc) (hs : S + ms' ≤ S0 + ms) (hSS : (S < 1000000 ∧ S + ms' < 1000000 ∧ S0' = 0) ∨ (1000000 ≤ S ∧ 1000000 ≤ S0')) (hn : As.length = n) (hst : (st.map fun v => v.category).sum ≤ 8) (hq : pc + 3 = q) (hd : decode cc pc = .ok (.invokevirtual idx, 3)) {stk : List Value} (hk : stk = As.reverse ++ .ref i :: st)
    (kk : ∀ (r : Option Value) (g' : ca_G), post' r g' → X q ls (r.toList ++ st) (N + mc') (S + ms') g') : X pc ls stk N S g := by
  obtain ⟨p, e, R, s, m, args, below, meth, c, D, cI, ad, base, Q, rfl, hx, hb, hml, hown, hts, hK, hB, hR, hQ, hL⟩ := hX
  subst hq
  subst hk
  intro h1 h2 h3 h4 H locs la q1 q2 q3 q4
  obtain ⟨⟨w1, w2, w3, w4⟩, w5, w6, w7⟩ := hY
  obtain ⟨qC, hqC, hqn⟩ := Option.map_eq_some_iff.mp w7
  have hrec := va_recv (a := ad i) (q0 := i) (ci := ci) (q := qC) (fs := fs.map (ca_vz ad)) hK.1 q2 hqC (by rw [ca_ws_at hi, hg]; rfl)
  rw [show qC.1 = y'.cls from hqn] at hrec
  refine ca_back (mc' := mc') (ms' := ms') (S0' := S0') (post' := post') (a := (Value.ref (ad i) :: As.map (ca_vz ad)).toArray) h1 h3 hc hs (by omega) q3 q4 ?_ kk
  refine va_runV (C := y'.cls) (nL := nL) (b := ad i) (As := As.map (ca_vz ad)) ⟨hx, hb, hml, hown, hts⟩ (hC D cI ad base) ⟨callB_of n hts (ca_goodIn w1) rfl rfl rfl (hts _ w2) (hts _ hl) w3 ⟨by show F' + 1 ≤ _; have := hB.2.2.1; omega, by show 8 + (nL' + 11) + 37 * F' ≤ _; have := hB.2.2.2.1; omega⟩, hts _ w5, hts _ w6⟩ ⟨ca_Pblind, hrec, fun U hU hW => ⟨rfl, ?_⟩⟩ rfl (by rw [List.length_map]; exact hn) q4.1 (by show List.map _ _ = _; simp [ca_vz]) (by rw [ca_cat]; show 2 * 0 + _ ≤ 8; omega) hd ⟨by have := hB.2.2.2.2.1; omega, by have := hB.2.2.2.2.2; omega⟩
  exact ⟨fun z => by rw [hU]; exact q1 (by omega), by rw [hU]; exact q2, hK.warm q3 hU hW, hB.1, hN, by rw [hU]; exact Nat.le_trans hB.2.1 q3.1⟩
theorem ca_callS (hX : ca_Good l y cc nL ret F mc ms N0 S0 sc post X) {n : Nat} (hY : ca_YS y' cc' nL' ret' n) (hl : Cond.methodLink y.cls idx y' ∈ ca_TT) (hN : N + mc' ≤ 1000) (hC : ca_Ct l y' cc' nL' ret' F' mc' ms' N S0' As g post') (hF : F' < F) (hc : N + mc' ≤ N0 + mc) (hs : S + ms' ≤ S0 + ms) (hSS : (S < 1000000 ∧ S + ms' < 1000000 ∧ S0' = 0) ∨ (1000000 ≤ S ∧ 1000000 ≤ S0')) (hn : As.length = n) (hst : (st.map fun v => v.category).sum ≤ 8) (hq : pc + 3 = q) (hd : decode cc pc = .ok (.invokestatic idx, 3)) {stk : List Value} (hk : stk = As.reverse ++ st)
    (kk : ∀ (r : Option Value) (g' : ca_G), post' r g' → X q ls (r.toList ++ st) (N + mc') (S + ms') g') : X pc ls stk N S g := by
  obtain ⟨p, e, R, s, m, args, below, meth, c, D, cI, ad, base, Q, rfl, hx, hb, hml, hown, hts, hK, hB, hR, hQ, hL⟩ := hX
  subst hq
  subst hk
  intro h1 h2 h3 h4 H locs la q1 q2 q3 q4
  obtain ⟨⟨w1, w2, w3, w4⟩, w5⟩ := hY
  refine ca_back (mc' := mc') (ms' := ms') (S0' := S0') (post' := post') (a := (As.map (ca_vz ad)).toArray) h1 h3 hc hs (by omega) q3 q4 ?_ kk
  refine va_runS (nL := nL) (As := As.map (ca_vz ad)) ⟨hx, hb, hml, hown, hts⟩ (hC D cI ad base) ⟨callB_of n hts (ca_goodIn w1) rfl rfl rfl (hts _ w2) (hts _ hl) w3 ⟨by show F' + 1 ≤ _; have := hB.2.2.1; omega, by show 8 + (nL' + 11) + 37 * F' ≤ _; have := hB.2.2.2.1; omega⟩, hts _ w5⟩ ⟨ca_Pblind, fun U hU hW => ⟨rfl, ?_⟩⟩ rfl (by rw [List.length_map]; exact hn) q4.1 (by show List.map _ _ = _; simp) (by rw [ca_cat]; show 2 * 0 + _ ≤ 8; omega) hd ⟨by have := hB.2.2.2.2.1; omega, by have := hB.2.2.2.2.2; omega⟩
  exact ⟨fun z => by rw [hU]; exact q1 (by omega), by rw [hU]; exact q2, hK.warm q3 hU hW, hB.1, hN, by rw [hU]; exact Nat.le_trans hB.2.1 q3.1⟩
theorem ca_callSN (hX : ca_Good l y cc nL ret F mc ms N0 S0 sc post X) {n : Nat} {host : String} (hY : ca_YS y' cc' nL' ret' n) (hl : Cond.methodLinkNest y.cls idx y' host ∈ ca_NT) (hN : N + mc' ≤ 1000) (hC : ca_Ct l y' cc' nL' ret' F' mc' ms' N S0' As g post') (hF : F' < F) (hc : N + mc' ≤ N0 + mc) (hs : S + ms' ≤ S0 + ms) (hSS : (S < 1000000 ∧ S + ms' < 1000000 ∧ S0' = 0) ∨ (1000000 ≤ S ∧ 1000000 ≤ S0')) (hn : As.length = n) (hst : (st.map fun v => v.category).sum ≤ 8) (hq : pc + 3 = q) (hd : decode cc pc = .ok (.invokestatic idx, 3)) {stk : List Value} (hk : stk = As.reverse ++ st)
    (kk : ∀ (r : Option Value) (g' : ca_G), post' r g' → X q ls (r.toList ++ st) (N + mc') (S + ms') g') : X pc ls stk N S g := by
  obtain ⟨p, e, R, s, m, args, below, meth, c, D, cI, ad, base, Q, rfl, hx, hb, hml, hown, hts, hK, hB, hR, hQ, hL⟩ := hX
  subst hq
  subst hk
  intro h1 h2 h3 h4 H locs la q1 q2 q3 q4
  obtain ⟨⟨w1, w2, w3, w4⟩, w5⟩ := hY
  refine ca_back (mc' := mc') (ms' := ms') (S0' := S0') (post' := post') (a := (As.map (ca_vz ad)).toArray) h1 h3 hc hs (by omega) q3 q4 ?_ kk
  refine va_runSN (host := host) (nL := nL) (As := As.map (ca_vz ad)) ⟨hx, hb, hml, hown, hts⟩ (hC D cI ad base) ⟨va_cnB n hts (ca_goodIn w1) rfl rfl rfl (hK.2.1 _ hl) (hts _ w2) w3 ⟨by show F' + 1 ≤ _; have := hB.2.2.1; omega, by show 8 + (nL' + 11) + 37 * F' ≤ _; have := hB.2.2.2.1; omega⟩, hts _ w5, trivial⟩ ⟨ca_Pblind, fun U hU hW => ⟨rfl, ?_⟩⟩ rfl (by rw [List.length_map]; exact hn) q4.1 (by show List.map _ _ = _; simp) (by rw [ca_cat]; show 2 * 0 + _ ≤ 8; omega) hd ⟨by have := hB.2.2.2.2.1; omega, by have := hB.2.2.2.2.2; omega⟩
  exact ⟨fun z => by rw [hU]; exact q1 (by omega), by rw [hU]; exact q2, hK.warm q3 hU hW, hB.1, hN, by rw [hU]; exact Nat.le_trans hB.2.1 q3.1⟩
theorem ca_callI (hX : ca_Good l y cc nL ret F mc ms N0 S0 sc post X) {n i : Nat} (hY : ca_YI y' cc' nL' n) (hl : Cond.methodLink y.cls idx y' ∈ ca_TT) (hN : N + mc' ≤ 1000) (hC : ca_Ct l y' cc' nL' none F' mc' ms' N S0' (.ref i :: As) g post') (hF : F' < F) (hc : N + mc' ≤ N0 + mc) (hs : S + ms' ≤ S0 + ms) (hSS : (S < 1000000 ∧ S + ms' < 1000000 ∧ S0' = 0) ∨ (1000000 ≤ S ∧ 1000000 ≤ S0')) (hn : As.length = n) (hst : (st.map fun v => v.category).sum ≤ 8) (hq : pc + 3 = q) (hd : decode cc pc = .ok (.invokespecial idx, 3)) {stk : List Value} (hk : stk = As.reverse ++ .ref i :: st)
    (kk : ∀ (r : Option Value) (g' : ca_G), post' r g' → X q ls (r.toList ++ st) (N + mc') (S + ms') g') : X pc ls stk N S g := by
  obtain ⟨p, e, R, s, m, args, below, meth, c, D, cI, ad, base, Q, rfl, hx, hb, hml, hown, hts, hK, hB, hR, hQ, hL⟩ := hX
  subst hq
  subst hk
  intro h1 h2 h3 h4 H locs la q1 q2 q3 q4
  obtain ⟨⟨w1, w2, w3, w4⟩, w5, w6⟩ := hY
  refine ca_back (mc' := mc') (ms' := ms') (S0' := S0') (post' := post') (a := (Value.ref (ad i) :: As.map (ca_vz ad)).toArray) h1 h3 hc hs (by omega) q3 q4 ?_ kk
  refine va_runI (nL := nL) (b := ad i) (As := As.map (ca_vz ad)) ⟨hx, hb, hml, hown, hts⟩ (hC D cI ad base) ⟨callB_of n hts (ca_goodIn w1) rfl rfl rfl (hts _ w2) (hts _ hl) w3 ⟨by show F' + 1 ≤ _; have := hB.2.2.1; omega, by show 8 + (nL' + 11) + 37 * F' ≤ _; have := hB.2.2.2.1; omega⟩, w5, hts _ w6⟩ ⟨ca_Pblind, fun U hU hW => ⟨rfl, ?_⟩⟩ rfl (by rw [List.length_map]; exact hn) q4.1 (by show List.map _ _ = _; simp [ca_vz]) (by rw [ca_cat]; show 2 * 0 + _ ≤ 8; omega) hd ⟨by have := hB.2.2.2.2.1; omega, by have := hB.2.2.2.2.2; omega⟩
  exact ⟨fun z => by rw [hU]; exact q1 (by omega), by rw [hU]; exact q2, hK.warm q3 hU hW, hB.1, hN, by rw [hU]; exact Nat.le_trans hB.2.1 q3.1⟩
/-- System.arraycopy of ints -/
theorem ca_copy (hX : ca_Good l y cc nL ret F mc ms N0 S0 sc post X) {i j n0 n1 : Nat} {f0 f1 : Nat → Int32} {sp dp n : Int32} (wl : Cond.methodLink y.cls idx arraycopyName ∈ ca_TT) (wn : Cond.native arraycopyName ∈ ca_TT) (wS : Cond.static arraycopyName ∈ ca_TT) (wi : Cond.initialized "java/lang/System" ∈ ca_TT) (hi : i < N) (hj : j < N) (hN : N ≤ 1000) (hS : 1000000 ≤ S) (gi : g i = .inl (n0, f0)) (gj : g j = .inl (n1, f1)) (b1 : ¬ sp < 0) (b2 : ¬ dp < 0) (b3 : ¬ n < 0) (b4 : sp.toNatClampNeg + n.toNatClampNeg ≤ n0) (b5 : dp.toNatClampNeg + n.toNatClampNeg ≤ n1) (hF : 1 ≤ F) (hst : (st.map fun v => v.category).sum ≤ 2) (hq : pc + 3 = q) (hd : decode cc pc = .ok (.invokestatic idx, 3))
    (kk : X q ls st N S (ca_up g j (.inl (n1, va_cpy f0 f1 sp.toNatClampNeg dp.toNatClampNeg n.toNatClampNeg)))) : X pc ls (.int n :: .int dp :: .ref j :: .int sp :: .ref i :: st) N S g := by
  obtain ⟨p, e, R, s, m, args, below, meth, c, D, cI, ad, base, Q, rfl, hx, hb, hml, hown, hts, hK, hB, hR, hQ, hL⟩ := hX
  subst hq
  intro h1 h2 h3 h4 H locs la q1 q2 q3 q4
  refine va_copyi hx hb (by rw [q4.1, hml]) hown (hts _ wl) (hts _ wn) (hts _ wS) (hts _ wi) hK.1 q2 (ca_D hB.1 hN) q3 i j 0 0 (a0 := ad i) (a := ad j) (c0 := cI) (c1 := cI) (n0 := n0) (n1 := n1) (f := f0) (g := f1) (ty := .int) (by rw [ca_ws_at hi, gi]; rfl) (by rw [ca_ws_at hj, gj]; rfl) rfl rfl rfl b1 b2 b3 b4 b5 (fun _ _ => rfl) (by have := hB.2.2.1; omega) (by rw [ca_cat]; have := hB.2.2.2.1; have : nativeFrameWords "java/lang/System" "arraycopy" 5 ≤ 20 := (by decide); omega) hd (fun H1 locs1 p2 p3 p4 => ?_)
  rw [show ((ad j, Sum.inl (cI, n1, Sum.inl (va_cpy f0 f1 sp.toNatClampNeg dp.toNatClampNeg n.toNatClampNeg))) : Nat × va_E) = (ad j, ca_cz ad cI (.inl (n1, va_cpy f0 f1 sp.toNatClampNeg dp.toNatClampNeg n.toNatClampNeg))) from rfl, ca_ws_set _ hj] at p2
  exact kk h1 h2 h3 h4 H1 locs1 la (fun z => absurd z (by omega)) p2 p4 q4
/-- a state that tells no size any more -/
theorem ca_loose (hX : ca_Good l y cc nL ret F mc ms N0 S0 sc post X) {S2 : Nat} (h : S ≤ S2) (h2 : 1000000 ≤ S2) (h5 : S2 ≤ S0 + ms) (kk : X pc ls st N S2 g) : X pc ls st N S g := by
  obtain ⟨p, e, R, s, m, args, below, meth, c, D, cI, ad, base, Q, rfl, hx, hb, hml, hown, hts, hK, hB, hR, hQ, hL⟩ := hX
  intro h1 h2' h3 h4 H locs la q1 q2 q3 q4
  exact W.widen (Nat.le_refl _) (by omega) (kk h1 h2' (by omega) h5 H locs la (fun z => absurd z (by omega)) q2 q3 q4)
end CACALLS
end
section
theorem in_X0 : ∀ w ∈ u_ws RX0 TX0 13, w ∈ lw_tbl := by decide +kernel
theorem gd_X0 : ∀ w ∈ u_ws RX0 TX0 13, goodWord w = true := by decide +kernel
theorem cl_X0 : ca_CL 0 RX0 TX0 13 tyX0 := ⟨rfl, fun w h => ca_inT (in_X0 w h) (gd_X0 w h), tyX0_ok, nmX0, by decide +kernel⟩
theorem in_X1 : ∀ w ∈ u_ws RX1 TX1 6, w ∈ lw_tbl := by decide +kernel
theorem gd_X1 : ∀ w ∈ u_ws RX1 TX1 6, goodWord w = true := by decide +kernel
theorem cl_X1 : ca_CL 1 RX1 TX1 6 tyX1 := ⟨rfl, fun w h => ca_inT (in_X1 w h) (gd_X1 w h), tyX1_ok, nmX1, by decide +kernel⟩
theorem in_X3 : ∀ w ∈ u_ws RX3 TX3 2, w ∈ lw_tbl := by decide +kernel
theorem gd_X3 : ∀ w ∈ u_ws RX3 TX3 2, goodWord w = true := by decide +kernel
theorem cl_X3 : ca_CL 2 RX3 TX3 2 tyX3 := ⟨rfl, fun w h => ca_inT (in_X3 w h) (gd_X3 w h), tyX3_ok, nmX3, by decide +kernel⟩
theorem in_X4 : ∀ w ∈ u_ws RX4 TX4 1, w ∈ lw_tbl := by decide +kernel
theorem gd_X4 : ∀ w ∈ u_ws RX4 TX4 1, goodWord w = true := by decide +kernel
theorem cl_X4 : ca_CL 3 RX4 TX4 1 tyX4 := ⟨rfl, fun w h => ca_inT (in_X4 w h) (gd_X4 w h), tyX4_ok, nmX4, by decide +kernel⟩
theorem in_X5 : ∀ w ∈ u_ws RX5 TX5 8, w ∈ lw_tbl := by decide +kernel
theorem gd_X5 : ∀ w ∈ u_ws RX5 TX5 8, goodWord w = true := by decide +kernel
theorem cl_X5 : ca_CL 4 RX5 TX5 8 tyX5 := ⟨rfl, fun w h => ca_inT (in_X5 w h) (gd_X5 w h), tyX5_ok, nmX5, by decide +kernel⟩
theorem in_X6 : ∀ w ∈ u_ws RX6 TX6 20, w ∈ lw_tbl := by decide +kernel
theorem gd_X6 : ∀ w ∈ u_ws RX6 TX6 20, goodWord w = true := by decide +kernel
theorem cl_X6 : ca_CL 5 RX6 TX6 20 tyX6 := ⟨rfl, fun w h => ca_inT (in_X6 w h) (gd_X6 w h), tyX6_ok, nmX6, by decide +kernel⟩
theorem w_in_L : Cond.initialized RL ∈ ca_TT := ca_inT (List.mem_of_getElem? (i := 46) (by decide +kernel)) rfl
theorem w_in_X5 : Cond.initialized RX5 ∈ ca_TT := ca_inT (List.mem_of_getElem? (i := 47) (by decide +kernel)) rfl
theorem w_in_X1 : Cond.initialized RX1 ∈ ca_TT := ca_inT (List.mem_of_getElem? (i := 48) (by decide +kernel)) rfl
theorem w_in_X0 : Cond.initialized RX0 ∈ ca_TT := ca_inT (List.mem_of_getElem? (i := 49) (by decide +kernel)) rfl
theorem w_in_X4 : Cond.initialized RX4 ∈ ca_TT := ca_inT (List.mem_of_getElem? (i := 50) (by decide +kernel)) rfl
theorem w_in_X3 : Cond.initialized RX3 ∈ ca_TT := ca_inT (List.mem_of_getElem? (i := 51) (by decide +kernel)) rfl
theorem w_in_J9 : Cond.initialized RJ9 ∈ ca_TT := ca_inT (List.mem_of_getElem? (i := 52) (by decide +kernel)) rfl
theorem w_in_X6 : Cond.initialized RX6 ∈ ca_TT := ca_inT (List.mem_of_getElem? (i := 53) (by decide +kernel)) rfl
theorem w_in_J10 : Cond.initialized RJ10 ∈ ca_TT := ca_inT (List.mem_of_getElem? (i := 54) (by decide +kernel)) rfl
theorem w_in_J0 : Cond.initialized RJ0 ∈ ca_TT := ca_inT (List.mem_of_getElem? (i := 55) (by decide +kernel)) rfl
theorem w_in_J1 : Cond.initialized RJ1 ∈ ca_TT := ca_inT (List.mem_of_getElem? (i := 56) (by decide +kernel)) rfl
theorem w_in_J3 : Cond.initialized RJ3 ∈ ca_TT := ca_inT (List.mem_of_getElem? (i := 57) (by decide +kernel)) rfl
theorem w_in_J2 : Cond.initialized RJ2 ∈ ca_TT := ca_inT (List.mem_of_getElem? (i := 58) (by decide +kernel)) rfl
theorem w_in_X2 : Cond.initialized RX2 ∈ ca_TT := ca_inT (List.mem_of_getElem? (i := 59) (by decide +kernel)) rfl
theorem w_in_J6 : Cond.initialized RJ6 ∈ ca_TT := ca_inT (List.mem_of_getElem? (i := 60) (by decide +kernel)) rfl
theorem w_cl_L_7 : Cond.classLink RL 7 RX5 ∈ ca_TT := ca_inT (List.mem_of_getElem? (i := 61) (by decide +kernel)) rfl
theorem w_is_X5 : Cond.instantiable RX5 8 ∈ ca_TT := ca_inT (List.mem_of_getElem? (i := 62) (by decide +kernel)) rfl
theorem w_ml_L_9 : Cond.methodLink RL 9 yX5_init ∈ ca_TT := ca_inT (List.mem_of_getElem? (i := 63) (by decide +kernel)) rfl
theorem w_ml_X5_1 : Cond.methodLink RX5 1 Lib.objectInit ∈ ca_TT := ca_inT (List.mem_of_getElem? (i := 66) (by decide +kernel)) rfl
theorem w_oi : Cond.instanceMethod Lib.objectInit ∈ ca_TT := ca_inT (List.mem_of_getElem? (i := 67) (by decide +kernel)) rfl
theorem w_oc : Cond.code Lib.objectInit ⟨#[0xb1]⟩ 1 none ∈ ca_TT := ca_inT (List.mem_of_getElem? (i := 68) (rfl)) rfl
theorem w_cl_X5_7 : Cond.classLink RX5 7 RX1 ∈ ca_TT := ca_inT (List.mem_of_getElem? (i := 69) (by decide +kernel)) rfl
theorem w_is_X1 : Cond.instantiable RX1 6 ∈ ca_TT := ca_inT (List.mem_of_getElem? (i := 70) (by decide +kernel)) rfl
theorem w_ml_X5_9 : Cond.methodLink RX5 9 yX1_init ∈ ca_TT := ca_inT (List.mem_of_getElem? (i := 71) (by decide +kernel)) rfl
theorem w_ml_X1_3 : Cond.methodLink RX1 3 Lib.objectInit ∈ ca_TT := ca_inT (List.mem_of_getElem? (i := 74) (by decide +kernel)) rfl
theorem w_fl_X1_9 : Cond.fieldLink RX1 9 RX1 (TX1 0).2.1 (TX1 0).2.2.1 ∈ ca_TT := ca_inT (List.mem_of_getElem? (i := 75) (by decide +kernel)) rfl
theorem w_fn_X0_36 : Cond.fieldLinkNest RX0 36 RX1 (TX1 0).2.1 (TX1 0).2.2.1 "FoughtFromMemory" ∈ ca_NT := ca_inN (List.mem_of_getElem? (i := 76) (by decide +kernel)) rfl
theorem w_fl_X1_15 : Cond.fieldLink RX1 15 RX1 (TX1 1).2.1 (TX1 1).2.2.1 ∈ ca_TT := ca_inT (List.mem_of_getElem? (i := 77) (by decide +kernel)) rfl
theorem w_fn_X0_41 : Cond.fieldLinkNest RX0 41 RX1 (TX1 1).2.1 (TX1 1).2.2.1 "FoughtFromMemory" ∈ ca_NT := ca_inN (List.mem_of_getElem? (i := 78) (by decide +kernel)) rfl
theorem w_fl_X1_18 : Cond.fieldLink RX1 18 RX1 (TX1 2).2.1 (TX1 2).2.2.1 ∈ ca_TT := ca_inT (List.mem_of_getElem? (i := 79) (by decide +kernel)) rfl
theorem w_fl_X1_21 : Cond.fieldLink RX1 21 RX1 (TX1 3).2.1 (TX1 3).2.2.1 ∈ ca_TT := ca_inT (List.mem_of_getElem? (i := 80) (by decide +kernel)) rfl
theorem w_fl_X1_24 : Cond.fieldLink RX1 24 RX1 (TX1 4).2.1 (TX1 4).2.2.1 ∈ ca_TT := ca_inT (List.mem_of_getElem? (i := 81) (by decide +kernel)) rfl
theorem w_fn_X0_54 : Cond.fieldLinkNest RX0 54 RX1 (TX1 4).2.1 (TX1 4).2.2.1 "FoughtFromMemory" ∈ ca_NT := ca_inN (List.mem_of_getElem? (i := 82) (by decide +kernel)) rfl
theorem w_fn_X5_153 : Cond.fieldLinkNest RX5 153 RX1 (TX1 4).2.1 (TX1 4).2.2.1 "FoughtFromMemory" ∈ ca_NT := ca_inN (List.mem_of_getElem? (i := 83) (by decide +kernel)) rfl
theorem w_fl_X1_28 : Cond.fieldLink RX1 28 RX1 (TX1 5).2.1 (TX1 5).2.2.1 ∈ ca_TT := ca_inT (List.mem_of_getElem? (i := 84) (by decide +kernel)) rfl
theorem w_fn_X5_118 : Cond.fieldLinkNest RX5 118 RX1 (TX1 5).2.1 (TX1 5).2.2.1 "FoughtFromMemory" ∈ ca_NT := ca_inN (List.mem_of_getElem? (i := 85) (by decide +kernel)) rfl
theorem w_fn_X4_108 : Cond.fieldLinkNest RX4 108 RX1 (TX1 5).2.1 (TX1 5).2.2.1 "FoughtFromMemory" ∈ ca_NT := ca_inN (List.mem_of_getElem? (i := 86) (by decide +kernel)) rfl
theorem w_arr : Cond.arrayClass .int ∈ ca_TT := ca_inT (List.mem_of_getElem? (i := 100) (by decide +kernel)) rfl
theorem w_cl_X5_22 : Cond.classLink RX5 22 RX0 ∈ ca_TT := ca_inT (List.mem_of_getElem? (i := 101) (by decide +kernel)) rfl
theorem w_is_X0 : Cond.instantiable RX0 13 ∈ ca_TT := ca_inT (List.mem_of_getElem? (i := 102) (by decide +kernel)) rfl
theorem w_ml_X5_24 : Cond.methodLink RX5 24 yX0_init ∈ ca_TT := ca_inT (List.mem_of_getElem? (i := 103) (by decide +kernel)) rfl
theorem w_ml_X0_5 : Cond.methodLink RX0 5 Lib.objectInit ∈ ca_TT := ca_inT (List.mem_of_getElem? (i := 106) (by decide +kernel)) rfl
theorem w_fl_X0_11 : Cond.fieldLink RX0 11 RX0 (TX0 0).2.1 (TX0 0).2.2.1 ∈ ca_TT := ca_inT (List.mem_of_getElem? (i := 107) (by decide +kernel)) rfl
theorem w_fl_X0_15 : Cond.fieldLink RX0 15 RX0 (TX0 1).2.1 (TX0 1).2.2.1 ∈ ca_TT := ca_inT (List.mem_of_getElem? (i := 108) (by decide +kernel)) rfl
theorem w_fl_X0_18 : Cond.fieldLink RX0 18 RX0 (TX0 2).2.1 (TX0 2).2.2.1 ∈ ca_TT := ca_inT (List.mem_of_getElem? (i := 109) (by decide +kernel)) rfl
theorem w_fl_X0_21 : Cond.fieldLink RX0 21 RX0 (TX0 3).2.1 (TX0 3).2.2.1 ∈ ca_TT := ca_inT (List.mem_of_getElem? (i := 110) (by decide +kernel)) rfl
theorem w_fl_X0_24 : Cond.fieldLink RX0 24 RX0 (TX0 4).2.1 (TX0 4).2.2.1 ∈ ca_TT := ca_inT (List.mem_of_getElem? (i := 111) (by decide +kernel)) rfl
theorem w_fl_X0_27 : Cond.fieldLink RX0 27 RX0 (TX0 5).2.1 (TX0 5).2.2.1 ∈ ca_TT := ca_inT (List.mem_of_getElem? (i := 112) (by decide +kernel)) rfl
theorem w_fl_X0_30 : Cond.fieldLink RX0 30 RX0 (TX0 6).2.1 (TX0 6).2.2.1 ∈ ca_TT := ca_inT (List.mem_of_getElem? (i := 113) (by decide +kernel)) rfl
theorem w_fl_X0_33 : Cond.fieldLink RX0 33 RX0 (TX0 7).2.1 (TX0 7).2.2.1 ∈ ca_TT := ca_inT (List.mem_of_getElem? (i := 114) (by decide +kernel)) rfl
theorem w_fl_X0_63 : Cond.fieldLink RX0 63 RX0 (TX0 8).2.1 (TX0 8).2.2.1 ∈ ca_TT := ca_inT (List.mem_of_getElem? (i := 115) (by decide +kernel)) rfl
theorem w_fl_X0_71 : Cond.fieldLink RX0 71 RX0 (TX0 9).2.1 (TX0 9).2.2.1 ∈ ca_TT := ca_inT (List.mem_of_getElem? (i := 116) (by decide +kernel)) rfl
theorem w_fl_X0_77 : Cond.fieldLink RX0 77 RX0 (TX0 10).2.1 (TX0 10).2.2.1 ∈ ca_TT := ca_inT (List.mem_of_getElem? (i := 117) (by decide +kernel)) rfl
theorem w_fl_X0_87 : Cond.fieldLink RX0 87 RX0 (TX0 11).2.1 (TX0 11).2.2.1 ∈ ca_TT := ca_inT (List.mem_of_getElem? (i := 118) (by decide +kernel)) rfl
theorem w_fl_X0_93 : Cond.fieldLink RX0 93 RX0 (TX0 12).2.1 (TX0 12).2.2.1 ∈ ca_TT := ca_inT (List.mem_of_getElem? (i := 119) (by decide +kernel)) rfl
theorem w_cl_X5_29 : Cond.classLink RX5 29 RX4 ∈ ca_TT := ca_inT (List.mem_of_getElem? (i := 147) (by decide +kernel)) rfl
theorem w_is_X4 : Cond.instantiable RX4 1 ∈ ca_TT := ca_inT (List.mem_of_getElem? (i := 148) (by decide +kernel)) rfl
theorem w_ml_X5_31 : Cond.methodLink RX5 31 yX4_init ∈ ca_TT := ca_inT (List.mem_of_getElem? (i := 149) (by decide +kernel)) rfl
theorem w_ml_X4_3 : Cond.methodLink RX4 3 Lib.objectInit ∈ ca_TT := ca_inT (List.mem_of_getElem? (i := 152) (by decide +kernel)) rfl
theorem w_cl_X4_9 : Cond.classLink RX4 9 RX3 ∈ ca_TT := ca_inT (List.mem_of_getElem? (i := 153) (by decide +kernel)) rfl
theorem w_is_X3 : Cond.instantiable RX3 2 ∈ ca_TT := ca_inT (List.mem_of_getElem? (i := 154) (by decide +kernel)) rfl
theorem w_ml_X4_11 : Cond.methodLink RX4 11 yX3_init ∈ ca_TT := ca_inT (List.mem_of_getElem? (i := 155) (by decide +kernel)) rfl
theorem w_ml_X3_3 : Cond.methodLink RX3 3 Lib.objectInit ∈ ca_TT := ca_inT (List.mem_of_getElem? (i := 158) (by decide +kernel)) rfl
theorem w_ml_X3_9 : Cond.methodLink RX3 9 yJ9_max_7cf53 ∈ ca_TT := ca_inT (List.mem_of_getElem? (i := 159) (by decide +kernel)) rfl
theorem w_fl_X3_15 : Cond.fieldLink RX3 15 RX3 (TX3 0).2.1 (TX3 0).2.2.1 ∈ ca_TT := ca_inT (List.mem_of_getElem? (i := 162) (by decide +kernel)) rfl
theorem w_fl_X3_21 : Cond.fieldLink RX3 21 RX3 (TX3 1).2.1 (TX3 1).2.2.1 ∈ ca_TT := ca_inT (List.mem_of_getElem? (i := 163) (by decide +kernel)) rfl
theorem w_fn_X4_24 : Cond.fieldLinkNest RX4 24 RX3 (TX3 1).2.1 (TX3 1).2.2.1 "FoughtFromMemory" ∈ ca_NT := ca_inN (List.mem_of_getElem? (i := 164) (by decide +kernel)) rfl
theorem w_fn_X5_213 : Cond.fieldLinkNest RX5 213 RX3 (TX3 1).2.1 (TX3 1).2.2.1 "FoughtFromMemory" ∈ ca_NT := ca_inN (List.mem_of_getElem? (i := 165) (by decide +kernel)) rfl
theorem w_fl_X4_14 : Cond.fieldLink RX4 14 RX4 (TX4 0).2.1 (TX4 0).2.2.1 ∈ ca_TT := ca_inT (List.mem_of_getElem? (i := 171) (by decide +kernel)) rfl
theorem w_fn_X5_57 : Cond.fieldLinkNest RX5 57 RX4 (TX4 0).2.1 (TX4 0).2.2.1 "FoughtFromMemory" ∈ ca_NT := ca_inN (List.mem_of_getElem? (i := 172) (by decide +kernel)) rfl
theorem w_cl_X5_36 : Cond.classLink RX5 36 RX3 ∈ ca_TT := ca_inT (List.mem_of_getElem? (i := 176) (by decide +kernel)) rfl
theorem w_ml_X5_38 : Cond.methodLink RX5 38 yX3_init ∈ ca_TT := ca_inT (List.mem_of_getElem? (i := 177) (by decide +kernel)) rfl
theorem w_fl_X5_10 : Cond.fieldLink RX5 10 RX5 (TX5 0).2.1 (TX5 0).2.2.1 ∈ ca_TT := ca_inT (List.mem_of_getElem? (i := 178) (by decide +kernel)) rfl
theorem w_fl_X5_16 : Cond.fieldLink RX5 16 RX5 (TX5 1).2.1 (TX5 1).2.2.1 ∈ ca_TT := ca_inT (List.mem_of_getElem? (i := 179) (by decide +kernel)) rfl
theorem w_fl_X5_19 : Cond.fieldLink RX5 19 RX5 (TX5 2).2.1 (TX5 2).2.2.1 ∈ ca_TT := ca_inT (List.mem_of_getElem? (i := 180) (by decide +kernel)) rfl
theorem w_fl_X5_25 : Cond.fieldLink RX5 25 RX5 (TX5 3).2.1 (TX5 3).2.2.1 ∈ ca_TT := ca_inT (List.mem_of_getElem? (i := 181) (by decide +kernel)) rfl
theorem w_fl_X5_32 : Cond.fieldLink RX5 32 RX5 (TX5 4).2.1 (TX5 4).2.2.1 ∈ ca_TT := ca_inT (List.mem_of_getElem? (i := 182) (by decide +kernel)) rfl
theorem w_fl_X5_41 : Cond.fieldLink RX5 41 RX5 (TX5 5).2.1 (TX5 5).2.2.1 ∈ ca_TT := ca_inT (List.mem_of_getElem? (i := 183) (by decide +kernel)) rfl
theorem w_fl_X5_45 : Cond.fieldLink RX5 45 RX5 (TX5 6).2.1 (TX5 6).2.2.1 ∈ ca_TT := ca_inT (List.mem_of_getElem? (i := 184) (by decide +kernel)) rfl
theorem w_fl_X5_49 : Cond.fieldLink RX5 49 RX5 (TX5 7).2.1 (TX5 7).2.2.1 ∈ ca_TT := ca_inT (List.mem_of_getElem? (i := 185) (by decide +kernel)) rfl
theorem w_ml_L_13 : Cond.methodLink RL 13 yX5_letter ∈ ca_TT := ca_inT (List.mem_of_getElem? (i := 203) (by decide +kernel)) rfl
theorem w_ml_X5_53 : Cond.methodLink RX5 53 yX5_refuse ∈ ca_TT := ca_inT (List.mem_of_getElem? (i := 207) (by decide +kernel)) rfl
theorem w_ml_X5_60 : Cond.methodLink RX5 60 yX3_isFull ∈ ca_TT := ca_inT (List.mem_of_getElem? (i := 211) (by decide +kernel)) rfl
theorem w_ml_X5_64 : Cond.methodLink RX5 64 yX3_add ∈ ca_TT := ca_inT (List.mem_of_getElem? (i := 215) (by decide +kernel)) rfl
theorem w_ml_L_18 : Cond.methodLink RL 18 yX5_house ∈ ca_TT := ca_inT (List.mem_of_getElem? (i := 219) (by decide +kernel)) rfl
theorem w_ml_X5_67 : Cond.methodLink RX5 67 yX1_become ∈ ca_TT := ca_inT (List.mem_of_getElem? (i := 223) (by decide +kernel)) rfl
theorem w_ml_X1_31 : Cond.methodLink RX1 31 arraycopyName ∈ ca_TT := ca_inT (List.mem_of_getElem? (i := 227) (by decide +kernel)) rfl
theorem w_acs : Cond.static arraycopyName ∈ ca_TT := ca_inT (List.mem_of_getElem? (i := 228) (by decide +kernel)) rfl
theorem w_native : Cond.native arraycopyName ∈ ca_TT := ca_inT (List.mem_of_getElem? (i := 229) (by decide +kernel)) rfl
theorem w_ml_X5_71 : Cond.methodLink RX5 71 yX4_tellTo ∈ ca_TT := ca_inT (List.mem_of_getElem? (i := 230) (by decide +kernel)) rfl
theorem w_ml_X4_20 : Cond.methodLink RX4 20 yX4_firstStray ∈ ca_TT := ca_inT (List.mem_of_getElem? (i := 234) (by decide +kernel)) rfl
theorem w_ml_X4_32 : Cond.methodLink RX4 32 yX3_at ∈ ca_TT := ca_inT (List.mem_of_getElem? (i := 238) (by decide +kernel)) rfl
theorem w_ml_X4_36 : Cond.methodLink RX4 36 yX4_formOf ∈ ca_TT := ca_inT (List.mem_of_getElem? (i := 242) (by decide +kernel)) rfl
theorem w_ml_X4_45 : Cond.methodLink RX4 45 yX4_fittingLetters ∈ ca_TT := ca_inT (List.mem_of_getElem? (i := 251) (by decide +kernel)) rfl
theorem w_ml_X4_40 : Cond.methodLink RX4 40 yJ0_length_8abf5 ∈ ca_TT := ca_inT (List.mem_of_getElem? (i := 255) (by decide +kernel)) rfl
theorem w_ml_J0_335 : Cond.methodLink RJ0 335 yJ0_coder_7d493 ∈ ca_TT := ca_inT (List.mem_of_getElem? (i := 259) (by decide +kernel)) rfl
theorem w_ml_X4_53 : Cond.methodLink RX4 53 yJ0_charAt_5068e ∈ ca_TT := ca_inT (List.mem_of_getElem? (i := 265) (by decide +kernel)) rfl
theorem w_ml_J0_492 : Cond.methodLink RJ0 492 yJ0_isLatin1_aae02 ∈ ca_TT := ca_inT (List.mem_of_getElem? (i := 269) (by decide +kernel)) rfl
theorem w_ml_J0_495 : Cond.methodLink RJ0 495 yJ1_charAt_3b067 ∈ ca_TT := ca_inT (List.mem_of_getElem? (i := 273) (by decide +kernel)) rfl
theorem w_ml_J1_9 : Cond.methodLink RJ1 9 yJ0_checkIndex_df160 ∈ ca_TT := ca_inT (List.mem_of_getElem? (i := 276) (by decide +kernel)) rfl
theorem w_ml_J0_1059 : Cond.methodLink RJ0 1059 yJ3_checkIndex_8e157 ∈ ca_TT := ca_inT (List.mem_of_getElem? (i := 281) (by decide +kernel)) rfl
theorem w_ml_J0_498 : Cond.methodLink RJ0 498 yJ2_charAt_3b067 ∈ ca_TT := ca_inT (List.mem_of_getElem? (i := 284) (by decide +kernel)) rfl
theorem w_ml_J2_67 : Cond.methodLink RJ2 67 yJ2_checkIndex_2214a ∈ ca_TT := ca_inT (List.mem_of_getElem? (i := 287) (by decide +kernel)) rfl
theorem w_ml_J2_48 : Cond.methodLink RJ2 48 yJ2_length_9d52b ∈ ca_TT := ca_inT (List.mem_of_getElem? (i := 290) (by decide +kernel)) rfl
theorem w_ml_J2_414 : Cond.methodLink RJ2 414 yJ0_checkIndex_df160 ∈ ca_TT := ca_inT (List.mem_of_getElem? (i := 293) (by decide +kernel)) rfl
theorem w_ml_J2_71 : Cond.methodLink RJ2 71 yJ2_getChar_3b067 ∈ ca_TT := ca_inT (List.mem_of_getElem? (i := 294) (by decide +kernel)) rfl
theorem w_ml_X4_57 : Cond.methodLink RX4 57 yX4_fits ∈ ca_TT := ca_inT (List.mem_of_getElem? (i := 303) (by decide +kernel)) rfl
theorem w_ml_X4_61 : Cond.methodLink RX4 61 yX4_kindOfLetter ∈ ca_TT := ca_inT (List.mem_of_getElem? (i := 306) (by decide +kernel)) rfl
theorem w_ml_X4_49 : Cond.methodLink RX4 49 yJ0_isEmpty_aae02 ∈ ca_TT := ca_inT (List.mem_of_getElem? (i := 310) (by decide +kernel)) rfl
theorem w_ml_X4_28 : Cond.methodLink RX4 28 yX4_tellStatement ∈ ca_TT := ca_inT (List.mem_of_getElem? (i := 314) (by decide +kernel)) rfl
theorem w_ml_X4_76 : Cond.methodLink RX4 76 yX4_pairAt ∈ ca_TT := ca_inT (List.mem_of_getElem? (i := 318) (by decide +kernel)) rfl
theorem w_ml_X4_79 : Cond.methodLink RX4 79 yX4_digitAt ∈ ca_TT := ca_inT (List.mem_of_getElem? (i := 322) (by decide +kernel)) rfl
theorem w_ml_X4_82 : Cond.methodLink RX4 82 yX4_tellThings ∈ ca_TT := ca_inT (List.mem_of_getElem? (i := 326) (by decide +kernel)) rfl
theorem w_ml_X4_98 : Cond.methodLink RX4 98 yX1_put ∈ ca_TT := ca_inT (List.mem_of_getElem? (i := 330) (by decide +kernel)) rfl
theorem w_mn_X1_37 : Cond.methodLinkNest RX1 37 yX5_isRoom "FoughtFromMemory" ∈ ca_NT := ca_inN (List.mem_of_getElem? (i := 334) (by decide +kernel)) rfl
theorem w_ml_X4_86 : Cond.methodLink RX4 86 yX1_takeIn ∈ ca_TT := ca_inT (List.mem_of_getElem? (i := 337) (by decide +kernel)) rfl
theorem w_ml_X1_63 : Cond.methodLink RX1 63 yX1_sharpen ∈ ca_TT := ca_inT (List.mem_of_getElem? (i := 341) (by decide +kernel)) rfl
theorem w_ml_X1_60 : Cond.methodLink RX1 60 yX1_hasPerson ∈ ca_TT := ca_inT (List.mem_of_getElem? (i := 345) (by decide +kernel)) rfl
theorem w_ml_X1_67 : Cond.methodLink RX1 67 yX1_learn ∈ ca_TT := ca_inT (List.mem_of_getElem? (i := 349) (by decide +kernel)) rfl
theorem w_ml_X4_92 : Cond.methodLink RX4 92 yX4_tellKnown ∈ ca_TT := ca_inT (List.mem_of_getElem? (i := 353) (by decide +kernel)) rfl
theorem w_ml_X4_102 : Cond.methodLink RX4 102 yX1_hasPerson ∈ ca_TT := ca_inT (List.mem_of_getElem? (i := 357) (by decide +kernel)) rfl
theorem w_ml_X4_105 : Cond.methodLink RX4 105 yX1_learn ∈ ca_TT := ca_inT (List.mem_of_getElem? (i := 358) (by decide +kernel)) rfl
theorem w_ml_X4_95 : Cond.methodLink RX4 95 yX4_tellNights ∈ ca_TT := ca_inT (List.mem_of_getElem? (i := 359) (by decide +kernel)) rfl
theorem w_ml_X4_111 : Cond.methodLink RX4 111 yX1_passNights ∈ ca_TT := ca_inT (List.mem_of_getElem? (i := 362) (by decide +kernel)) rfl
theorem w_ml_X1_71 : Cond.methodLink RX1 71 yX1_sharpOf ∈ ca_TT := ca_inT (List.mem_of_getElem? (i := 366) (by decide +kernel)) rfl
theorem w_ml_X1_74 : Cond.methodLink RX1 74 yX1_forgetSome ∈ ca_TT := ca_inT (List.mem_of_getElem? (i := 370) (by decide +kernel)) rfl
theorem w_ml_X1_78 : Cond.methodLink RX1 78 yJ9_max_7cf53 ∈ ca_TT := ca_inT (List.mem_of_getElem? (i := 374) (by decide +kernel)) rfl
theorem w_ml_X5_75 : Cond.methodLink RX5 75 yX3_forget ∈ ca_TT := ca_inT (List.mem_of_getElem? (i := 375) (by decide +kernel)) rfl
theorem w_ml_L_23 : Cond.methodLink RL 23 yX5_room ∈ ca_TT := ca_inT (List.mem_of_getElem? (i := 380) (by decide +kernel)) rfl
theorem w_ml_X5_78 : Cond.methodLink RX5 78 yX5_isRoom ∈ ca_TT := ca_inT (List.mem_of_getElem? (i := 384) (by decide +kernel)) rfl
theorem w_ml_X5_82 : Cond.methodLink RX5 82 yX1_kindOf ∈ ca_TT := ca_inT (List.mem_of_getElem? (i := 385) (by decide +kernel)) rfl
theorem w_ml_X5_85 : Cond.methodLink RX5 85 yX1_figureOf ∈ ca_TT := ca_inT (List.mem_of_getElem? (i := 389) (by decide +kernel)) rfl
theorem w_ml_X5_88 : Cond.methodLink RX5 88 yX1_needsOf ∈ ca_TT := ca_inT (List.mem_of_getElem? (i := 393) (by decide +kernel)) rfl
theorem w_ml_X1_41 : Cond.methodLink RX1 41 yX1_kindOf ∈ ca_TT := ca_inT (List.mem_of_getElem? (i := 397) (by decide +kernel)) rfl
theorem w_ml_X1_45 : Cond.methodLink RX1 45 yX2_needs ∈ ca_TT := ca_inT (List.mem_of_getElem? (i := 398) (by decide +kernel)) rfl
theorem w_ml_X5_91 : Cond.methodLink RX5 91 yX1_catchesOf ∈ ca_TT := ca_inT (List.mem_of_getElem? (i := 401) (by decide +kernel)) rfl
theorem w_ml_X1_50 : Cond.methodLink RX1 50 yX2_catches ∈ ca_TT := ca_inT (List.mem_of_getElem? (i := 405) (by decide +kernel)) rfl
theorem w_ml_X5_94 : Cond.methodLink RX5 94 yX1_worthOf ∈ ca_TT := ca_inT (List.mem_of_getElem? (i := 408) (by decide +kernel)) rfl
theorem w_ml_X1_53 : Cond.methodLink RX1 53 yX1_figureOf ∈ ca_TT := ca_inT (List.mem_of_getElem? (i := 412) (by decide +kernel)) rfl
theorem w_ml_X1_56 : Cond.methodLink RX1 56 yX2_worth ∈ ca_TT := ca_inT (List.mem_of_getElem? (i := 413) (by decide +kernel)) rfl
theorem w_ml_L_28 : Cond.methodLink RL 28 yX5_person ∈ ca_TT := ca_inT (List.mem_of_getElem? (i := 416) (by decide +kernel)) rfl
theorem w_ml_X5_97 : Cond.methodLink RX5 97 yX5_isPerson ∈ ca_TT := ca_inT (List.mem_of_getElem? (i := 420) (by decide +kernel)) rfl
theorem w_ml_X5_242 : Cond.methodLink RX5 242 yX1_hasPerson ∈ ca_TT := ca_inT (List.mem_of_getElem? (i := 424) (by decide +kernel)) rfl
theorem w_ml_X5_100 : Cond.methodLink RX5 100 yX1_sharpOf ∈ ca_TT := ca_inT (List.mem_of_getElem? (i := 425) (by decide +kernel)) rfl
theorem w_ml_X5_103 : Cond.methodLink RX5 103 yX1_knownBy ∈ ca_TT := ca_inT (List.mem_of_getElem? (i := 426) (by decide +kernel)) rfl
theorem w_ml_L_32 : Cond.methodLink RL 32 yX5_turn ∈ ca_TT := ca_inT (List.mem_of_getElem? (i := 430) (by decide +kernel)) rfl
theorem w_ml_X5_107 : Cond.methodLink RX5 107 yX1_put ∈ ca_TT := ca_inT (List.mem_of_getElem? (i := 434) (by decide +kernel)) rfl
theorem w_ml_L_37 : Cond.methodLink RL 37 yX5_sharp ∈ ca_TT := ca_inT (List.mem_of_getElem? (i := 435) (by decide +kernel)) rfl
theorem w_ml_X5_111 : Cond.methodLink RX5 111 yX1_sharpen ∈ ca_TT := ca_inT (List.mem_of_getElem? (i := 439) (by decide +kernel)) rfl
theorem w_ml_L_41 : Cond.methodLink RL 41 yX5_visit ∈ ca_TT := ca_inT (List.mem_of_getElem? (i := 440) (by decide +kernel)) rfl
theorem w_ml_X5_115 : Cond.methodLink RX5 115 yX1_learn ∈ ca_TT := ca_inT (List.mem_of_getElem? (i := 444) (by decide +kernel)) rfl
theorem w_ml_L_45 : Cond.methodLink RL 45 yX5_nights ∈ ca_TT := ca_inT (List.mem_of_getElem? (i := 445) (by decide +kernel)) rfl
theorem w_ml_X5_122 : Cond.methodLink RX5 122 yX1_passNights ∈ ca_TT := ca_inT (List.mem_of_getElem? (i := 449) (by decide +kernel)) rfl
theorem w_ml_X5_125 : Cond.methodLink RX5 125 yX1_sureRooms ∈ ca_TT := ca_inT (List.mem_of_getElem? (i := 450) (by decide +kernel)) rfl
theorem w_k_X1_83 : Cond.constant RX1 83 (33554431) ∈ ca_TT := ca_inT (List.mem_of_getElem? (i := 454) (by decide +kernel)) rfl
theorem w_ml_X1_84 : Cond.methodLink RX1 84 yX1_roomsSayableBy ∈ ca_TT := ca_inT (List.mem_of_getElem? (i := 455) (by decide +kernel)) rfl
theorem w_ml_X1_87 : Cond.methodLink RX1 87 yJ6_bitCount_0f7a4 ∈ ca_TT := ca_inT (List.mem_of_getElem? (i := 459) (by decide +kernel)) rfl
theorem w_k_J6_265 : Cond.constant RJ6 265 (1431655765) ∈ ca_TT := ca_inT (List.mem_of_getElem? (i := 462) (by decide +kernel)) rfl
theorem w_k_J6_266 : Cond.constant RJ6 266 (858993459) ∈ ca_TT := ca_inT (List.mem_of_getElem? (i := 463) (by decide +kernel)) rfl
theorem w_k_J6_267 : Cond.constant RJ6 267 (252645135) ∈ ca_TT := ca_inT (List.mem_of_getElem? (i := 464) (by decide +kernel)) rfl
theorem w_ml_L_49 : Cond.methodLink RL 49 yX5_fire ∈ ca_TT := ca_inT (List.mem_of_getElem? (i := 465) (by decide +kernel)) rfl
theorem w_ml_X5_129 : Cond.methodLink RX5 129 yX5_isSpeaker ∈ ca_TT := ca_inT (List.mem_of_getElem? (i := 469) (by decide +kernel)) rfl
theorem w_ml_X5_132 : Cond.methodLink RX5 132 yX5_burnAsNow ∈ ca_TT := ca_inT (List.mem_of_getElem? (i := 473) (by decide +kernel)) rfl
theorem w_ml_X5_159 : Cond.methodLink RX5 159 yX0_lookAt ∈ ca_TT := ca_inT (List.mem_of_getElem? (i := 477) (by decide +kernel)) rfl
theorem w_ml_X0_44 : Cond.methodLink RX0 44 yX2_worth ∈ ca_TT := ca_inT (List.mem_of_getElem? (i := 481) (by decide +kernel)) rfl
theorem w_ml_X0_50 : Cond.methodLink RX0 50 yX2_catches ∈ ca_TT := ca_inT (List.mem_of_getElem? (i := 482) (by decide +kernel)) rfl
theorem w_ml_X0_58 : Cond.methodLink RX0 58 yJ9_min_7cf53 ∈ ca_TT := ca_inT (List.mem_of_getElem? (i := 483) (by decide +kernel)) rfl
theorem w_ml_X0_64 : Cond.methodLink RX0 64 yX1_roomsSayableBy ∈ ca_TT := ca_inT (List.mem_of_getElem? (i := 486) (by decide +kernel)) rfl
theorem w_ml_X5_245 : Cond.methodLink RX5 245 yX0_letAllSpeak ∈ ca_TT := ca_inT (List.mem_of_getElem? (i := 487) (by decide +kernel)) rfl
theorem w_ml_X0_67 : Cond.methodLink RX0 67 yX0_letSpeak ∈ ca_TT := ca_inT (List.mem_of_getElem? (i := 491) (by decide +kernel)) rfl
theorem w_ml_X0_74 : Cond.methodLink RX0 74 yJ9_floorMod_7cf53 ∈ ca_TT := ca_inT (List.mem_of_getElem? (i := 495) (by decide +kernel)) rfl
theorem w_ml_X5_248 : Cond.methodLink RX5 248 yX0_burn ∈ ca_TT := ca_inT (List.mem_of_getElem? (i := 498) (by decide +kernel)) rfl
theorem w_ml_X0_80 : Cond.methodLink RX0 80 yX0_allBeside ∈ ca_TT := ca_inT (List.mem_of_getElem? (i := 502) (by decide +kernel)) rfl
theorem w_k_X0_108 : Cond.constant RX0 108 (-17318417) ∈ ca_TT := ca_inT (List.mem_of_getElem? (i := 505) (by decide +kernel)) rfl
theorem w_k_X0_109 : Cond.constant RX0 109 (-1082402) ∈ ca_TT := ca_inT (List.mem_of_getElem? (i := 506) (by decide +kernel)) rfl
theorem w_k_X0_110 : Cond.constant RX0 110 (33554431) ∈ ca_TT := ca_inT (List.mem_of_getElem? (i := 507) (by decide +kernel)) rfl
theorem w_ml_X0_83 : Cond.methodLink RX0 83 yX0_spreadFrom ∈ ca_TT := ca_inT (List.mem_of_getElem? (i := 508) (by decide +kernel)) rfl
theorem w_ml_X0_105 : Cond.methodLink RX0 105 yX0_caughtIn ∈ ca_TT := ca_inT (List.mem_of_getElem? (i := 512) (by decide +kernel)) rfl
theorem w_ml_X0_90 : Cond.methodLink RX0 90 yX0_speak ∈ ca_TT := ca_inT (List.mem_of_getElem? (i := 516) (by decide +kernel)) rfl
theorem w_ml_X0_96 : Cond.methodLink RX0 96 yX0_speakerIn ∈ ca_TT := ca_inT (List.mem_of_getElem? (i := 520) (by decide +kernel)) rfl
theorem w_ml_X0_99 : Cond.methodLink RX0 99 yX0_sayableBy ∈ ca_TT := ca_inT (List.mem_of_getElem? (i := 524) (by decide +kernel)) rfl
theorem w_ml_X0_102 : Cond.methodLink RX0 102 yX0_dearest ∈ ca_TT := ca_inT (List.mem_of_getElem? (i := 528) (by decide +kernel)) rfl
theorem w_ml_X5_135 : Cond.methodLink RX5 135 yX0_roomsBurnt ∈ ca_TT := ca_inT (List.mem_of_getElem? (i := 532) (by decide +kernel)) rfl
theorem w_ml_X0_111 : Cond.methodLink RX0 111 yX0_burnt ∈ ca_TT := ca_inT (List.mem_of_getElem? (i := 536) (by decide +kernel)) rfl
theorem w_ml_X0_115 : Cond.methodLink RX0 115 yJ6_bitCount_0f7a4 ∈ ca_TT := ca_inT (List.mem_of_getElem? (i := 540) (by decide +kernel)) rfl
theorem w_ml_X5_138 : Cond.methodLink RX5 138 yX0_worthBurnt ∈ ca_TT := ca_inT (List.mem_of_getElem? (i := 541) (by decide +kernel)) rfl
theorem w_ml_X5_141 : Cond.methodLink RX5 141 yX0_lastMinute ∈ ca_TT := ca_inT (List.mem_of_getElem? (i := 545) (by decide +kernel)) rfl
theorem w_ml_L_53 : Cond.methodLink RL 53 yX5_burns ∈ ca_TT := ca_inT (List.mem_of_getElem? (i := 549) (by decide +kernel)) rfl
theorem w_ml_X5_144 : Cond.methodLink RX5 144 yX0_minuteBurnt ∈ ca_TT := ca_inT (List.mem_of_getElem? (i := 553) (by decide +kernel)) rfl
theorem w_ml_L_57 : Cond.methodLink RL 57 yX5_said ∈ ca_TT := ca_inT (List.mem_of_getElem? (i := 557) (by decide +kernel)) rfl
theorem w_ml_X5_147 : Cond.methodLink RX5 147 yX0_minuteSaid ∈ ca_TT := ca_inT (List.mem_of_getElem? (i := 561) (by decide +kernel)) rfl
theorem w_ml_X5_150 : Cond.methodLink RX5 150 yX0_speakerIn ∈ ca_TT := ca_inT (List.mem_of_getElem? (i := 565) (by decide +kernel)) rfl
theorem w_ml_L_62 : Cond.methodLink RL 62 yX5_talker ∈ ca_TT := ca_inT (List.mem_of_getElem? (i := 566) (by decide +kernel)) rfl
theorem w_ml_X5_156 : Cond.methodLink RX5 156 yX0_timesSpoken ∈ ca_TT := ca_inT (List.mem_of_getElem? (i := 570) (by decide +kernel)) rfl
theorem w_ml_L_66 : Cond.methodLink RL 66 yX5_alone ∈ ca_TT := ca_inT (List.mem_of_getElem? (i := 574) (by decide +kernel)) rfl
theorem w_ml_X5_162 : Cond.methodLink RX5 162 yX5_worthWithOnly ∈ ca_TT := ca_inT (List.mem_of_getElem? (i := 578) (by decide +kernel)) rfl
theorem w_ml_X5_251 : Cond.methodLink RX5 251 yX0_letSpeak ∈ ca_TT := ca_inT (List.mem_of_getElem? (i := 582) (by decide +kernel)) rfl
theorem w_ml_L_70 : Cond.methodLink RL 70 yX5_bestSpeaker ∈ ca_TT := ca_inT (List.mem_of_getElem? (i := 583) (by decide +kernel)) rfl
theorem w_ml_X5_165 : Cond.methodLink RX5 165 yX5_bestAgainst ∈ ca_TT := ca_inT (List.mem_of_getElem? (i := 587) (by decide +kernel)) rfl
theorem w_ml_X5_168 : Cond.methodLink RX5 168 yX5_worthBy ∈ ca_TT := ca_inT (List.mem_of_getElem? (i := 591) (by decide +kernel)) rfl
theorem w_ml_X5_180 : Cond.methodLink RX5 180 yJ9_max_7cf53 ∈ ca_TT := ca_inT (List.mem_of_getElem? (i := 595) (by decide +kernel)) rfl
theorem w_ml_L_74 : Cond.methodLink RL 74 yX5_worstRoom ∈ ca_TT := ca_inT (List.mem_of_getElem? (i := 596) (by decide +kernel)) rfl
theorem w_ml_L_78 : Cond.methodLink RL 78 yX5_show ∈ ca_TT := ca_inT (List.mem_of_getElem? (i := 600) (by decide +kernel)) rfl
theorem w_ml_X5_171 : Cond.methodLink RX5 171 yX5_worthIn ∈ ca_TT := ca_inT (List.mem_of_getElem? (i := 604) (by decide +kernel)) rfl
theorem w_ml_L_82 : Cond.methodLink RL 82 yX5_mayWait ∈ ca_TT := ca_inT (List.mem_of_getElem? (i := 608) (by decide +kernel)) rfl
theorem w_ml_L_86 : Cond.methodLink RL 86 yX5_leftOut ∈ ca_TT := ca_inT (List.mem_of_getElem? (i := 612) (by decide +kernel)) rfl
theorem w_ml_L_90 : Cond.methodLink RL 90 yX5_enough ∈ ca_TT := ca_inT (List.mem_of_getElem? (i := 616) (by decide +kernel)) rfl
theorem w_ml_X5_175 : Cond.methodLink RX5 175 yJ6_bitCount_0f7a4 ∈ ca_TT := ca_inT (List.mem_of_getElem? (i := 620) (by decide +kernel)) rfl
theorem w_ml_L_94 : Cond.methodLink RL 94 yX5_wall ∈ ca_TT := ca_inT (List.mem_of_getElem? (i := 621) (by decide +kernel)) rfl
theorem w_ml_L_98 : Cond.methodLink RL 98 yX5_captain ∈ ca_TT := ca_inT (List.mem_of_getElem? (i := 625) (by decide +kernel)) rfl
theorem w_ml_L_102 : Cond.methodLink RL 102 yX5_unlike ∈ ca_TT := ca_inT (List.mem_of_getElem? (i := 629) (by decide +kernel)) rfl
theorem w_ml_X5_185 : Cond.methodLink RX5 185 yX1_roomsSayableBy ∈ ca_TT := ca_inT (List.mem_of_getElem? (i := 633) (by decide +kernel)) rfl
theorem w_ml_X5_188 : Cond.methodLink RX5 188 yX5_firstOf ∈ ca_TT := ca_inT (List.mem_of_getElem? (i := 634) (by decide +kernel)) rfl
theorem w_ml_L_106 : Cond.methodLink RL 106 yX5_sure ∈ ca_TT := ca_inT (List.mem_of_getElem? (i := 637) (by decide +kernel)) rfl
theorem w_ml_X5_191 : Cond.methodLink RX5 191 yX1_somebodysRooms ∈ ca_TT := ca_inT (List.mem_of_getElem? (i := 641) (by decide +kernel)) rfl
theorem w_ml_L_110 : Cond.methodLink RL 110 yX5_slip ∈ ca_TT := ca_inT (List.mem_of_getElem? (i := 645) (by decide +kernel)) rfl
theorem w_ml_X5_194 : Cond.methodLink RX5 194 yX5_refuseLong ∈ ca_TT := ca_inT (List.mem_of_getElem? (i := 649) (by decide +kernel)) rfl
theorem w_k_X5_240 : Cond.constantLong RX5 240 (4000000000000000000) ∈ ca_TT := ca_inT (List.mem_of_getElem? (i := 653) (by decide +kernel)) rfl
theorem w_ml_X5_198 : Cond.methodLink RX5 198 yX5_slipsWithin ∈ ca_TT := ca_inT (List.mem_of_getElem? (i := 654) (by decide +kernel)) rfl
theorem w_ml_X5_202 : Cond.methodLink RX5 202 yX5_power ∈ ca_TT := ca_inT (List.mem_of_getElem? (i := 658) (by decide +kernel)) rfl
theorem w_ml_X5_206 : Cond.methodLink RX5 206 yX5_commonDivisor ∈ ca_TT := ca_inT (List.mem_of_getElem? (i := 661) (by decide +kernel)) rfl
theorem w_ml_L_115 : Cond.methodLink RL 115 yX5_whatWas ∈ ca_TT := ca_inT (List.mem_of_getElem? (i := 664) (by decide +kernel)) rfl
theorem w_ml_X5_210 : Cond.methodLink RX5 210 yX5_burnsAsRowTells ∈ ca_TT := ca_inT (List.mem_of_getElem? (i := 668) (by decide +kernel)) rfl
theorem w_ml_X5_216 : Cond.methodLink RX5 216 yX3_at ∈ ca_TT := ca_inT (List.mem_of_getElem? (i := 672) (by decide +kernel)) rfl
theorem w_ml_X5_222 : Cond.methodLink RX5 222 yX5_asRowTells ∈ ca_TT := ca_inT (List.mem_of_getElem? (i := 673) (by decide +kernel)) rfl
theorem w_ml_L_119 : Cond.methodLink RL 119 yX5_row ∈ ca_TT := ca_inT (List.mem_of_getElem? (i := 676) (by decide +kernel)) rfl
theorem w_ml_L_123 : Cond.methodLink RL 123 yX5_judge ∈ ca_TT := ca_inT (List.mem_of_getElem? (i := 680) (by decide +kernel)) rfl
theorem w_ml_X5_219 : Cond.methodLink RX5 219 yX0_roomSaidIn ∈ ca_TT := ca_inT (List.mem_of_getElem? (i := 684) (by decide +kernel)) rfl
theorem w_ml_L_127 : Cond.methodLink RL 127 yX5_clear ∈ ca_TT := ca_inT (List.mem_of_getElem? (i := 688) (by decide +kernel)) rfl
theorem w_ml_L_131 : Cond.methodLink RL 131 yX5_lots ∈ ca_TT := ca_inT (List.mem_of_getElem? (i := 692) (by decide +kernel)) rfl
theorem w_ml_X5_225 : Cond.methodLink RX5 225 yX5_seedAfter ∈ ca_TT := ca_inT (List.mem_of_getElem? (i := 696) (by decide +kernel)) rfl
theorem w_k_X5_254 : Cond.constant RX5 254 (1664525) ∈ ca_TT := ca_inT (List.mem_of_getElem? (i := 699) (by decide +kernel)) rfl
theorem w_k_X5_255 : Cond.constant RX5 255 (1013904223) ∈ ca_TT := ca_inT (List.mem_of_getElem? (i := 700) (by decide +kernel)) rfl
theorem w_ml_X5_228 : Cond.methodLink RX5 228 yX5_drawn ∈ ca_TT := ca_inT (List.mem_of_getElem? (i := 701) (by decide +kernel)) rfl
theorem w_k_X5_256 : Cond.constant RX5 256 (2147483647) ∈ ca_TT := ca_inT (List.mem_of_getElem? (i := 704) (by decide +kernel)) rfl
theorem w_ml_L_135 : Cond.methodLink RL 135 yX5_image ∈ ca_TT := ca_inT (List.mem_of_getElem? (i := 705) (by decide +kernel)) rfl
theorem w_ml_L_139 : Cond.methodLink RL 139 yX5_on ∈ ca_TT := ca_inT (List.mem_of_getElem? (i := 709) (by decide +kernel)) rfl
theorem w_ml_L_143 : Cond.methodLink RL 143 yX5_count ∈ ca_TT := ca_inT (List.mem_of_getElem? (i := 713) (by decide +kernel)) rfl
theorem w_ml_X5_231 : Cond.methodLink RX5 231 yX1_allWorth ∈ ca_TT := ca_inT (List.mem_of_getElem? (i := 717) (by decide +kernel)) rfl
theorem w_ml_X1_92 : Cond.methodLink RX1 92 yX1_worthOf ∈ ca_TT := ca_inT (List.mem_of_getElem? (i := 721) (by decide +kernel)) rfl
theorem w_ml_X5_234 : Cond.methodLink RX5 234 yX1_walls ∈ ca_TT := ca_inT (List.mem_of_getElem? (i := 722) (by decide +kernel)) rfl
theorem w_ml_X5_237 : Cond.methodLink RX5 237 yX1_allKnown ∈ ca_TT := ca_inT (List.mem_of_getElem? (i := 726) (by decide +kernel)) rfl
theorem w_ml_X1_95 : Cond.methodLink RX1 95 yX1_knownBy ∈ ca_TT := ca_inT (List.mem_of_getElem? (i := 730) (by decide +kernel)) rfl
theorem w_cl_L_10 : Cond.classLink RL 10 RX6 ∈ ca_TT := ca_inT (List.mem_of_getElem? (i := 731) (by decide +kernel)) rfl
theorem w_is_X6 : Cond.instantiable RX6 20 ∈ ca_TT := ca_inT (List.mem_of_getElem? (i := 732) (by decide +kernel)) rfl
theorem w_ml_L_12 : Cond.methodLink RL 12 yX6_init ∈ ca_TT := ca_inT (List.mem_of_getElem? (i := 733) (by decide +kernel)) rfl
theorem w_ml_X6_1 : Cond.methodLink RX6 1 Lib.objectInit ∈ ca_TT := ca_inT (List.mem_of_getElem? (i := 736) (by decide +kernel)) rfl
theorem w_fl_X6_9 : Cond.fieldLink RX6 9 RX6 (TX6 0).2.1 (TX6 0).2.2.1 ∈ ca_TT := ca_inT (List.mem_of_getElem? (i := 737) (by decide +kernel)) rfl
theorem w_fl_X6_13 : Cond.fieldLink RX6 13 RX6 (TX6 1).2.1 (TX6 1).2.2.1 ∈ ca_TT := ca_inT (List.mem_of_getElem? (i := 738) (by decide +kernel)) rfl
theorem w_fl_X6_16 : Cond.fieldLink RX6 16 RX6 (TX6 2).2.1 (TX6 2).2.2.1 ∈ ca_TT := ca_inT (List.mem_of_getElem? (i := 739) (by decide +kernel)) rfl
theorem w_fl_X6_19 : Cond.fieldLink RX6 19 RX6 (TX6 3).2.1 (TX6 3).2.2.1 ∈ ca_TT := ca_inT (List.mem_of_getElem? (i := 740) (by decide +kernel)) rfl
theorem w_fl_X6_202 : Cond.fieldLink RX6 202 RX6 (TX6 4).2.1 (TX6 4).2.2.1 ∈ ca_TT := ca_inT (List.mem_of_getElem? (i := 741) (by decide +kernel)) rfl
theorem w_fl_X6_22 : Cond.fieldLink RX6 22 RX6 (TX6 5).2.1 (TX6 5).2.2.1 ∈ ca_TT := ca_inT (List.mem_of_getElem? (i := 742) (by decide +kernel)) rfl
theorem w_fl_X6_25 : Cond.fieldLink RX6 25 RX6 (TX6 6).2.1 (TX6 6).2.2.1 ∈ ca_TT := ca_inT (List.mem_of_getElem? (i := 743) (by decide +kernel)) rfl
theorem w_fl_X6_28 : Cond.fieldLink RX6 28 RX6 (TX6 7).2.1 (TX6 7).2.2.1 ∈ ca_TT := ca_inT (List.mem_of_getElem? (i := 744) (by decide +kernel)) rfl
theorem w_fl_X6_118 : Cond.fieldLink RX6 118 RX6 (TX6 8).2.1 (TX6 8).2.2.1 ∈ ca_TT := ca_inT (List.mem_of_getElem? (i := 745) (by decide +kernel)) rfl
theorem w_fl_X6_190 : Cond.fieldLink RX6 190 RX6 (TX6 9).2.1 (TX6 9).2.2.1 ∈ ca_TT := ca_inT (List.mem_of_getElem? (i := 746) (by decide +kernel)) rfl
theorem w_fl_X6_31 : Cond.fieldLink RX6 31 RX6 (TX6 10).2.1 (TX6 10).2.2.1 ∈ ca_TT := ca_inT (List.mem_of_getElem? (i := 747) (by decide +kernel)) rfl
theorem w_fl_X6_34 : Cond.fieldLink RX6 34 RX6 (TX6 11).2.1 (TX6 11).2.2.1 ∈ ca_TT := ca_inT (List.mem_of_getElem? (i := 748) (by decide +kernel)) rfl
theorem w_fl_X6_37 : Cond.fieldLink RX6 37 RX6 (TX6 12).2.1 (TX6 12).2.2.1 ∈ ca_TT := ca_inT (List.mem_of_getElem? (i := 749) (by decide +kernel)) rfl
theorem w_fl_X6_40 : Cond.fieldLink RX6 40 RX6 (TX6 13).2.1 (TX6 13).2.2.1 ∈ ca_TT := ca_inT (List.mem_of_getElem? (i := 750) (by decide +kernel)) rfl
theorem w_fl_X6_43 : Cond.fieldLink RX6 43 RX6 (TX6 14).2.1 (TX6 14).2.2.1 ∈ ca_TT := ca_inT (List.mem_of_getElem? (i := 751) (by decide +kernel)) rfl
theorem w_fl_X6_96 : Cond.fieldLink RX6 96 RX6 (TX6 15).2.1 (TX6 15).2.2.1 ∈ ca_TT := ca_inT (List.mem_of_getElem? (i := 752) (by decide +kernel)) rfl
theorem w_fl_X6_100 : Cond.fieldLink RX6 100 RX6 (TX6 16).2.1 (TX6 16).2.2.1 ∈ ca_TT := ca_inT (List.mem_of_getElem? (i := 753) (by decide +kernel)) rfl
theorem w_fl_X6_121 : Cond.fieldLink RX6 121 RX6 (TX6 17).2.1 (TX6 17).2.2.1 ∈ ca_TT := ca_inT (List.mem_of_getElem? (i := 754) (by decide +kernel)) rfl
theorem w_fl_X6_46 : Cond.fieldLink RX6 46 RX6 (TX6 18).2.1 (TX6 18).2.2.1 ∈ ca_TT := ca_inT (List.mem_of_getElem? (i := 755) (by decide +kernel)) rfl
theorem w_fl_X6_193 : Cond.fieldLink RX6 193 RX6 (TX6 19).2.1 (TX6 19).2.2.1 ∈ ca_TT := ca_inT (List.mem_of_getElem? (i := 756) (by decide +kernel)) rfl
theorem w_ml_L_17 : Cond.methodLink RL 17 yX6_letter ∈ ca_TT := ca_inT (List.mem_of_getElem? (i := 798) (by decide +kernel)) rfl
theorem w_ml_X6_51 : Cond.methodLink RX6 51 yX6_no ∈ ca_TT := ca_inT (List.mem_of_getElem? (i := 802) (by decide +kernel)) rfl
theorem w_ml_L_22 : Cond.methodLink RL 22 yX6_house ∈ ca_TT := ca_inT (List.mem_of_getElem? (i := 806) (by decide +kernel)) rfl
theorem w_ml_X6_144 : Cond.methodLink RX6 144 yX6_readsStatement ∈ ca_TT := ca_inT (List.mem_of_getElem? (i := 810) (by decide +kernel)) rfl
theorem w_ml_X6_124 : Cond.methodLink RX6 124 yX6_here ∈ ca_TT := ca_inT (List.mem_of_getElem? (i := 814) (by decide +kernel)) rfl
theorem w_ml_X6_131 : Cond.methodLink RX6 131 yX6_readsKind ∈ ca_TT := ca_inT (List.mem_of_getElem? (i := 818) (by decide +kernel)) rfl
theorem w_ml_X6_128 : Cond.methodLink RX6 128 yX6_kindBy ∈ ca_TT := ca_inT (List.mem_of_getElem? (i := 822) (by decide +kernel)) rfl
theorem w_ml_X6_134 : Cond.methodLink RX6 134 yX6_readsNumber ∈ ca_TT := ca_inT (List.mem_of_getElem? (i := 825) (by decide +kernel)) rfl
theorem w_ml_X6_55 : Cond.methodLink RX6 55 yX6_isIn ∈ ca_TT := ca_inT (List.mem_of_getElem? (i := 829) (by decide +kernel)) rfl
theorem w_ml_X6_147 : Cond.methodLink RX6 147 yX6_lays ∈ ca_TT := ca_inT (List.mem_of_getElem? (i := 832) (by decide +kernel)) rfl
theorem w_ml_X6_151 : Cond.methodLink RX6 151 yX6_isDone ∈ ca_TT := ca_inT (List.mem_of_getElem? (i := 835) (by decide +kernel)) rfl
theorem w_ml_X6_138 : Cond.methodLink RX6 138 yX6_isRoom ∈ ca_TT := ca_inT (List.mem_of_getElem? (i := 839) (by decide +kernel)) rfl
theorem w_ml_X6_64 : Cond.methodLink RX6 64 yX6_known ∈ ca_TT := ca_inT (List.mem_of_getElem? (i := 842) (by decide +kernel)) rfl
theorem w_ml_X6_59 : Cond.methodLink RX6 59 yX6_isPerson ∈ ca_TT := ca_inT (List.mem_of_getElem? (i := 845) (by decide +kernel)) rfl
theorem w_ml_X6_141 : Cond.methodLink RX6 141 yX6_night ∈ ca_TT := ca_inT (List.mem_of_getElem? (i := 849) (by decide +kernel)) rfl
theorem w_ml_X6_72 : Cond.methodLink RX6 72 yX6_most ∈ ca_TT := ca_inT (List.mem_of_getElem? (i := 852) (by decide +kernel)) rfl
theorem w_ml_L_27 : Cond.methodLink RL 27 yX6_room ∈ ca_TT := ca_inT (List.mem_of_getElem? (i := 855) (by decide +kernel)) rfl
theorem w_ml_X6_68 : Cond.methodLink RX6 68 yX6_needs ∈ ca_TT := ca_inT (List.mem_of_getElem? (i := 859) (by decide +kernel)) rfl
theorem w_ml_X6_75 : Cond.methodLink RX6 75 yX6_catches ∈ ca_TT := ca_inT (List.mem_of_getElem? (i := 862) (by decide +kernel)) rfl
theorem w_k_X6_63 : Cond.constant RX6 63 (1000000000) ∈ ca_TT := ca_inT (List.mem_of_getElem? (i := 865) (by decide +kernel)) rfl
theorem w_ml_X6_85 : Cond.methodLink RX6 85 yX6_worth ∈ ca_TT := ca_inT (List.mem_of_getElem? (i := 866) (by decide +kernel)) rfl
theorem w_ml_L_31 : Cond.methodLink RL 31 yX6_person ∈ ca_TT := ca_inT (List.mem_of_getElem? (i := 869) (by decide +kernel)) rfl
theorem w_ml_L_36 : Cond.methodLink RL 36 yX6_turn ∈ ca_TT := ca_inT (List.mem_of_getElem? (i := 873) (by decide +kernel)) rfl
theorem w_ml_L_40 : Cond.methodLink RL 40 yX6_sharp ∈ ca_TT := ca_inT (List.mem_of_getElem? (i := 877) (by decide +kernel)) rfl
theorem w_ml_L_44 : Cond.methodLink RL 44 yX6_visit ∈ ca_TT := ca_inT (List.mem_of_getElem? (i := 881) (by decide +kernel)) rfl
theorem w_ml_L_48 : Cond.methodLink RL 48 yX6_nights ∈ ca_TT := ca_inT (List.mem_of_getElem? (i := 885) (by decide +kernel)) rfl
theorem w_ml_X6_154 : Cond.methodLink RX6 154 yX6_knownMany ∈ ca_TT := ca_inT (List.mem_of_getElem? (i := 889) (by decide +kernel)) rfl
theorem w_ml_X6_81 : Cond.methodLink RX6 81 yX6_isKnown ∈ ca_TT := ca_inT (List.mem_of_getElem? (i := 893) (by decide +kernel)) rfl
theorem w_ml_L_52 : Cond.methodLink RL 52 yX6_fire ∈ ca_TT := ca_inT (List.mem_of_getElem? (i := 896) (by decide +kernel)) rfl
theorem w_ml_X6_161 : Cond.methodLink RX6 161 yX6_isFire ∈ ca_TT := ca_inT (List.mem_of_getElem? (i := 900) (by decide +kernel)) rfl
theorem w_ml_X6_158 : Cond.methodLink RX6 158 yX6_isSpeaker ∈ ca_TT := ca_inT (List.mem_of_getElem? (i := 904) (by decide +kernel)) rfl
theorem w_ml_X6_164 : Cond.methodLink RX6 164 yX6_burnsBy ∈ ca_TT := ca_inT (List.mem_of_getElem? (i := 908) (by decide +kernel)) rfl
theorem w_ml_X6_106 : Cond.methodLink RX6 106 yX6_turnsFrom ∈ ca_TT := ca_inT (List.mem_of_getElem? (i := 912) (by decide +kernel)) rfl
theorem w_ml_X6_110 : Cond.methodLink RX6 110 yX6_burns ∈ ca_TT := ca_inT (List.mem_of_getElem? (i := 916) (by decide +kernel)) rfl
theorem w_ml_X6_88 : Cond.methodLink RX6 88 yX6_findsSoonest ∈ ca_TT := ca_inT (List.mem_of_getElem? (i := 920) (by decide +kernel)) rfl
theorem w_ml_X6_78 : Cond.methodLink RX6 78 yX6_beside ∈ ca_TT := ca_inT (List.mem_of_getElem? (i := 924) (by decide +kernel)) rfl
theorem w_ml_X6_92 : Cond.methodLink RX6 92 yX6_isGoingOn ∈ ca_TT := ca_inT (List.mem_of_getElem? (i := 927) (by decide +kernel)) rfl
theorem w_ml_X6_103 : Cond.methodLink RX6 103 yX6_toSay ∈ ca_TT := ca_inT (List.mem_of_getElem? (i := 931) (by decide +kernel)) rfl
theorem w_ml_X6_168 : Cond.methodLink RX6 168 yX6_burntMany ∈ ca_TT := ca_inT (List.mem_of_getElem? (i := 935) (by decide +kernel)) rfl
theorem w_ml_X6_114 : Cond.methodLink RX6 114 yX6_burntWorth ∈ ca_TT := ca_inT (List.mem_of_getElem? (i := 939) (by decide +kernel)) rfl
theorem w_ml_L_56 : Cond.methodLink RL 56 yX6_burns_ ∈ ca_TT := ca_inT (List.mem_of_getElem? (i := 943) (by decide +kernel)) rfl
theorem w_ml_L_61 : Cond.methodLink RL 61 yX6_said ∈ ca_TT := ca_inT (List.mem_of_getElem? (i := 947) (by decide +kernel)) rfl
theorem w_ml_L_65 : Cond.methodLink RL 65 yX6_talker ∈ ca_TT := ca_inT (List.mem_of_getElem? (i := 951) (by decide +kernel)) rfl
theorem w_ml_L_69 : Cond.methodLink RL 69 yX6_alone ∈ ca_TT := ca_inT (List.mem_of_getElem? (i := 955) (by decide +kernel)) rfl
theorem w_ml_L_73 : Cond.methodLink RL 73 yX6_bestSpeaker ∈ ca_TT := ca_inT (List.mem_of_getElem? (i := 959) (by decide +kernel)) rfl
theorem w_ml_X6_171 : Cond.methodLink RX6 171 yX6_worthBy ∈ ca_TT := ca_inT (List.mem_of_getElem? (i := 963) (by decide +kernel)) rfl
theorem w_ml_L_77 : Cond.methodLink RL 77 yX6_worstRoom ∈ ca_TT := ca_inT (List.mem_of_getElem? (i := 967) (by decide +kernel)) rfl
theorem w_ml_L_81 : Cond.methodLink RL 81 yX6_show ∈ ca_TT := ca_inT (List.mem_of_getElem? (i := 971) (by decide +kernel)) rfl
theorem w_ml_L_85 : Cond.methodLink RL 85 yX6_mayWait ∈ ca_TT := ca_inT (List.mem_of_getElem? (i := 975) (by decide +kernel)) rfl
theorem w_ml_L_89 : Cond.methodLink RL 89 yX6_leftOut ∈ ca_TT := ca_inT (List.mem_of_getElem? (i := 979) (by decide +kernel)) rfl
theorem w_ml_L_93 : Cond.methodLink RL 93 yX6_enough ∈ ca_TT := ca_inT (List.mem_of_getElem? (i := 983) (by decide +kernel)) rfl
theorem w_ml_X6_175 : Cond.methodLink RX6 175 yX6_bits ∈ ca_TT := ca_inT (List.mem_of_getElem? (i := 987) (by decide +kernel)) rfl
theorem w_ml_L_97 : Cond.methodLink RL 97 yX6_wall ∈ ca_TT := ca_inT (List.mem_of_getElem? (i := 990) (by decide +kernel)) rfl
theorem w_ml_L_101 : Cond.methodLink RL 101 yX6_captain ∈ ca_TT := ca_inT (List.mem_of_getElem? (i := 994) (by decide +kernel)) rfl
theorem w_ml_L_105 : Cond.methodLink RL 105 yX6_unlike ∈ ca_TT := ca_inT (List.mem_of_getElem? (i := 998) (by decide +kernel)) rfl
theorem w_ml_L_109 : Cond.methodLink RL 109 yX6_sure ∈ ca_TT := ca_inT (List.mem_of_getElem? (i := 1002) (by decide +kernel)) rfl
theorem w_ml_L_114 : Cond.methodLink RL 114 yX6_slip ∈ ca_TT := ca_inT (List.mem_of_getElem? (i := 1006) (by decide +kernel)) rfl
theorem w_ml_X6_182 : Cond.methodLink RX6 182 yX6_noWide ∈ ca_TT := ca_inT (List.mem_of_getElem? (i := 1010) (by decide +kernel)) rfl
theorem w_k_X6_49 : Cond.constantLong RX6 49 (4000000000000000000) ∈ ca_TT := ca_inT (List.mem_of_getElem? (i := 1014) (by decide +kernel)) rfl
theorem w_ml_X6_186 : Cond.methodLink RX6 186 yX6_partOf ∈ ca_TT := ca_inT (List.mem_of_getElem? (i := 1015) (by decide +kernel)) rfl
theorem w_ml_X6_178 : Cond.methodLink RX6 178 yX6_gcd ∈ ca_TT := ca_inT (List.mem_of_getElem? (i := 1018) (by decide +kernel)) rfl
theorem w_ml_L_118 : Cond.methodLink RL 118 yX6_whatWas ∈ ca_TT := ca_inT (List.mem_of_getElem? (i := 1021) (by decide +kernel)) rfl
theorem w_ml_L_122 : Cond.methodLink RL 122 yX6_row ∈ ca_TT := ca_inT (List.mem_of_getElem? (i := 1025) (by decide +kernel)) rfl
theorem w_ml_L_126 : Cond.methodLink RL 126 yX6_judge ∈ ca_TT := ca_inT (List.mem_of_getElem? (i := 1029) (by decide +kernel)) rfl
theorem w_ml_L_130 : Cond.methodLink RL 130 yX6_clear ∈ ca_TT := ca_inT (List.mem_of_getElem? (i := 1033) (by decide +kernel)) rfl
theorem w_ml_L_134 : Cond.methodLink RL 134 yX6_lots ∈ ca_TT := ca_inT (List.mem_of_getElem? (i := 1037) (by decide +kernel)) rfl
theorem w_ml_X6_199 : Cond.methodLink RX6 199 yX6_drawn ∈ ca_TT := ca_inT (List.mem_of_getElem? (i := 1041) (by decide +kernel)) rfl
theorem w_k_X6_196 : Cond.constant RX6 196 (1664525) ∈ ca_TT := ca_inT (List.mem_of_getElem? (i := 1045) (by decide +kernel)) rfl
theorem w_k_X6_197 : Cond.constant RX6 197 (1013904223) ∈ ca_TT := ca_inT (List.mem_of_getElem? (i := 1046) (by decide +kernel)) rfl
theorem w_k_X6_198 : Cond.constant RX6 198 (2147483647) ∈ ca_TT := ca_inT (List.mem_of_getElem? (i := 1047) (by decide +kernel)) rfl
theorem w_ml_L_138 : Cond.methodLink RL 138 yX6_image ∈ ca_TT := ca_inT (List.mem_of_getElem? (i := 1048) (by decide +kernel)) rfl
theorem w_ml_L_142 : Cond.methodLink RL 142 yX6_on ∈ ca_TT := ca_inT (List.mem_of_getElem? (i := 1052) (by decide +kernel)) rfl
theorem w_ml_L_146 : Cond.methodLink RL 146 yX6_count ∈ ca_TT := ca_inT (List.mem_of_getElem? (i := 1056) (by decide +kernel)) rfl
set_option maxRecDepth 100000 in
theorem y0_X0_init : ca_Y yX0_init cX0_init 1 none 0 := ⟨ca_inT (List.mem_of_getElem? (i := 105) rfl) rfl, w_in_X0, by decide +kernel, by decide⟩
theorem y_X0_init : ca_YI yX0_init cX0_init 1 0 := ⟨y0_X0_init, rfl, ca_inT (List.mem_of_getElem? (i := 104) (by decide +kernel)) rfl⟩
set_option maxRecDepth 100000 in
theorem y0_X0_lookAt : ca_Y yX0_lookAt cX0_lookAt 5 none 1 := ⟨ca_inT (List.mem_of_getElem? (i := 480) rfl) rfl, w_in_X0, by decide +kernel, by decide⟩
theorem y_X0_lookAt : ca_YV yX0_lookAt cX0_lookAt 5 none 1 0 := ⟨y0_X0_lookAt, ca_inT (List.mem_of_getElem? (i := 478) (by decide +kernel)) rfl, ca_inT (List.mem_of_getElem? (i := 479) (by decide +kernel)) rfl, by decide +kernel⟩
set_option maxRecDepth 100000 in
theorem y0_X0_letAllSpeak : ca_Y yX0_letAllSpeak cX0_letAllSpeak 2 none 1 := ⟨ca_inT (List.mem_of_getElem? (i := 490) rfl) rfl, w_in_X0, by decide +kernel, by decide⟩
theorem y_X0_letAllSpeak : ca_YV yX0_letAllSpeak cX0_letAllSpeak 2 none 1 0 := ⟨y0_X0_letAllSpeak, ca_inT (List.mem_of_getElem? (i := 488) (by decide +kernel)) rfl, ca_inT (List.mem_of_getElem? (i := 489) (by decide +kernel)) rfl, by decide +kernel⟩
set_option maxRecDepth 100000 in
theorem y0_X0_letSpeak : ca_Y yX0_letSpeak cX0_letSpeak 5 none 2 := ⟨ca_inT (List.mem_of_getElem? (i := 494) rfl) rfl, w_in_X0, by decide +kernel, by decide⟩
theorem y_X0_letSpeak : ca_YV yX0_letSpeak cX0_letSpeak 5 none 2 0 := ⟨y0_X0_letSpeak, ca_inT (List.mem_of_getElem? (i := 492) (by decide +kernel)) rfl, ca_inT (List.mem_of_getElem? (i := 493) (by decide +kernel)) rfl, by decide +kernel⟩
set_option maxRecDepth 100000 in
theorem y0_X0_burn : ca_Y yX0_burn cX0_burn 5 none 2 := ⟨ca_inT (List.mem_of_getElem? (i := 501) rfl) rfl, w_in_X0, by decide +kernel, by decide⟩
theorem y_X0_burn : ca_YV yX0_burn cX0_burn 5 none 2 0 := ⟨y0_X0_burn, ca_inT (List.mem_of_getElem? (i := 499) (by decide +kernel)) rfl, ca_inT (List.mem_of_getElem? (i := 500) (by decide +kernel)) rfl, by decide +kernel⟩
set_option maxRecDepth 100000 in
theorem y0_X0_speak : ca_Y yX0_speak cX0_speak 5 (some .int) 1 := ⟨ca_inT (List.mem_of_getElem? (i := 519) rfl) rfl, w_in_X0, by decide +kernel, by decide⟩
theorem y_X0_speak : ca_YV yX0_speak cX0_speak 5 (some .int) 1 0 := ⟨y0_X0_speak, ca_inT (List.mem_of_getElem? (i := 518) (by decide +kernel)) rfl, ca_inT (List.mem_of_getElem? (i := 14) (by decide +kernel)) rfl, by decide +kernel⟩
set_option maxRecDepth 100000 in
theorem y0_X0_sayableBy : ca_Y yX0_sayableBy cX0_sayableBy 2 (some .int) 1 := ⟨ca_inT (List.mem_of_getElem? (i := 527) rfl) rfl, w_in_X0, by decide +kernel, by decide⟩
theorem y_X0_sayableBy : ca_YV yX0_sayableBy cX0_sayableBy 2 (some .int) 1 0 := ⟨y0_X0_sayableBy, ca_inT (List.mem_of_getElem? (i := 526) (by decide +kernel)) rfl, ca_inT (List.mem_of_getElem? (i := 15) (by decide +kernel)) rfl, by decide +kernel⟩
set_option maxRecDepth 100000 in
theorem y0_X0_dearest : ca_Y yX0_dearest cX0_dearest 5 (some .int) 1 := ⟨ca_inT (List.mem_of_getElem? (i := 531) rfl) rfl, w_in_X0, by decide +kernel, by decide⟩
theorem y_X0_dearest : ca_YV yX0_dearest cX0_dearest 5 (some .int) 1 0 := ⟨y0_X0_dearest, ca_inT (List.mem_of_getElem? (i := 530) (by decide +kernel)) rfl, ca_inT (List.mem_of_getElem? (i := 16) (by decide +kernel)) rfl, by decide +kernel⟩
set_option maxRecDepth 100000 in
theorem y0_X0_spreadFrom : ca_Y yX0_spreadFrom cX0_spreadFrom 4 none 1 := ⟨ca_inT (List.mem_of_getElem? (i := 511) rfl) rfl, w_in_X0, by decide +kernel, by decide⟩
theorem y_X0_spreadFrom : ca_YV yX0_spreadFrom cX0_spreadFrom 4 none 1 0 := ⟨y0_X0_spreadFrom, ca_inT (List.mem_of_getElem? (i := 510) (by decide +kernel)) rfl, ca_inT (List.mem_of_getElem? (i := 12) (by decide +kernel)) rfl, by decide +kernel⟩
set_option maxRecDepth 100000 in
theorem y0_X0_caughtIn : ca_Y yX0_caughtIn cX0_caughtIn 4 (some .int) 1 := ⟨ca_inT (List.mem_of_getElem? (i := 515) rfl) rfl, w_in_X0, by decide +kernel, by decide⟩
theorem y_X0_caughtIn : ca_YV yX0_caughtIn cX0_caughtIn 4 (some .int) 1 0 := ⟨y0_X0_caughtIn, ca_inT (List.mem_of_getElem? (i := 514) (by decide +kernel)) rfl, ca_inT (List.mem_of_getElem? (i := 13) (by decide +kernel)) rfl, by decide +kernel⟩
set_option maxRecDepth 100000 in
theorem y0_X0_allBeside : ca_Y yX0_allBeside cX0_allBeside 2 (some .int) 1 := ⟨ca_inT (List.mem_of_getElem? (i := 504) rfl) rfl, w_in_X0, by decide +kernel, by decide⟩
theorem y_X0_allBeside : ca_YS yX0_allBeside cX0_allBeside 2 (some .int) 1 := ⟨y0_X0_allBeside, ca_inT (List.mem_of_getElem? (i := 503) (by decide +kernel)) rfl⟩
set_option maxRecDepth 100000 in
theorem y0_X0_roomsBurnt : ca_Y yX0_roomsBurnt cX0_roomsBurnt 1 (some .int) 0 := ⟨ca_inT (List.mem_of_getElem? (i := 535) rfl) rfl, w_in_X0, by decide +kernel, by decide⟩
theorem y_X0_roomsBurnt : ca_YV yX0_roomsBurnt cX0_roomsBurnt 1 (some .int) 0 0 := ⟨y0_X0_roomsBurnt, ca_inT (List.mem_of_getElem? (i := 533) (by decide +kernel)) rfl, ca_inT (List.mem_of_getElem? (i := 534) (by decide +kernel)) rfl, by decide +kernel⟩
set_option maxRecDepth 100000 in
theorem y0_X0_worthBurnt : ca_Y yX0_worthBurnt cX0_worthBurnt 4 (some .int) 0 := ⟨ca_inT (List.mem_of_getElem? (i := 544) rfl) rfl, w_in_X0, by decide +kernel, by decide⟩
theorem y_X0_worthBurnt : ca_YV yX0_worthBurnt cX0_worthBurnt 4 (some .int) 0 0 := ⟨y0_X0_worthBurnt, ca_inT (List.mem_of_getElem? (i := 542) (by decide +kernel)) rfl, ca_inT (List.mem_of_getElem? (i := 543) (by decide +kernel)) rfl, by decide +kernel⟩
set_option maxRecDepth 100000 in
theorem y0_X0_burnt : ca_Y yX0_burnt cX0_burnt 1 (some .int) 0 := ⟨ca_inT (List.mem_of_getElem? (i := 539) rfl) rfl, w_in_X0, by decide +kernel, by decide⟩
theorem y_X0_burnt : ca_YV yX0_burnt cX0_burnt 1 (some .int) 0 0 := ⟨y0_X0_burnt, ca_inT (List.mem_of_getElem? (i := 538) (by decide +kernel)) rfl, ca_inT (List.mem_of_getElem? (i := 17) (by decide +kernel)) rfl, by decide +kernel⟩
set_option maxRecDepth 100000 in
theorem y0_X0_lastMinute : ca_Y yX0_lastMinute cX0_lastMinute 1 (some .int) 0 := ⟨ca_inT (List.mem_of_getElem? (i := 548) rfl) rfl, w_in_X0, by decide +kernel, by decide⟩
theorem y_X0_lastMinute : ca_YV yX0_lastMinute cX0_lastMinute 1 (some .int) 0 0 := ⟨y0_X0_lastMinute, ca_inT (List.mem_of_getElem? (i := 546) (by decide +kernel)) rfl, ca_inT (List.mem_of_getElem? (i := 547) (by decide +kernel)) rfl, by decide +kernel⟩
set_option maxRecDepth 100000 in
theorem y0_X0_minuteBurnt : ca_Y yX0_minuteBurnt cX0_minuteBurnt 3 (some .int) 1 := ⟨ca_inT (List.mem_of_getElem? (i := 556) rfl) rfl, w_in_X0, by decide +kernel, by decide⟩
theorem y_X0_minuteBurnt : ca_YV yX0_minuteBurnt cX0_minuteBurnt 3 (some .int) 1 0 := ⟨y0_X0_minuteBurnt, ca_inT (List.mem_of_getElem? (i := 554) (by decide +kernel)) rfl, ca_inT (List.mem_of_getElem? (i := 555) (by decide +kernel)) rfl, by decide +kernel⟩
set_option maxRecDepth 100000 in
theorem y0_X0_roomSaidIn : ca_Y yX0_roomSaidIn cX0_roomSaidIn 2 (some .int) 1 := ⟨ca_inT (List.mem_of_getElem? (i := 687) rfl) rfl, w_in_X0, by decide +kernel, by decide⟩
theorem y_X0_roomSaidIn : ca_YV yX0_roomSaidIn cX0_roomSaidIn 2 (some .int) 1 0 := ⟨y0_X0_roomSaidIn, ca_inT (List.mem_of_getElem? (i := 685) (by decide +kernel)) rfl, ca_inT (List.mem_of_getElem? (i := 686) (by decide +kernel)) rfl, by decide +kernel⟩
set_option maxRecDepth 100000 in
theorem y0_X0_minuteSaid : ca_Y yX0_minuteSaid cX0_minuteSaid 3 (some .int) 1 := ⟨ca_inT (List.mem_of_getElem? (i := 564) rfl) rfl, w_in_X0, by decide +kernel, by decide⟩
theorem y_X0_minuteSaid : ca_YV yX0_minuteSaid cX0_minuteSaid 3 (some .int) 1 0 := ⟨y0_X0_minuteSaid, ca_inT (List.mem_of_getElem? (i := 562) (by decide +kernel)) rfl, ca_inT (List.mem_of_getElem? (i := 563) (by decide +kernel)) rfl, by decide +kernel⟩
set_option maxRecDepth 100000 in
theorem y0_X0_speakerIn : ca_Y yX0_speakerIn cX0_speakerIn 2 (some .int) 1 := ⟨ca_inT (List.mem_of_getElem? (i := 523) rfl) rfl, w_in_X0, by decide +kernel, by decide⟩
theorem y_X0_speakerIn : ca_YV yX0_speakerIn cX0_speakerIn 2 (some .int) 1 0 := ⟨y0_X0_speakerIn, ca_inT (List.mem_of_getElem? (i := 521) (by decide +kernel)) rfl, ca_inT (List.mem_of_getElem? (i := 522) (by decide +kernel)) rfl, by decide +kernel⟩
set_option maxRecDepth 100000 in
theorem y0_X0_timesSpoken : ca_Y yX0_timesSpoken cX0_timesSpoken 4 (some .int) 1 := ⟨ca_inT (List.mem_of_getElem? (i := 573) rfl) rfl, w_in_X0, by decide +kernel, by decide⟩
theorem y_X0_timesSpoken : ca_YV yX0_timesSpoken cX0_timesSpoken 4 (some .int) 1 0 := ⟨y0_X0_timesSpoken, ca_inT (List.mem_of_getElem? (i := 571) (by decide +kernel)) rfl, ca_inT (List.mem_of_getElem? (i := 572) (by decide +kernel)) rfl, by decide +kernel⟩
set_option maxRecDepth 100000 in
theorem y0_X1_init : ca_Y yX1_init cX1_init 1 none 0 := ⟨ca_inT (List.mem_of_getElem? (i := 73) rfl) rfl, w_in_X1, by decide +kernel, by decide⟩
theorem y_X1_init : ca_YI yX1_init cX1_init 1 0 := ⟨y0_X1_init, rfl, ca_inT (List.mem_of_getElem? (i := 72) (by decide +kernel)) rfl⟩
set_option maxRecDepth 100000 in
theorem y0_X1_become : ca_Y yX1_become cX1_become 2 none 1 := ⟨ca_inT (List.mem_of_getElem? (i := 226) rfl) rfl, w_in_X1, by decide +kernel, by decide⟩
theorem y_X1_become : ca_YV yX1_become cX1_become 2 none 1 1 := ⟨y0_X1_become, ca_inT (List.mem_of_getElem? (i := 224) (by decide +kernel)) rfl, ca_inT (List.mem_of_getElem? (i := 225) (by decide +kernel)) rfl, by decide +kernel⟩
set_option maxRecDepth 100000 in
theorem y0_X1_hasPerson : ca_Y yX1_hasPerson cX1_hasPerson 2 (some .boolean) 1 := ⟨ca_inT (List.mem_of_getElem? (i := 348) rfl) rfl, w_in_X1, by decide +kernel, by decide⟩
theorem y_X1_hasPerson : ca_YV yX1_hasPerson cX1_hasPerson 2 (some .boolean) 1 1 := ⟨y0_X1_hasPerson, ca_inT (List.mem_of_getElem? (i := 346) (by decide +kernel)) rfl, ca_inT (List.mem_of_getElem? (i := 347) (by decide +kernel)) rfl, by decide +kernel⟩
set_option maxRecDepth 100000 in
theorem y0_X1_kindOf : ca_Y yX1_kindOf cX1_kindOf 2 (some .int) 1 := ⟨ca_inT (List.mem_of_getElem? (i := 388) rfl) rfl, w_in_X1, by decide +kernel, by decide⟩
theorem y_X1_kindOf : ca_YV yX1_kindOf cX1_kindOf 2 (some .int) 1 1 := ⟨y0_X1_kindOf, ca_inT (List.mem_of_getElem? (i := 386) (by decide +kernel)) rfl, ca_inT (List.mem_of_getElem? (i := 387) (by decide +kernel)) rfl, by decide +kernel⟩
set_option maxRecDepth 100000 in
theorem y0_X1_figureOf : ca_Y yX1_figureOf cX1_figureOf 2 (some .int) 1 := ⟨ca_inT (List.mem_of_getElem? (i := 392) rfl) rfl, w_in_X1, by decide +kernel, by decide⟩
theorem y_X1_figureOf : ca_YV yX1_figureOf cX1_figureOf 2 (some .int) 1 1 := ⟨y0_X1_figureOf, ca_inT (List.mem_of_getElem? (i := 390) (by decide +kernel)) rfl, ca_inT (List.mem_of_getElem? (i := 391) (by decide +kernel)) rfl, by decide +kernel⟩
set_option maxRecDepth 100000 in
theorem y0_X1_needsOf : ca_Y yX1_needsOf cX1_needsOf 2 (some .int) 1 := ⟨ca_inT (List.mem_of_getElem? (i := 396) rfl) rfl, w_in_X1, by decide +kernel, by decide⟩
theorem y_X1_needsOf : ca_YV yX1_needsOf cX1_needsOf 2 (some .int) 1 1 := ⟨y0_X1_needsOf, ca_inT (List.mem_of_getElem? (i := 394) (by decide +kernel)) rfl, ca_inT (List.mem_of_getElem? (i := 395) (by decide +kernel)) rfl, by decide +kernel⟩
set_option maxRecDepth 100000 in
theorem y0_X1_catchesOf : ca_Y yX1_catchesOf cX1_catchesOf 2 (some .int) 1 := ⟨ca_inT (List.mem_of_getElem? (i := 404) rfl) rfl, w_in_X1, by decide +kernel, by decide⟩
theorem y_X1_catchesOf : ca_YV yX1_catchesOf cX1_catchesOf 2 (some .int) 1 1 := ⟨y0_X1_catchesOf, ca_inT (List.mem_of_getElem? (i := 402) (by decide +kernel)) rfl, ca_inT (List.mem_of_getElem? (i := 403) (by decide +kernel)) rfl, by decide +kernel⟩
set_option maxRecDepth 100000 in
theorem y0_X1_worthOf : ca_Y yX1_worthOf cX1_worthOf 2 (some .int) 1 := ⟨ca_inT (List.mem_of_getElem? (i := 411) rfl) rfl, w_in_X1, by decide +kernel, by decide⟩
theorem y_X1_worthOf : ca_YV yX1_worthOf cX1_worthOf 2 (some .int) 1 1 := ⟨y0_X1_worthOf, ca_inT (List.mem_of_getElem? (i := 409) (by decide +kernel)) rfl, ca_inT (List.mem_of_getElem? (i := 410) (by decide +kernel)) rfl, by decide +kernel⟩
set_option maxRecDepth 100000 in
theorem y0_X1_sharpOf : ca_Y yX1_sharpOf cX1_sharpOf 2 (some .int) 1 := ⟨ca_inT (List.mem_of_getElem? (i := 369) rfl) rfl, w_in_X1, by decide +kernel, by decide⟩
theorem y_X1_sharpOf : ca_YV yX1_sharpOf cX1_sharpOf 2 (some .int) 1 1 := ⟨y0_X1_sharpOf, ca_inT (List.mem_of_getElem? (i := 367) (by decide +kernel)) rfl, ca_inT (List.mem_of_getElem? (i := 368) (by decide +kernel)) rfl, by decide +kernel⟩
set_option maxRecDepth 100000 in
theorem y0_X1_knownBy : ca_Y yX1_knownBy cX1_knownBy 3 (some .int) 2 := ⟨ca_inT (List.mem_of_getElem? (i := 429) rfl) rfl, w_in_X1, by decide +kernel, by decide⟩
theorem y_X1_knownBy : ca_YV yX1_knownBy cX1_knownBy 3 (some .int) 2 1 := ⟨y0_X1_knownBy, ca_inT (List.mem_of_getElem? (i := 427) (by decide +kernel)) rfl, ca_inT (List.mem_of_getElem? (i := 428) (by decide +kernel)) rfl, by decide +kernel⟩
set_option maxRecDepth 100000 in
theorem y0_X1_put : ca_Y yX1_put cX1_put 4 none 3 := ⟨ca_inT (List.mem_of_getElem? (i := 333) rfl) rfl, w_in_X1, by decide +kernel, by decide⟩
theorem y_X1_put : ca_YV yX1_put cX1_put 4 none 3 1 := ⟨y0_X1_put, ca_inT (List.mem_of_getElem? (i := 331) (by decide +kernel)) rfl, ca_inT (List.mem_of_getElem? (i := 332) (by decide +kernel)) rfl, by decide +kernel⟩
set_option maxRecDepth 100000 in
theorem y0_X1_sharpen : ca_Y yX1_sharpen cX1_sharpen 3 none 2 := ⟨ca_inT (List.mem_of_getElem? (i := 344) rfl) rfl, w_in_X1, by decide +kernel, by decide⟩
theorem y_X1_sharpen : ca_YV yX1_sharpen cX1_sharpen 3 none 2 1 := ⟨y0_X1_sharpen, ca_inT (List.mem_of_getElem? (i := 342) (by decide +kernel)) rfl, ca_inT (List.mem_of_getElem? (i := 343) (by decide +kernel)) rfl, by decide +kernel⟩
set_option maxRecDepth 100000 in
theorem y0_X1_learn : ca_Y yX1_learn cX1_learn 4 none 3 := ⟨ca_inT (List.mem_of_getElem? (i := 352) rfl) rfl, w_in_X1, by decide +kernel, by decide⟩
theorem y_X1_learn : ca_YV yX1_learn cX1_learn 4 none 3 1 := ⟨y0_X1_learn, ca_inT (List.mem_of_getElem? (i := 350) (by decide +kernel)) rfl, ca_inT (List.mem_of_getElem? (i := 351) (by decide +kernel)) rfl, by decide +kernel⟩
set_option maxRecDepth 100000 in
theorem y0_X1_takeIn : ca_Y yX1_takeIn cX1_takeIn 4 (some .boolean) 1 := ⟨ca_inT (List.mem_of_getElem? (i := 340) rfl) rfl, w_in_X1, by decide +kernel, by decide⟩
theorem y_X1_takeIn : ca_YV yX1_takeIn cX1_takeIn 4 (some .boolean) 1 1 := ⟨y0_X1_takeIn, ca_inT (List.mem_of_getElem? (i := 338) (by decide +kernel)) rfl, ca_inT (List.mem_of_getElem? (i := 339) (by decide +kernel)) rfl, by decide +kernel⟩
set_option maxRecDepth 100000 in
theorem y0_X1_passNights : ca_Y yX1_passNights cX1_passNights 5 none 1 := ⟨ca_inT (List.mem_of_getElem? (i := 365) rfl) rfl, w_in_X1, by decide +kernel, by decide⟩
theorem y_X1_passNights : ca_YV yX1_passNights cX1_passNights 5 none 1 1 := ⟨y0_X1_passNights, ca_inT (List.mem_of_getElem? (i := 363) (by decide +kernel)) rfl, ca_inT (List.mem_of_getElem? (i := 364) (by decide +kernel)) rfl, by decide +kernel⟩
set_option maxRecDepth 100000 in
theorem y0_X1_forgetSome : ca_Y yX1_forgetSome cX1_forgetSome 4 none 1 := ⟨ca_inT (List.mem_of_getElem? (i := 373) rfl) rfl, w_in_X1, by decide +kernel, by decide⟩
theorem y_X1_forgetSome : ca_YV yX1_forgetSome cX1_forgetSome 4 none 1 1 := ⟨y0_X1_forgetSome, ca_inT (List.mem_of_getElem? (i := 372) (by decide +kernel)) rfl, ca_inT (List.mem_of_getElem? (i := 8) (by decide +kernel)) rfl, by decide +kernel⟩
set_option maxRecDepth 100000 in
theorem y0_X1_roomsSayableBy : ca_Y yX1_roomsSayableBy cX1_roomsSayableBy 4 (some .int) 1 := ⟨ca_inT (List.mem_of_getElem? (i := 458) rfl) rfl, w_in_X1, by decide +kernel, by decide⟩
theorem y_X1_roomsSayableBy : ca_YV yX1_roomsSayableBy cX1_roomsSayableBy 4 (some .int) 1 1 := ⟨y0_X1_roomsSayableBy, ca_inT (List.mem_of_getElem? (i := 456) (by decide +kernel)) rfl, ca_inT (List.mem_of_getElem? (i := 457) (by decide +kernel)) rfl, by decide +kernel⟩
set_option maxRecDepth 100000 in
theorem y0_X1_sureRooms : ca_Y yX1_sureRooms cX1_sureRooms 3 (some .int) 0 := ⟨ca_inT (List.mem_of_getElem? (i := 453) rfl) rfl, w_in_X1, by decide +kernel, by decide⟩
theorem y_X1_sureRooms : ca_YV yX1_sureRooms cX1_sureRooms 3 (some .int) 0 1 := ⟨y0_X1_sureRooms, ca_inT (List.mem_of_getElem? (i := 451) (by decide +kernel)) rfl, ca_inT (List.mem_of_getElem? (i := 452) (by decide +kernel)) rfl, by decide +kernel⟩
set_option maxRecDepth 100000 in
theorem y0_X1_somebodysRooms : ca_Y yX1_somebodysRooms cX1_somebodysRooms 3 (some .int) 0 := ⟨ca_inT (List.mem_of_getElem? (i := 644) rfl) rfl, w_in_X1, by decide +kernel, by decide⟩
theorem y_X1_somebodysRooms : ca_YV yX1_somebodysRooms cX1_somebodysRooms 3 (some .int) 0 1 := ⟨y0_X1_somebodysRooms, ca_inT (List.mem_of_getElem? (i := 642) (by decide +kernel)) rfl, ca_inT (List.mem_of_getElem? (i := 643) (by decide +kernel)) rfl, by decide +kernel⟩
set_option maxRecDepth 100000 in
theorem y0_X1_allWorth : ca_Y yX1_allWorth cX1_allWorth 3 (some .int) 0 := ⟨ca_inT (List.mem_of_getElem? (i := 720) rfl) rfl, w_in_X1, by decide +kernel, by decide⟩
theorem y_X1_allWorth : ca_YV yX1_allWorth cX1_allWorth 3 (some .int) 0 1 := ⟨y0_X1_allWorth, ca_inT (List.mem_of_getElem? (i := 718) (by decide +kernel)) rfl, ca_inT (List.mem_of_getElem? (i := 719) (by decide +kernel)) rfl, by decide +kernel⟩
set_option maxRecDepth 100000 in
theorem y0_X1_walls : ca_Y yX1_walls cX1_walls 3 (some .int) 0 := ⟨ca_inT (List.mem_of_getElem? (i := 725) rfl) rfl, w_in_X1, by decide +kernel, by decide⟩
theorem y_X1_walls : ca_YV yX1_walls cX1_walls 3 (some .int) 0 1 := ⟨y0_X1_walls, ca_inT (List.mem_of_getElem? (i := 723) (by decide +kernel)) rfl, ca_inT (List.mem_of_getElem? (i := 724) (by decide +kernel)) rfl, by decide +kernel⟩
set_option maxRecDepth 100000 in
theorem y0_X1_allKnown : ca_Y yX1_allKnown cX1_allKnown 4 (some .int) 0 := ⟨ca_inT (List.mem_of_getElem? (i := 729) rfl) rfl, w_in_X1, by decide +kernel, by decide⟩
theorem y_X1_allKnown : ca_YV yX1_allKnown cX1_allKnown 4 (some .int) 0 1 := ⟨y0_X1_allKnown, ca_inT (List.mem_of_getElem? (i := 727) (by decide +kernel)) rfl, ca_inT (List.mem_of_getElem? (i := 728) (by decide +kernel)) rfl, by decide +kernel⟩
set_option maxRecDepth 100000 in
theorem y0_X2_needs : ca_Y yX2_needs cX2_needs 1 (some .int) 1 := ⟨ca_inT (List.mem_of_getElem? (i := 400) rfl) rfl, w_in_X2, by decide +kernel, by decide⟩
theorem y_X2_needs : ca_YS yX2_needs cX2_needs 1 (some .int) 1 := ⟨y0_X2_needs, ca_inT (List.mem_of_getElem? (i := 399) (by decide +kernel)) rfl⟩
set_option maxRecDepth 100000 in
theorem y0_X2_catches : ca_Y yX2_catches cX2_catches 1 (some .int) 1 := ⟨ca_inT (List.mem_of_getElem? (i := 407) rfl) rfl, w_in_X2, by decide +kernel, by decide⟩
theorem y_X2_catches : ca_YS yX2_catches cX2_catches 1 (some .int) 1 := ⟨y0_X2_catches, ca_inT (List.mem_of_getElem? (i := 406) (by decide +kernel)) rfl⟩
set_option maxRecDepth 100000 in
theorem y0_X2_worth : ca_Y yX2_worth cX2_worth 2 (some .int) 2 := ⟨ca_inT (List.mem_of_getElem? (i := 415) rfl) rfl, w_in_X2, by decide +kernel, by decide⟩
theorem y_X2_worth : ca_YS yX2_worth cX2_worth 2 (some .int) 2 := ⟨y0_X2_worth, ca_inT (List.mem_of_getElem? (i := 414) (by decide +kernel)) rfl⟩
set_option maxRecDepth 100000 in
theorem y0_X3_init : ca_Y yX3_init cX3_init 2 none 1 := ⟨ca_inT (List.mem_of_getElem? (i := 157) rfl) rfl, w_in_X3, by decide +kernel, by decide⟩
theorem y_X3_init : ca_YI yX3_init cX3_init 2 1 := ⟨y0_X3_init, rfl, ca_inT (List.mem_of_getElem? (i := 156) (by decide +kernel)) rfl⟩
set_option maxRecDepth 100000 in
theorem y0_X3_isFull : ca_Y yX3_isFull cX3_isFull 1 (some .boolean) 0 := ⟨ca_inT (List.mem_of_getElem? (i := 214) rfl) rfl, w_in_X3, by decide +kernel, by decide⟩
theorem y_X3_isFull : ca_YV yX3_isFull cX3_isFull 1 (some .boolean) 0 2 := ⟨y0_X3_isFull, ca_inT (List.mem_of_getElem? (i := 212) (by decide +kernel)) rfl, ca_inT (List.mem_of_getElem? (i := 213) (by decide +kernel)) rfl, by decide +kernel⟩
set_option maxRecDepth 100000 in
theorem y0_X3_add : ca_Y yX3_add cX3_add 2 (some .int) 1 := ⟨ca_inT (List.mem_of_getElem? (i := 218) rfl) rfl, w_in_X3, by decide +kernel, by decide⟩
theorem y_X3_add : ca_YV yX3_add cX3_add 2 (some .int) 1 2 := ⟨y0_X3_add, ca_inT (List.mem_of_getElem? (i := 216) (by decide +kernel)) rfl, ca_inT (List.mem_of_getElem? (i := 217) (by decide +kernel)) rfl, by decide +kernel⟩
set_option maxRecDepth 100000 in
theorem y0_X3_at : ca_Y yX3_at cX3_at 2 (some .int) 1 := ⟨ca_inT (List.mem_of_getElem? (i := 241) rfl) rfl, w_in_X3, by decide +kernel, by decide⟩
theorem y_X3_at : ca_YV yX3_at cX3_at 2 (some .int) 1 2 := ⟨y0_X3_at, ca_inT (List.mem_of_getElem? (i := 239) (by decide +kernel)) rfl, ca_inT (List.mem_of_getElem? (i := 240) (by decide +kernel)) rfl, by decide +kernel⟩
set_option maxRecDepth 100000 in
theorem y0_X3_forget : ca_Y yX3_forget cX3_forget 1 none 0 := ⟨ca_inT (List.mem_of_getElem? (i := 378) rfl) rfl, w_in_X3, by decide +kernel, by decide⟩
theorem y_X3_forget : ca_YV yX3_forget cX3_forget 1 none 0 2 := ⟨y0_X3_forget, ca_inT (List.mem_of_getElem? (i := 376) (by decide +kernel)) rfl, ca_inT (List.mem_of_getElem? (i := 377) (by decide +kernel)) rfl, by decide +kernel⟩
set_option maxRecDepth 100000 in
theorem y0_X4_init : ca_Y yX4_init cX4_init 1 none 0 := ⟨ca_inT (List.mem_of_getElem? (i := 151) rfl) rfl, w_in_X4, by decide +kernel, by decide⟩
theorem y_X4_init : ca_YI yX4_init cX4_init 1 0 := ⟨y0_X4_init, rfl, ca_inT (List.mem_of_getElem? (i := 150) (by decide +kernel)) rfl⟩
set_option maxRecDepth 100000 in
theorem y0_X4_tellTo : ca_Y yX4_tellTo cX4_tellTo 5 (some .int) 1 := ⟨ca_inT (List.mem_of_getElem? (i := 233) rfl) rfl, w_in_X4, by decide +kernel, by decide⟩
theorem y_X4_tellTo : ca_YV yX4_tellTo cX4_tellTo 5 (some .int) 1 3 := ⟨y0_X4_tellTo, ca_inT (List.mem_of_getElem? (i := 231) (by decide +kernel)) rfl, ca_inT (List.mem_of_getElem? (i := 232) (by decide +kernel)) rfl, by decide +kernel⟩
set_option maxRecDepth 100000 in
theorem y0_X4_firstStray : ca_Y yX4_firstStray cX4_firstStray 5 (some .int) 0 := ⟨ca_inT (List.mem_of_getElem? (i := 237) rfl) rfl, w_in_X4, by decide +kernel, by decide⟩
theorem y_X4_firstStray : ca_YV yX4_firstStray cX4_firstStray 5 (some .int) 0 3 := ⟨y0_X4_firstStray, ca_inT (List.mem_of_getElem? (i := 236) (by decide +kernel)) rfl, ca_inT (List.mem_of_getElem? (i := 1) (by decide +kernel)) rfl, by decide +kernel⟩
set_option maxRecDepth 100000 in
theorem y0_X4_fittingLetters : ca_Y yX4_fittingLetters cX4_fittingLetters 4 (some .int) 2 := ⟨ca_inT (List.mem_of_getElem? (i := 254) rfl) rfl, w_in_X4, by decide +kernel, by decide⟩
theorem y_X4_fittingLetters : ca_YV yX4_fittingLetters cX4_fittingLetters 4 (some .int) 2 3 := ⟨y0_X4_fittingLetters, ca_inT (List.mem_of_getElem? (i := 253) (by decide +kernel)) rfl, ca_inT (List.mem_of_getElem? (i := 2) (by decide +kernel)) rfl, by decide +kernel⟩
set_option maxRecDepth 100000 in
theorem y0_X4_fits : ca_Y yX4_fits cX4_fits 2 (some .boolean) 2 := ⟨ca_inT (List.mem_of_getElem? (i := 305) rfl) rfl, w_in_X4, by decide +kernel, by decide⟩
theorem y_X4_fits : ca_YS yX4_fits cX4_fits 2 (some .boolean) 2 := ⟨y0_X4_fits, ca_inT (List.mem_of_getElem? (i := 304) (by decide +kernel)) rfl⟩
set_option maxRecDepth 100000 in
theorem y0_X4_formOf : ca_Y yX4_formOf cX4_formOf 1 (some (.object "java/lang/String")) 1 := ⟨ca_inT (List.mem_of_getElem? (i := 244) rfl) rfl, w_in_X4, by decide +kernel, by decide⟩
theorem y_X4_formOf : ca_YS yX4_formOf cX4_formOf 1 (some (.object "java/lang/String")) 1 := ⟨y0_X4_formOf, ca_inT (List.mem_of_getElem? (i := 243) (by decide +kernel)) rfl⟩
set_option maxRecDepth 100000 in
theorem y0_X4_tellStatement : ca_Y yX4_tellStatement cX4_tellStatement 3 (some .boolean) 2 := ⟨ca_inT (List.mem_of_getElem? (i := 317) rfl) rfl, w_in_X4, by decide +kernel, by decide⟩
theorem y_X4_tellStatement : ca_YV yX4_tellStatement cX4_tellStatement 3 (some .boolean) 2 3 := ⟨y0_X4_tellStatement, ca_inT (List.mem_of_getElem? (i := 316) (by decide +kernel)) rfl, ca_inT (List.mem_of_getElem? (i := 3) (by decide +kernel)) rfl, by decide +kernel⟩
set_option maxRecDepth 100000 in
theorem y0_X4_tellThings : ca_Y yX4_tellThings cX4_tellThings 8 (some .boolean) 4 := ⟨ca_inT (List.mem_of_getElem? (i := 329) rfl) rfl, w_in_X4, by decide +kernel, by decide⟩
theorem y_X4_tellThings : ca_YV yX4_tellThings cX4_tellThings 8 (some .boolean) 4 3 := ⟨y0_X4_tellThings, ca_inT (List.mem_of_getElem? (i := 328) (by decide +kernel)) rfl, ca_inT (List.mem_of_getElem? (i := 6) (by decide +kernel)) rfl, by decide +kernel⟩
set_option maxRecDepth 100000 in
theorem y0_X4_tellKnown : ca_Y yX4_tellKnown cX4_tellKnown 7 (some .boolean) 2 := ⟨ca_inT (List.mem_of_getElem? (i := 356) rfl) rfl, w_in_X4, by decide +kernel, by decide⟩
theorem y_X4_tellKnown : ca_YV yX4_tellKnown cX4_tellKnown 7 (some .boolean) 2 3 := ⟨y0_X4_tellKnown, ca_inT (List.mem_of_getElem? (i := 355) (by decide +kernel)) rfl, ca_inT (List.mem_of_getElem? (i := 7) (by decide +kernel)) rfl, by decide +kernel⟩
set_option maxRecDepth 100000 in
theorem y0_X4_tellNights : ca_Y yX4_tellNights cX4_tellNights 2 (some .boolean) 2 := ⟨ca_inT (List.mem_of_getElem? (i := 361) rfl) rfl, w_in_X4, by decide +kernel, by decide⟩
theorem y_X4_tellNights : ca_YS yX4_tellNights cX4_tellNights 2 (some .boolean) 2 := ⟨y0_X4_tellNights, ca_inT (List.mem_of_getElem? (i := 360) (by decide +kernel)) rfl⟩
set_option maxRecDepth 100000 in
theorem y0_X4_kindOfLetter : ca_Y yX4_kindOfLetter cX4_kindOfLetter 2 (some .int) 1 := ⟨ca_inT (List.mem_of_getElem? (i := 308) rfl) rfl, w_in_X4, by decide +kernel, by decide⟩
theorem y_X4_kindOfLetter : ca_YS yX4_kindOfLetter cX4_kindOfLetter 2 (some .int) 1 := ⟨y0_X4_kindOfLetter, ca_inT (List.mem_of_getElem? (i := 307) (by decide +kernel)) rfl⟩
set_option maxRecDepth 100000 in
theorem y0_X4_digitAt : ca_Y yX4_digitAt cX4_digitAt 2 (some .int) 1 := ⟨ca_inT (List.mem_of_getElem? (i := 325) rfl) rfl, w_in_X4, by decide +kernel, by decide⟩
theorem y_X4_digitAt : ca_YV yX4_digitAt cX4_digitAt 2 (some .int) 1 3 := ⟨y0_X4_digitAt, ca_inT (List.mem_of_getElem? (i := 324) (by decide +kernel)) rfl, ca_inT (List.mem_of_getElem? (i := 5) (by decide +kernel)) rfl, by decide +kernel⟩
set_option maxRecDepth 100000 in
theorem y0_X4_pairAt : ca_Y yX4_pairAt cX4_pairAt 2 (some .int) 1 := ⟨ca_inT (List.mem_of_getElem? (i := 321) rfl) rfl, w_in_X4, by decide +kernel, by decide⟩
theorem y_X4_pairAt : ca_YV yX4_pairAt cX4_pairAt 2 (some .int) 1 3 := ⟨y0_X4_pairAt, ca_inT (List.mem_of_getElem? (i := 320) (by decide +kernel)) rfl, ca_inT (List.mem_of_getElem? (i := 4) (by decide +kernel)) rfl, by decide +kernel⟩
set_option maxRecDepth 100000 in
theorem y0_X5_init : ca_Y yX5_init cX5_init 1 none 0 := ⟨ca_inT (List.mem_of_getElem? (i := 65) rfl) rfl, w_in_X5, by decide +kernel, by decide⟩
theorem y_X5_init : ca_YI yX5_init cX5_init 1 0 := ⟨y0_X5_init, rfl, ca_inT (List.mem_of_getElem? (i := 64) (by decide +kernel)) rfl⟩
set_option maxRecDepth 100000 in
theorem y0_X5_letter : ca_Y yX5_letter cX5_letter 2 (some .int) 1 := ⟨ca_inT (List.mem_of_getElem? (i := 206) rfl) rfl, w_in_X5, by decide +kernel, by decide⟩
theorem y_X5_letter : ca_YV yX5_letter cX5_letter 2 (some .int) 1 4 := ⟨y0_X5_letter, ca_inT (List.mem_of_getElem? (i := 204) (by decide +kernel)) rfl, ca_inT (List.mem_of_getElem? (i := 205) (by decide +kernel)) rfl, by decide +kernel⟩
set_option maxRecDepth 100000 in
theorem y0_X5_house : ca_Y yX5_house cX5_house 2 (some .int) 0 := ⟨ca_inT (List.mem_of_getElem? (i := 222) rfl) rfl, w_in_X5, by decide +kernel, by decide⟩
theorem y_X5_house : ca_YV yX5_house cX5_house 2 (some .int) 0 4 := ⟨y0_X5_house, ca_inT (List.mem_of_getElem? (i := 220) (by decide +kernel)) rfl, ca_inT (List.mem_of_getElem? (i := 221) (by decide +kernel)) rfl, by decide +kernel⟩
set_option maxRecDepth 100000 in
theorem y0_X5_room : ca_Y yX5_room cX5_room 3 (some .int) 2 := ⟨ca_inT (List.mem_of_getElem? (i := 383) rfl) rfl, w_in_X5, by decide +kernel, by decide⟩
theorem y_X5_room : ca_YV yX5_room cX5_room 3 (some .int) 2 4 := ⟨y0_X5_room, ca_inT (List.mem_of_getElem? (i := 381) (by decide +kernel)) rfl, ca_inT (List.mem_of_getElem? (i := 382) (by decide +kernel)) rfl, by decide +kernel⟩
set_option maxRecDepth 100000 in
theorem y0_X5_person : ca_Y yX5_person cX5_person 3 (some .int) 2 := ⟨ca_inT (List.mem_of_getElem? (i := 419) rfl) rfl, w_in_X5, by decide +kernel, by decide⟩
theorem y_X5_person : ca_YV yX5_person cX5_person 3 (some .int) 2 4 := ⟨y0_X5_person, ca_inT (List.mem_of_getElem? (i := 417) (by decide +kernel)) rfl, ca_inT (List.mem_of_getElem? (i := 418) (by decide +kernel)) rfl, by decide +kernel⟩
set_option maxRecDepth 100000 in
theorem y0_X5_turn : ca_Y yX5_turn cX5_turn 5 (some .int) 3 := ⟨ca_inT (List.mem_of_getElem? (i := 433) rfl) rfl, w_in_X5, by decide +kernel, by decide⟩
theorem y_X5_turn : ca_YV yX5_turn cX5_turn 5 (some .int) 3 4 := ⟨y0_X5_turn, ca_inT (List.mem_of_getElem? (i := 431) (by decide +kernel)) rfl, ca_inT (List.mem_of_getElem? (i := 432) (by decide +kernel)) rfl, by decide +kernel⟩
set_option maxRecDepth 100000 in
theorem y0_X5_sharp : ca_Y yX5_sharp cX5_sharp 4 (some .int) 2 := ⟨ca_inT (List.mem_of_getElem? (i := 438) rfl) rfl, w_in_X5, by decide +kernel, by decide⟩
theorem y_X5_sharp : ca_YV yX5_sharp cX5_sharp 4 (some .int) 2 4 := ⟨y0_X5_sharp, ca_inT (List.mem_of_getElem? (i := 436) (by decide +kernel)) rfl, ca_inT (List.mem_of_getElem? (i := 437) (by decide +kernel)) rfl, by decide +kernel⟩
set_option maxRecDepth 100000 in
theorem y0_X5_visit : ca_Y yX5_visit cX5_visit 5 (some .int) 3 := ⟨ca_inT (List.mem_of_getElem? (i := 443) rfl) rfl, w_in_X5, by decide +kernel, by decide⟩
theorem y_X5_visit : ca_YV yX5_visit cX5_visit 5 (some .int) 3 4 := ⟨y0_X5_visit, ca_inT (List.mem_of_getElem? (i := 441) (by decide +kernel)) rfl, ca_inT (List.mem_of_getElem? (i := 442) (by decide +kernel)) rfl, by decide +kernel⟩
set_option maxRecDepth 100000 in
theorem y0_X5_nights : ca_Y yX5_nights cX5_nights 2 (some .int) 1 := ⟨ca_inT (List.mem_of_getElem? (i := 448) rfl) rfl, w_in_X5, by decide +kernel, by decide⟩
theorem y_X5_nights : ca_YV yX5_nights cX5_nights 2 (some .int) 1 4 := ⟨y0_X5_nights, ca_inT (List.mem_of_getElem? (i := 446) (by decide +kernel)) rfl, ca_inT (List.mem_of_getElem? (i := 447) (by decide +kernel)) rfl, by decide +kernel⟩
set_option maxRecDepth 100000 in
theorem y0_X5_fire : ca_Y yX5_fire cX5_fire 4 (some .int) 3 := ⟨ca_inT (List.mem_of_getElem? (i := 468) rfl) rfl, w_in_X5, by decide +kernel, by decide⟩
theorem y_X5_fire : ca_YV yX5_fire cX5_fire 4 (some .int) 3 4 := ⟨y0_X5_fire, ca_inT (List.mem_of_getElem? (i := 466) (by decide +kernel)) rfl, ca_inT (List.mem_of_getElem? (i := 467) (by decide +kernel)) rfl, by decide +kernel⟩
set_option maxRecDepth 100000 in
theorem y0_X5_burns : ca_Y yX5_burns cX5_burns 4 (some .int) 3 := ⟨ca_inT (List.mem_of_getElem? (i := 552) rfl) rfl, w_in_X5, by decide +kernel, by decide⟩
theorem y_X5_burns : ca_YV yX5_burns cX5_burns 4 (some .int) 3 4 := ⟨y0_X5_burns, ca_inT (List.mem_of_getElem? (i := 550) (by decide +kernel)) rfl, ca_inT (List.mem_of_getElem? (i := 551) (by decide +kernel)) rfl, by decide +kernel⟩
set_option maxRecDepth 100000 in
theorem y0_X5_said : ca_Y yX5_said cX5_said 6 (some .int) 4 := ⟨ca_inT (List.mem_of_getElem? (i := 560) rfl) rfl, w_in_X5, by decide +kernel, by decide⟩
theorem y_X5_said : ca_YV yX5_said cX5_said 6 (some .int) 4 4 := ⟨y0_X5_said, ca_inT (List.mem_of_getElem? (i := 558) (by decide +kernel)) rfl, ca_inT (List.mem_of_getElem? (i := 559) (by decide +kernel)) rfl, by decide +kernel⟩
set_option maxRecDepth 100000 in
theorem y0_X5_talker : ca_Y yX5_talker cX5_talker 7 (some .int) 2 := ⟨ca_inT (List.mem_of_getElem? (i := 569) rfl) rfl, w_in_X5, by decide +kernel, by decide⟩
theorem y_X5_talker : ca_YV yX5_talker cX5_talker 7 (some .int) 2 4 := ⟨y0_X5_talker, ca_inT (List.mem_of_getElem? (i := 567) (by decide +kernel)) rfl, ca_inT (List.mem_of_getElem? (i := 568) (by decide +kernel)) rfl, by decide +kernel⟩
set_option maxRecDepth 100000 in
theorem y0_X5_alone : ca_Y yX5_alone cX5_alone 2 (some .int) 1 := ⟨ca_inT (List.mem_of_getElem? (i := 577) rfl) rfl, w_in_X5, by decide +kernel, by decide⟩
theorem y_X5_alone : ca_YV yX5_alone cX5_alone 2 (some .int) 1 4 := ⟨y0_X5_alone, ca_inT (List.mem_of_getElem? (i := 575) (by decide +kernel)) rfl, ca_inT (List.mem_of_getElem? (i := 576) (by decide +kernel)) rfl, by decide +kernel⟩
set_option maxRecDepth 100000 in
theorem y0_X5_bestSpeaker : ca_Y yX5_bestSpeaker cX5_bestSpeaker 2 (some .int) 1 := ⟨ca_inT (List.mem_of_getElem? (i := 586) rfl) rfl, w_in_X5, by decide +kernel, by decide⟩
theorem y_X5_bestSpeaker : ca_YV yX5_bestSpeaker cX5_bestSpeaker 2 (some .int) 1 4 := ⟨y0_X5_bestSpeaker, ca_inT (List.mem_of_getElem? (i := 584) (by decide +kernel)) rfl, ca_inT (List.mem_of_getElem? (i := 585) (by decide +kernel)) rfl, by decide +kernel⟩
set_option maxRecDepth 100000 in
theorem y0_X5_worstRoom : ca_Y yX5_worstRoom cX5_worstRoom 5 (some .int) 0 := ⟨ca_inT (List.mem_of_getElem? (i := 599) rfl) rfl, w_in_X5, by decide +kernel, by decide⟩
theorem y_X5_worstRoom : ca_YV yX5_worstRoom cX5_worstRoom 5 (some .int) 0 4 := ⟨y0_X5_worstRoom, ca_inT (List.mem_of_getElem? (i := 597) (by decide +kernel)) rfl, ca_inT (List.mem_of_getElem? (i := 598) (by decide +kernel)) rfl, by decide +kernel⟩
set_option maxRecDepth 100000 in
theorem y0_X5_show : ca_Y yX5_show cX5_show 7 (some .int) 2 := ⟨ca_inT (List.mem_of_getElem? (i := 603) rfl) rfl, w_in_X5, by decide +kernel, by decide⟩
theorem y_X5_show : ca_YV yX5_show cX5_show 7 (some .int) 2 4 := ⟨y0_X5_show, ca_inT (List.mem_of_getElem? (i := 601) (by decide +kernel)) rfl, ca_inT (List.mem_of_getElem? (i := 602) (by decide +kernel)) rfl, by decide +kernel⟩
set_option maxRecDepth 100000 in
theorem y0_X5_mayWait : ca_Y yX5_mayWait cX5_mayWait 4 (some .int) 1 := ⟨ca_inT (List.mem_of_getElem? (i := 611) rfl) rfl, w_in_X5, by decide +kernel, by decide⟩
theorem y_X5_mayWait : ca_YV yX5_mayWait cX5_mayWait 4 (some .int) 1 4 := ⟨y0_X5_mayWait, ca_inT (List.mem_of_getElem? (i := 609) (by decide +kernel)) rfl, ca_inT (List.mem_of_getElem? (i := 610) (by decide +kernel)) rfl, by decide +kernel⟩
set_option maxRecDepth 100000 in
theorem y0_X5_leftOut : ca_Y yX5_leftOut cX5_leftOut 7 (some .int) 1 := ⟨ca_inT (List.mem_of_getElem? (i := 615) rfl) rfl, w_in_X5, by decide +kernel, by decide⟩
theorem y_X5_leftOut : ca_YV yX5_leftOut cX5_leftOut 7 (some .int) 1 4 := ⟨y0_X5_leftOut, ca_inT (List.mem_of_getElem? (i := 613) (by decide +kernel)) rfl, ca_inT (List.mem_of_getElem? (i := 614) (by decide +kernel)) rfl, by decide +kernel⟩
set_option maxRecDepth 100000 in
theorem y0_X5_enough : ca_Y yX5_enough cX5_enough 6 (some .int) 1 := ⟨ca_inT (List.mem_of_getElem? (i := 619) rfl) rfl, w_in_X5, by decide +kernel, by decide⟩
theorem y_X5_enough : ca_YV yX5_enough cX5_enough 6 (some .int) 1 4 := ⟨y0_X5_enough, ca_inT (List.mem_of_getElem? (i := 617) (by decide +kernel)) rfl, ca_inT (List.mem_of_getElem? (i := 618) (by decide +kernel)) rfl, by decide +kernel⟩
set_option maxRecDepth 100000 in
theorem y0_X5_wall : ca_Y yX5_wall cX5_wall 6 (some .int) 1 := ⟨ca_inT (List.mem_of_getElem? (i := 624) rfl) rfl, w_in_X5, by decide +kernel, by decide⟩
theorem y_X5_wall : ca_YV yX5_wall cX5_wall 6 (some .int) 1 4 := ⟨y0_X5_wall, ca_inT (List.mem_of_getElem? (i := 622) (by decide +kernel)) rfl, ca_inT (List.mem_of_getElem? (i := 623) (by decide +kernel)) rfl, by decide +kernel⟩
set_option maxRecDepth 100000 in
theorem y0_X5_captain : ca_Y yX5_captain cX5_captain 5 (some .int) 3 := ⟨ca_inT (List.mem_of_getElem? (i := 628) rfl) rfl, w_in_X5, by decide +kernel, by decide⟩
theorem y_X5_captain : ca_YV yX5_captain cX5_captain 5 (some .int) 3 4 := ⟨y0_X5_captain, ca_inT (List.mem_of_getElem? (i := 626) (by decide +kernel)) rfl, ca_inT (List.mem_of_getElem? (i := 627) (by decide +kernel)) rfl, by decide +kernel⟩
set_option maxRecDepth 100000 in
theorem y0_X5_unlike : ca_Y yX5_unlike cX5_unlike 5 (some .int) 3 := ⟨ca_inT (List.mem_of_getElem? (i := 632) rfl) rfl, w_in_X5, by decide +kernel, by decide⟩
theorem y_X5_unlike : ca_YV yX5_unlike cX5_unlike 5 (some .int) 3 4 := ⟨y0_X5_unlike, ca_inT (List.mem_of_getElem? (i := 630) (by decide +kernel)) rfl, ca_inT (List.mem_of_getElem? (i := 631) (by decide +kernel)) rfl, by decide +kernel⟩
set_option maxRecDepth 100000 in
theorem y0_X5_sure : ca_Y yX5_sure cX5_sure 2 (some .int) 1 := ⟨ca_inT (List.mem_of_getElem? (i := 640) rfl) rfl, w_in_X5, by decide +kernel, by decide⟩
theorem y_X5_sure : ca_YV yX5_sure cX5_sure 2 (some .int) 1 4 := ⟨y0_X5_sure, ca_inT (List.mem_of_getElem? (i := 638) (by decide +kernel)) rfl, ca_inT (List.mem_of_getElem? (i := 639) (by decide +kernel)) rfl, by decide +kernel⟩
set_option maxRecDepth 100000 in
theorem y0_X5_slip : ca_Y yX5_slip cX5_slip 12 (some .long) 5 := ⟨ca_inT (List.mem_of_getElem? (i := 648) rfl) rfl, w_in_X5, by decide +kernel, by decide⟩
theorem y_X5_slip : ca_YV yX5_slip cX5_slip 12 (some .long) 5 4 := ⟨y0_X5_slip, ca_inT (List.mem_of_getElem? (i := 646) (by decide +kernel)) rfl, ca_inT (List.mem_of_getElem? (i := 647) (by decide +kernel)) rfl, by decide +kernel⟩
set_option maxRecDepth 100000 in
theorem y0_X5_whatWas : ca_Y yX5_whatWas cX5_whatWas 7 (some .int) 3 := ⟨ca_inT (List.mem_of_getElem? (i := 667) rfl) rfl, w_in_X5, by decide +kernel, by decide⟩
theorem y_X5_whatWas : ca_YV yX5_whatWas cX5_whatWas 7 (some .int) 3 4 := ⟨y0_X5_whatWas, ca_inT (List.mem_of_getElem? (i := 665) (by decide +kernel)) rfl, ca_inT (List.mem_of_getElem? (i := 666) (by decide +kernel)) rfl, by decide +kernel⟩
set_option maxRecDepth 100000 in
theorem y0_X5_row : ca_Y yX5_row cX5_row 2 (some .int) 1 := ⟨ca_inT (List.mem_of_getElem? (i := 679) rfl) rfl, w_in_X5, by decide +kernel, by decide⟩
theorem y_X5_row : ca_YV yX5_row cX5_row 2 (some .int) 1 4 := ⟨y0_X5_row, ca_inT (List.mem_of_getElem? (i := 677) (by decide +kernel)) rfl, ca_inT (List.mem_of_getElem? (i := 678) (by decide +kernel)) rfl, by decide +kernel⟩
set_option maxRecDepth 100000 in
theorem y0_X5_judge : ca_Y yX5_judge cX5_judge 4 (some .int) 1 := ⟨ca_inT (List.mem_of_getElem? (i := 683) rfl) rfl, w_in_X5, by decide +kernel, by decide⟩
theorem y_X5_judge : ca_YV yX5_judge cX5_judge 4 (some .int) 1 4 := ⟨y0_X5_judge, ca_inT (List.mem_of_getElem? (i := 681) (by decide +kernel)) rfl, ca_inT (List.mem_of_getElem? (i := 682) (by decide +kernel)) rfl, by decide +kernel⟩
set_option maxRecDepth 100000 in
theorem y0_X5_clear : ca_Y yX5_clear cX5_clear 2 (some .int) 0 := ⟨ca_inT (List.mem_of_getElem? (i := 691) rfl) rfl, w_in_X5, by decide +kernel, by decide⟩
theorem y_X5_clear : ca_YV yX5_clear cX5_clear 2 (some .int) 0 4 := ⟨y0_X5_clear, ca_inT (List.mem_of_getElem? (i := 689) (by decide +kernel)) rfl, ca_inT (List.mem_of_getElem? (i := 690) (by decide +kernel)) rfl, by decide +kernel⟩
set_option maxRecDepth 100000 in
theorem y0_X5_lots : ca_Y yX5_lots cX5_lots 10 (some .int) 3 := ⟨ca_inT (List.mem_of_getElem? (i := 695) rfl) rfl, w_in_X5, by decide +kernel, by decide⟩
theorem y_X5_lots : ca_YV yX5_lots cX5_lots 10 (some .int) 3 4 := ⟨y0_X5_lots, ca_inT (List.mem_of_getElem? (i := 693) (by decide +kernel)) rfl, ca_inT (List.mem_of_getElem? (i := 694) (by decide +kernel)) rfl, by decide +kernel⟩
set_option maxRecDepth 100000 in
theorem y0_X5_image : ca_Y yX5_image cX5_image 1 (some .int) 0 := ⟨ca_inT (List.mem_of_getElem? (i := 708) rfl) rfl, w_in_X5, by decide +kernel, by decide⟩
theorem y_X5_image : ca_YV yX5_image cX5_image 1 (some .int) 0 4 := ⟨y0_X5_image, ca_inT (List.mem_of_getElem? (i := 706) (by decide +kernel)) rfl, ca_inT (List.mem_of_getElem? (i := 707) (by decide +kernel)) rfl, by decide +kernel⟩
set_option maxRecDepth 100000 in
theorem y0_X5_on : ca_Y yX5_on cX5_on 1 (some .int) 0 := ⟨ca_inT (List.mem_of_getElem? (i := 712) rfl) rfl, w_in_X5, by decide +kernel, by decide⟩
theorem y_X5_on : ca_YV yX5_on cX5_on 1 (some .int) 0 4 := ⟨y0_X5_on, ca_inT (List.mem_of_getElem? (i := 710) (by decide +kernel)) rfl, ca_inT (List.mem_of_getElem? (i := 711) (by decide +kernel)) rfl, by decide +kernel⟩
set_option maxRecDepth 100000 in
theorem y0_X5_count : ca_Y yX5_count cX5_count 2 (some .int) 1 := ⟨ca_inT (List.mem_of_getElem? (i := 716) rfl) rfl, w_in_X5, by decide +kernel, by decide⟩
theorem y_X5_count : ca_YV yX5_count cX5_count 2 (some .int) 1 4 := ⟨y0_X5_count, ca_inT (List.mem_of_getElem? (i := 714) (by decide +kernel)) rfl, ca_inT (List.mem_of_getElem? (i := 715) (by decide +kernel)) rfl, by decide +kernel⟩
set_option maxRecDepth 100000 in
theorem y0_X5_refuse : ca_Y yX5_refuse cX5_refuse 3 (some .int) 1 := ⟨ca_inT (List.mem_of_getElem? (i := 210) rfl) rfl, w_in_X5, by decide +kernel, by decide⟩
theorem y_X5_refuse : ca_YV yX5_refuse cX5_refuse 3 (some .int) 1 4 := ⟨y0_X5_refuse, ca_inT (List.mem_of_getElem? (i := 209) (by decide +kernel)) rfl, ca_inT (List.mem_of_getElem? (i := 0) (by decide +kernel)) rfl, by decide +kernel⟩
set_option maxRecDepth 100000 in
theorem y0_X5_refuseLong : ca_Y yX5_refuseLong cX5_refuseLong 2 (some .long) 1 := ⟨ca_inT (List.mem_of_getElem? (i := 652) rfl) rfl, w_in_X5, by decide +kernel, by decide⟩
theorem y_X5_refuseLong : ca_YV yX5_refuseLong cX5_refuseLong 2 (some .long) 1 4 := ⟨y0_X5_refuseLong, ca_inT (List.mem_of_getElem? (i := 651) (by decide +kernel)) rfl, ca_inT (List.mem_of_getElem? (i := 22) (by decide +kernel)) rfl, by decide +kernel⟩
set_option maxRecDepth 100000 in
theorem y0_X5_isRoom : ca_Y yX5_isRoom cX5_isRoom 1 (some .boolean) 1 := ⟨ca_inT (List.mem_of_getElem? (i := 336) rfl) rfl, w_in_X5, by decide +kernel, by decide⟩
theorem y_X5_isRoom : ca_YS yX5_isRoom cX5_isRoom 1 (some .boolean) 1 := ⟨y0_X5_isRoom, ca_inT (List.mem_of_getElem? (i := 335) (by decide +kernel)) rfl⟩
set_option maxRecDepth 100000 in
theorem y0_X5_isPerson : ca_Y yX5_isPerson cX5_isPerson 2 (some .boolean) 1 := ⟨ca_inT (List.mem_of_getElem? (i := 423) rfl) rfl, w_in_X5, by decide +kernel, by decide⟩
theorem y_X5_isPerson : ca_YV yX5_isPerson cX5_isPerson 2 (some .boolean) 1 4 := ⟨y0_X5_isPerson, ca_inT (List.mem_of_getElem? (i := 422) (by decide +kernel)) rfl, ca_inT (List.mem_of_getElem? (i := 9) (by decide +kernel)) rfl, by decide +kernel⟩
set_option maxRecDepth 100000 in
theorem y0_X5_isSpeaker : ca_Y yX5_isSpeaker cX5_isSpeaker 2 (some .boolean) 1 := ⟨ca_inT (List.mem_of_getElem? (i := 472) rfl) rfl, w_in_X5, by decide +kernel, by decide⟩
theorem y_X5_isSpeaker : ca_YV yX5_isSpeaker cX5_isSpeaker 2 (some .boolean) 1 4 := ⟨y0_X5_isSpeaker, ca_inT (List.mem_of_getElem? (i := 471) (by decide +kernel)) rfl, ca_inT (List.mem_of_getElem? (i := 10) (by decide +kernel)) rfl, by decide +kernel⟩
set_option maxRecDepth 100000 in
theorem y0_X5_burnAsNow : ca_Y yX5_burnAsNow cX5_burnAsNow 3 none 2 := ⟨ca_inT (List.mem_of_getElem? (i := 476) rfl) rfl, w_in_X5, by decide +kernel, by decide⟩
theorem y_X5_burnAsNow : ca_YV yX5_burnAsNow cX5_burnAsNow 3 none 2 4 := ⟨y0_X5_burnAsNow, ca_inT (List.mem_of_getElem? (i := 475) (by decide +kernel)) rfl, ca_inT (List.mem_of_getElem? (i := 11) (by decide +kernel)) rfl, by decide +kernel⟩
set_option maxRecDepth 100000 in
theorem y0_X5_worthIn : ca_Y yX5_worthIn cX5_worthIn 3 (some .int) 2 := ⟨ca_inT (List.mem_of_getElem? (i := 607) rfl) rfl, w_in_X5, by decide +kernel, by decide⟩
theorem y_X5_worthIn : ca_YV yX5_worthIn cX5_worthIn 3 (some .int) 2 4 := ⟨y0_X5_worthIn, ca_inT (List.mem_of_getElem? (i := 606) (by decide +kernel)) rfl, ca_inT (List.mem_of_getElem? (i := 21) (by decide +kernel)) rfl, by decide +kernel⟩
set_option maxRecDepth 100000 in
theorem y0_X5_worthBy : ca_Y yX5_worthBy cX5_worthBy 3 (some .int) 2 := ⟨ca_inT (List.mem_of_getElem? (i := 594) rfl) rfl, w_in_X5, by decide +kernel, by decide⟩
theorem y_X5_worthBy : ca_YV yX5_worthBy cX5_worthBy 3 (some .int) 2 4 := ⟨y0_X5_worthBy, ca_inT (List.mem_of_getElem? (i := 593) (by decide +kernel)) rfl, ca_inT (List.mem_of_getElem? (i := 20) (by decide +kernel)) rfl, by decide +kernel⟩
set_option maxRecDepth 100000 in
theorem y0_X5_worthWithOnly : ca_Y yX5_worthWithOnly cX5_worthWithOnly 3 (some .int) 2 := ⟨ca_inT (List.mem_of_getElem? (i := 581) rfl) rfl, w_in_X5, by decide +kernel, by decide⟩
theorem y_X5_worthWithOnly : ca_YV yX5_worthWithOnly cX5_worthWithOnly 3 (some .int) 2 4 := ⟨y0_X5_worthWithOnly, ca_inT (List.mem_of_getElem? (i := 580) (by decide +kernel)) rfl, ca_inT (List.mem_of_getElem? (i := 18) (by decide +kernel)) rfl, by decide +kernel⟩
set_option maxRecDepth 100000 in
theorem y0_X5_bestAgainst : ca_Y yX5_bestAgainst cX5_bestAgainst 7 (some .int) 2 := ⟨ca_inT (List.mem_of_getElem? (i := 590) rfl) rfl, w_in_X5, by decide +kernel, by decide⟩
theorem y_X5_bestAgainst : ca_YV yX5_bestAgainst cX5_bestAgainst 7 (some .int) 2 4 := ⟨y0_X5_bestAgainst, ca_inT (List.mem_of_getElem? (i := 589) (by decide +kernel)) rfl, ca_inT (List.mem_of_getElem? (i := 19) (by decide +kernel)) rfl, by decide +kernel⟩
set_option maxRecDepth 100000 in
theorem y0_X5_slipsWithin : ca_Y yX5_slipsWithin cX5_slipsWithin 8 (some .long) 4 := ⟨ca_inT (List.mem_of_getElem? (i := 657) rfl) rfl, w_in_X5, by decide +kernel, by decide⟩
theorem y_X5_slipsWithin : ca_YV yX5_slipsWithin cX5_slipsWithin 8 (some .long) 4 4 := ⟨y0_X5_slipsWithin, ca_inT (List.mem_of_getElem? (i := 656) (by decide +kernel)) rfl, ca_inT (List.mem_of_getElem? (i := 23) (by decide +kernel)) rfl, by decide +kernel⟩
set_option maxRecDepth 100000 in
theorem y0_X5_power : ca_Y yX5_power cX5_power 5 (some .long) 2 := ⟨ca_inT (List.mem_of_getElem? (i := 660) rfl) rfl, w_in_X5, by decide +kernel, by decide⟩
theorem y_X5_power : ca_YS yX5_power cX5_power 5 (some .long) 2 := ⟨y0_X5_power, ca_inT (List.mem_of_getElem? (i := 659) (by decide +kernel)) rfl⟩
set_option maxRecDepth 100000 in
theorem y0_X5_commonDivisor : ca_Y yX5_commonDivisor cX5_commonDivisor 11 (some .long) 2 := ⟨ca_inT (List.mem_of_getElem? (i := 663) rfl) rfl, w_in_X5, by decide +kernel, by decide⟩
theorem y_X5_commonDivisor : ca_YS yX5_commonDivisor cX5_commonDivisor 11 (some .long) 2 := ⟨y0_X5_commonDivisor, ca_inT (List.mem_of_getElem? (i := 662) (by decide +kernel)) rfl⟩
set_option maxRecDepth 100000 in
theorem y0_X5_burnsAsRowTells : ca_Y yX5_burnsAsRowTells cX5_burnsAsRowTells 3 (some .boolean) 1 := ⟨ca_inT (List.mem_of_getElem? (i := 671) rfl) rfl, w_in_X5, by decide +kernel, by decide⟩
theorem y_X5_burnsAsRowTells : ca_YV yX5_burnsAsRowTells cX5_burnsAsRowTells 3 (some .boolean) 1 4 := ⟨y0_X5_burnsAsRowTells, ca_inT (List.mem_of_getElem? (i := 670) (by decide +kernel)) rfl, ca_inT (List.mem_of_getElem? (i := 24) (by decide +kernel)) rfl, by decide +kernel⟩
set_option maxRecDepth 100000 in
theorem y0_X5_firstOf : ca_Y yX5_firstOf cX5_firstOf 2 (some .int) 1 := ⟨ca_inT (List.mem_of_getElem? (i := 636) rfl) rfl, w_in_X5, by decide +kernel, by decide⟩
theorem y_X5_firstOf : ca_YS yX5_firstOf cX5_firstOf 2 (some .int) 1 := ⟨y0_X5_firstOf, ca_inT (List.mem_of_getElem? (i := 635) (by decide +kernel)) rfl⟩
set_option maxRecDepth 100000 in
theorem y0_X5_asRowTells : ca_Y yX5_asRowTells cX5_asRowTells 1 (some .int) 1 := ⟨ca_inT (List.mem_of_getElem? (i := 675) rfl) rfl, w_in_X5, by decide +kernel, by decide⟩
theorem y_X5_asRowTells : ca_YS yX5_asRowTells cX5_asRowTells 1 (some .int) 1 := ⟨y0_X5_asRowTells, ca_inT (List.mem_of_getElem? (i := 674) (by decide +kernel)) rfl⟩
set_option maxRecDepth 100000 in
theorem y0_X5_seedAfter : ca_Y yX5_seedAfter cX5_seedAfter 1 (some .int) 1 := ⟨ca_inT (List.mem_of_getElem? (i := 698) rfl) rfl, w_in_X5, by decide +kernel, by decide⟩
theorem y_X5_seedAfter : ca_YS yX5_seedAfter cX5_seedAfter 1 (some .int) 1 := ⟨y0_X5_seedAfter, ca_inT (List.mem_of_getElem? (i := 697) (by decide +kernel)) rfl⟩
set_option maxRecDepth 100000 in
theorem y0_X5_drawn : ca_Y yX5_drawn cX5_drawn 2 (some .int) 2 := ⟨ca_inT (List.mem_of_getElem? (i := 703) rfl) rfl, w_in_X5, by decide +kernel, by decide⟩
theorem y_X5_drawn : ca_YS yX5_drawn cX5_drawn 2 (some .int) 2 := ⟨y0_X5_drawn, ca_inT (List.mem_of_getElem? (i := 702) (by decide +kernel)) rfl⟩
set_option maxRecDepth 100000 in
theorem y0_X6_init : ca_Y yX6_init cX6_init 1 none 0 := ⟨ca_inT (List.mem_of_getElem? (i := 735) rfl) rfl, w_in_X6, by decide +kernel, by decide⟩
theorem y_X6_init : ca_YI yX6_init cX6_init 1 0 := ⟨y0_X6_init, rfl, ca_inT (List.mem_of_getElem? (i := 734) (by decide +kernel)) rfl⟩
set_option maxRecDepth 100000 in
theorem y0_X6_isIn : ca_Y yX6_isIn cX6_isIn 3 (some .boolean) 3 := ⟨ca_inT (List.mem_of_getElem? (i := 831) rfl) rfl, w_in_X6, by decide +kernel, by decide⟩
theorem y_X6_isIn : ca_YS yX6_isIn cX6_isIn 3 (some .boolean) 3 := ⟨y0_X6_isIn, ca_inT (List.mem_of_getElem? (i := 830) (by decide +kernel)) rfl⟩
set_option maxRecDepth 100000 in
theorem y0_X6_most : ca_Y yX6_most cX6_most 2 (some .int) 2 := ⟨ca_inT (List.mem_of_getElem? (i := 854) rfl) rfl, w_in_X6, by decide +kernel, by decide⟩
theorem y_X6_most : ca_YS yX6_most cX6_most 2 (some .int) 2 := ⟨y0_X6_most, ca_inT (List.mem_of_getElem? (i := 853) (by decide +kernel)) rfl⟩
set_option maxRecDepth 100000 in
theorem y0_X6_lays : ca_Y yX6_lays cX6_lays 3 none 2 := ⟨ca_inT (List.mem_of_getElem? (i := 834) rfl) rfl, w_in_X6, by decide +kernel, by decide⟩
theorem y_X6_lays : ca_YS yX6_lays cX6_lays 3 none 2 := ⟨y0_X6_lays, ca_inT (List.mem_of_getElem? (i := 833) (by decide +kernel)) rfl⟩
set_option maxRecDepth 100000 in
theorem y0_X6_no : ca_Y yX6_no cX6_no 2 (some .int) 1 := ⟨ca_inT (List.mem_of_getElem? (i := 805) rfl) rfl, w_in_X6, by decide +kernel, by decide⟩
theorem y_X6_no : ca_YV yX6_no cX6_no 2 (some .int) 1 5 := ⟨y0_X6_no, ca_inT (List.mem_of_getElem? (i := 804) (by decide +kernel)) rfl, ca_inT (List.mem_of_getElem? (i := 25) (by decide +kernel)) rfl, by decide +kernel⟩
set_option maxRecDepth 100000 in
theorem y0_X6_noWide : ca_Y yX6_noWide cX6_noWide 2 (some .long) 1 := ⟨ca_inT (List.mem_of_getElem? (i := 1013) rfl) rfl, w_in_X6, by decide +kernel, by decide⟩
theorem y_X6_noWide : ca_YV yX6_noWide cX6_noWide 2 (some .long) 1 5 := ⟨y0_X6_noWide, ca_inT (List.mem_of_getElem? (i := 1012) (by decide +kernel)) rfl, ca_inT (List.mem_of_getElem? (i := 44) (by decide +kernel)) rfl, by decide +kernel⟩
set_option maxRecDepth 100000 in
theorem y0_X6_isRoom : ca_Y yX6_isRoom cX6_isRoom 1 (some .boolean) 1 := ⟨ca_inT (List.mem_of_getElem? (i := 841) rfl) rfl, w_in_X6, by decide +kernel, by decide⟩
theorem y_X6_isRoom : ca_YS yX6_isRoom cX6_isRoom 1 (some .boolean) 1 := ⟨y0_X6_isRoom, ca_inT (List.mem_of_getElem? (i := 840) (by decide +kernel)) rfl⟩
set_option maxRecDepth 100000 in
theorem y0_X6_isPerson : ca_Y yX6_isPerson cX6_isPerson 2 (some .boolean) 1 := ⟨ca_inT (List.mem_of_getElem? (i := 848) rfl) rfl, w_in_X6, by decide +kernel, by decide⟩
theorem y_X6_isPerson : ca_YV yX6_isPerson cX6_isPerson 2 (some .boolean) 1 5 := ⟨y0_X6_isPerson, ca_inT (List.mem_of_getElem? (i := 847) (by decide +kernel)) rfl, ca_inT (List.mem_of_getElem? (i := 31) (by decide +kernel)) rfl, by decide +kernel⟩
set_option maxRecDepth 100000 in
theorem y0_X6_isSpeaker : ca_Y yX6_isSpeaker cX6_isSpeaker 2 (some .boolean) 1 := ⟨ca_inT (List.mem_of_getElem? (i := 907) rfl) rfl, w_in_X6, by decide +kernel, by decide⟩
theorem y_X6_isSpeaker : ca_YV yX6_isSpeaker cX6_isSpeaker 2 (some .boolean) 1 5 := ⟨y0_X6_isSpeaker, ca_inT (List.mem_of_getElem? (i := 906) (by decide +kernel)) rfl, ca_inT (List.mem_of_getElem? (i := 34) (by decide +kernel)) rfl, by decide +kernel⟩
set_option maxRecDepth 100000 in
theorem y0_X6_known : ca_Y yX6_known cX6_known 2 (some .int) 2 := ⟨ca_inT (List.mem_of_getElem? (i := 844) rfl) rfl, w_in_X6, by decide +kernel, by decide⟩
theorem y_X6_known : ca_YS yX6_known cX6_known 2 (some .int) 2 := ⟨y0_X6_known, ca_inT (List.mem_of_getElem? (i := 843) (by decide +kernel)) rfl⟩
set_option maxRecDepth 100000 in
theorem y0_X6_needs : ca_Y yX6_needs cX6_needs 3 (some .int) 2 := ⟨ca_inT (List.mem_of_getElem? (i := 861) rfl) rfl, w_in_X6, by decide +kernel, by decide⟩
theorem y_X6_needs : ca_YS yX6_needs cX6_needs 3 (some .int) 2 := ⟨y0_X6_needs, ca_inT (List.mem_of_getElem? (i := 860) (by decide +kernel)) rfl⟩
set_option maxRecDepth 100000 in
theorem y0_X6_catches : ca_Y yX6_catches cX6_catches 2 (some .int) 2 := ⟨ca_inT (List.mem_of_getElem? (i := 864) rfl) rfl, w_in_X6, by decide +kernel, by decide⟩
theorem y_X6_catches : ca_YS yX6_catches cX6_catches 2 (some .int) 2 := ⟨y0_X6_catches, ca_inT (List.mem_of_getElem? (i := 863) (by decide +kernel)) rfl⟩
set_option maxRecDepth 100000 in
theorem y0_X6_worth : ca_Y yX6_worth cX6_worth 3 (some .int) 2 := ⟨ca_inT (List.mem_of_getElem? (i := 868) rfl) rfl, w_in_X6, by decide +kernel, by decide⟩
theorem y_X6_worth : ca_YS yX6_worth cX6_worth 3 (some .int) 2 := ⟨y0_X6_worth, ca_inT (List.mem_of_getElem? (i := 867) (by decide +kernel)) rfl⟩
set_option maxRecDepth 100000 in
theorem y0_X6_isKnown : ca_Y yX6_isKnown cX6_isKnown 3 (some .boolean) 3 := ⟨ca_inT (List.mem_of_getElem? (i := 895) rfl) rfl, w_in_X6, by decide +kernel, by decide⟩
theorem y_X6_isKnown : ca_YS yX6_isKnown cX6_isKnown 3 (some .boolean) 3 := ⟨y0_X6_isKnown, ca_inT (List.mem_of_getElem? (i := 894) (by decide +kernel)) rfl⟩
set_option maxRecDepth 100000 in
theorem y0_X6_beside : ca_Y yX6_beside cX6_beside 2 (some .int) 2 := ⟨ca_inT (List.mem_of_getElem? (i := 926) rfl) rfl, w_in_X6, by decide +kernel, by decide⟩
theorem y_X6_beside : ca_YS yX6_beside cX6_beside 2 (some .int) 2 := ⟨y0_X6_beside, ca_inT (List.mem_of_getElem? (i := 925) (by decide +kernel)) rfl⟩
set_option maxRecDepth 100000 in
theorem y0_X6_night : ca_Y yX6_night cX6_night 3 none 1 := ⟨ca_inT (List.mem_of_getElem? (i := 851) rfl) rfl, w_in_X6, by decide +kernel, by decide⟩
theorem y_X6_night : ca_YS yX6_night cX6_night 3 none 1 := ⟨y0_X6_night, ca_inT (List.mem_of_getElem? (i := 850) (by decide +kernel)) rfl⟩
set_option maxRecDepth 100000 in
theorem y0_X6_findsSoonest : ca_Y yX6_findsSoonest cX6_findsSoonest 6 none 1 := ⟨ca_inT (List.mem_of_getElem? (i := 923) rfl) rfl, w_in_X6, by decide +kernel, by decide⟩
theorem y_X6_findsSoonest : ca_YV yX6_findsSoonest cX6_findsSoonest 6 none 1 5 := ⟨y0_X6_findsSoonest, ca_inT (List.mem_of_getElem? (i := 922) (by decide +kernel)) rfl, ca_inT (List.mem_of_getElem? (i := 38) (by decide +kernel)) rfl, by decide +kernel⟩
set_option maxRecDepth 100000 in
theorem y0_X6_isGoingOn : ca_Y yX6_isGoingOn cX6_isGoingOn 2 (some .boolean) 0 := ⟨ca_inT (List.mem_of_getElem? (i := 930) rfl) rfl, w_in_X6, by decide +kernel, by decide⟩
theorem y_X6_isGoingOn : ca_YV yX6_isGoingOn cX6_isGoingOn 2 (some .boolean) 0 5 := ⟨y0_X6_isGoingOn, ca_inT (List.mem_of_getElem? (i := 929) (by decide +kernel)) rfl, ca_inT (List.mem_of_getElem? (i := 39) (by decide +kernel)) rfl, by decide +kernel⟩
set_option maxRecDepth 100000 in
theorem y0_X6_toSay : ca_Y yX6_toSay cX6_toSay 5 (some .int) 2 := ⟨ca_inT (List.mem_of_getElem? (i := 934) rfl) rfl, w_in_X6, by decide +kernel, by decide⟩
theorem y_X6_toSay : ca_YV yX6_toSay cX6_toSay 5 (some .int) 2 5 := ⟨y0_X6_toSay, ca_inT (List.mem_of_getElem? (i := 933) (by decide +kernel)) rfl, ca_inT (List.mem_of_getElem? (i := 40) (by decide +kernel)) rfl, by decide +kernel⟩
set_option maxRecDepth 100000 in
theorem y0_X6_burns : ca_Y yX6_burns cX6_burns 8 none 2 := ⟨ca_inT (List.mem_of_getElem? (i := 919) rfl) rfl, w_in_X6, by decide +kernel, by decide⟩
theorem y_X6_burns : ca_YV yX6_burns cX6_burns 8 none 2 5 := ⟨y0_X6_burns, ca_inT (List.mem_of_getElem? (i := 918) (by decide +kernel)) rfl, ca_inT (List.mem_of_getElem? (i := 37) (by decide +kernel)) rfl, by decide +kernel⟩
set_option maxRecDepth 100000 in
theorem y0_X6_turnsFrom : ca_Y yX6_turnsFrom cX6_turnsFrom 6 none 3 := ⟨ca_inT (List.mem_of_getElem? (i := 915) rfl) rfl, w_in_X6, by decide +kernel, by decide⟩
theorem y_X6_turnsFrom : ca_YV yX6_turnsFrom cX6_turnsFrom 6 none 3 5 := ⟨y0_X6_turnsFrom, ca_inT (List.mem_of_getElem? (i := 914) (by decide +kernel)) rfl, ca_inT (List.mem_of_getElem? (i := 36) (by decide +kernel)) rfl, by decide +kernel⟩
set_option maxRecDepth 100000 in
theorem y0_X6_burntMany : ca_Y yX6_burntMany cX6_burntMany 3 (some .int) 0 := ⟨ca_inT (List.mem_of_getElem? (i := 938) rfl) rfl, w_in_X6, by decide +kernel, by decide⟩
theorem y_X6_burntMany : ca_YV yX6_burntMany cX6_burntMany 3 (some .int) 0 5 := ⟨y0_X6_burntMany, ca_inT (List.mem_of_getElem? (i := 937) (by decide +kernel)) rfl, ca_inT (List.mem_of_getElem? (i := 41) (by decide +kernel)) rfl, by decide +kernel⟩
set_option maxRecDepth 100000 in
theorem y0_X6_burntWorth : ca_Y yX6_burntWorth cX6_burntWorth 4 (some .int) 1 := ⟨ca_inT (List.mem_of_getElem? (i := 942) rfl) rfl, w_in_X6, by decide +kernel, by decide⟩
theorem y_X6_burntWorth : ca_YV yX6_burntWorth cX6_burntWorth 4 (some .int) 1 5 := ⟨y0_X6_burntWorth, ca_inT (List.mem_of_getElem? (i := 941) (by decide +kernel)) rfl, ca_inT (List.mem_of_getElem? (i := 42) (by decide +kernel)) rfl, by decide +kernel⟩
set_option maxRecDepth 100000 in
theorem y0_X6_worthBy : ca_Y yX6_worthBy cX6_worthBy 4 (some .int) 3 := ⟨ca_inT (List.mem_of_getElem? (i := 966) rfl) rfl, w_in_X6, by decide +kernel, by decide⟩
theorem y_X6_worthBy : ca_YV yX6_worthBy cX6_worthBy 4 (some .int) 3 5 := ⟨y0_X6_worthBy, ca_inT (List.mem_of_getElem? (i := 965) (by decide +kernel)) rfl, ca_inT (List.mem_of_getElem? (i := 43) (by decide +kernel)) rfl, by decide +kernel⟩
set_option maxRecDepth 100000 in
theorem y0_X6_letter : ca_Y yX6_letter cX6_letter 2 (some .int) 1 := ⟨ca_inT (List.mem_of_getElem? (i := 801) rfl) rfl, w_in_X6, by decide +kernel, by decide⟩
theorem y_X6_letter : ca_YV yX6_letter cX6_letter 2 (some .int) 1 5 := ⟨y0_X6_letter, ca_inT (List.mem_of_getElem? (i := 799) (by decide +kernel)) rfl, ca_inT (List.mem_of_getElem? (i := 800) (by decide +kernel)) rfl, by decide +kernel⟩
set_option maxRecDepth 100000 in
theorem y0_X6_here : ca_Y yX6_here cX6_here 1 (some .int) 0 := ⟨ca_inT (List.mem_of_getElem? (i := 817) rfl) rfl, w_in_X6, by decide +kernel, by decide⟩
theorem y_X6_here : ca_YV yX6_here cX6_here 1 (some .int) 0 5 := ⟨y0_X6_here, ca_inT (List.mem_of_getElem? (i := 816) (by decide +kernel)) rfl, ca_inT (List.mem_of_getElem? (i := 27) (by decide +kernel)) rfl, by decide +kernel⟩
set_option maxRecDepth 100000 in
theorem y0_X6_readsNumber : ca_Y yX6_readsNumber cX6_readsNumber 4 (some .boolean) 2 := ⟨ca_inT (List.mem_of_getElem? (i := 828) rfl) rfl, w_in_X6, by decide +kernel, by decide⟩
theorem y_X6_readsNumber : ca_YV yX6_readsNumber cX6_readsNumber 4 (some .boolean) 2 5 := ⟨y0_X6_readsNumber, ca_inT (List.mem_of_getElem? (i := 827) (by decide +kernel)) rfl, ca_inT (List.mem_of_getElem? (i := 29) (by decide +kernel)) rfl, by decide +kernel⟩
set_option maxRecDepth 100000 in
theorem y0_X6_kindBy : ca_Y yX6_kindBy cX6_kindBy 1 (some .int) 1 := ⟨ca_inT (List.mem_of_getElem? (i := 824) rfl) rfl, w_in_X6, by decide +kernel, by decide⟩
theorem y_X6_kindBy : ca_YS yX6_kindBy cX6_kindBy 1 (some .int) 1 := ⟨y0_X6_kindBy, ca_inT (List.mem_of_getElem? (i := 823) (by decide +kernel)) rfl⟩
set_option maxRecDepth 100000 in
theorem y0_X6_readsKind : ca_Y yX6_readsKind cX6_readsKind 1 (some .boolean) 0 := ⟨ca_inT (List.mem_of_getElem? (i := 821) rfl) rfl, w_in_X6, by decide +kernel, by decide⟩
theorem y_X6_readsKind : ca_YV yX6_readsKind cX6_readsKind 1 (some .boolean) 0 5 := ⟨y0_X6_readsKind, ca_inT (List.mem_of_getElem? (i := 820) (by decide +kernel)) rfl, ca_inT (List.mem_of_getElem? (i := 28) (by decide +kernel)) rfl, by decide +kernel⟩
set_option maxRecDepth 100000 in
theorem y0_X6_readsStatement : ca_Y yX6_readsStatement cX6_readsStatement 3 (some .boolean) 0 := ⟨ca_inT (List.mem_of_getElem? (i := 813) rfl) rfl, w_in_X6, by decide +kernel, by decide⟩
theorem y_X6_readsStatement : ca_YV yX6_readsStatement cX6_readsStatement 3 (some .boolean) 0 5 := ⟨y0_X6_readsStatement, ca_inT (List.mem_of_getElem? (i := 812) (by decide +kernel)) rfl, ca_inT (List.mem_of_getElem? (i := 26) (by decide +kernel)) rfl, by decide +kernel⟩
set_option maxRecDepth 100000 in
theorem y0_X6_isDone : ca_Y yX6_isDone cX6_isDone 5 (some .boolean) 1 := ⟨ca_inT (List.mem_of_getElem? (i := 838) rfl) rfl, w_in_X6, by decide +kernel, by decide⟩
theorem y_X6_isDone : ca_YV yX6_isDone cX6_isDone 5 (some .boolean) 1 5 := ⟨y0_X6_isDone, ca_inT (List.mem_of_getElem? (i := 837) (by decide +kernel)) rfl, ca_inT (List.mem_of_getElem? (i := 30) (by decide +kernel)) rfl, by decide +kernel⟩
set_option maxRecDepth 100000 in
theorem y0_X6_house : ca_Y yX6_house cX6_house 6 (some .int) 0 := ⟨ca_inT (List.mem_of_getElem? (i := 809) rfl) rfl, w_in_X6, by decide +kernel, by decide⟩
theorem y_X6_house : ca_YV yX6_house cX6_house 6 (some .int) 0 5 := ⟨y0_X6_house, ca_inT (List.mem_of_getElem? (i := 807) (by decide +kernel)) rfl, ca_inT (List.mem_of_getElem? (i := 808) (by decide +kernel)) rfl, by decide +kernel⟩
set_option maxRecDepth 100000 in
theorem y0_X6_room : ca_Y yX6_room cX6_room 3 (some .int) 2 := ⟨ca_inT (List.mem_of_getElem? (i := 858) rfl) rfl, w_in_X6, by decide +kernel, by decide⟩
theorem y_X6_room : ca_YV yX6_room cX6_room 3 (some .int) 2 5 := ⟨y0_X6_room, ca_inT (List.mem_of_getElem? (i := 856) (by decide +kernel)) rfl, ca_inT (List.mem_of_getElem? (i := 857) (by decide +kernel)) rfl, by decide +kernel⟩
set_option maxRecDepth 100000 in
theorem y0_X6_person : ca_Y yX6_person cX6_person 3 (some .int) 2 := ⟨ca_inT (List.mem_of_getElem? (i := 872) rfl) rfl, w_in_X6, by decide +kernel, by decide⟩
theorem y_X6_person : ca_YV yX6_person cX6_person 3 (some .int) 2 5 := ⟨y0_X6_person, ca_inT (List.mem_of_getElem? (i := 870) (by decide +kernel)) rfl, ca_inT (List.mem_of_getElem? (i := 871) (by decide +kernel)) rfl, by decide +kernel⟩
set_option maxRecDepth 100000 in
theorem y0_X6_turn : ca_Y yX6_turn cX6_turn 5 (some .int) 3 := ⟨ca_inT (List.mem_of_getElem? (i := 876) rfl) rfl, w_in_X6, by decide +kernel, by decide⟩
theorem y_X6_turn : ca_YV yX6_turn cX6_turn 5 (some .int) 3 5 := ⟨y0_X6_turn, ca_inT (List.mem_of_getElem? (i := 874) (by decide +kernel)) rfl, ca_inT (List.mem_of_getElem? (i := 875) (by decide +kernel)) rfl, by decide +kernel⟩
set_option maxRecDepth 100000 in
theorem y0_X6_sharp : ca_Y yX6_sharp cX6_sharp 4 (some .int) 2 := ⟨ca_inT (List.mem_of_getElem? (i := 880) rfl) rfl, w_in_X6, by decide +kernel, by decide⟩
theorem y_X6_sharp : ca_YV yX6_sharp cX6_sharp 4 (some .int) 2 5 := ⟨y0_X6_sharp, ca_inT (List.mem_of_getElem? (i := 878) (by decide +kernel)) rfl, ca_inT (List.mem_of_getElem? (i := 879) (by decide +kernel)) rfl, by decide +kernel⟩
set_option maxRecDepth 100000 in
theorem y0_X6_visit : ca_Y yX6_visit cX6_visit 5 (some .int) 3 := ⟨ca_inT (List.mem_of_getElem? (i := 884) rfl) rfl, w_in_X6, by decide +kernel, by decide⟩
theorem y_X6_visit : ca_YV yX6_visit cX6_visit 5 (some .int) 3 5 := ⟨y0_X6_visit, ca_inT (List.mem_of_getElem? (i := 882) (by decide +kernel)) rfl, ca_inT (List.mem_of_getElem? (i := 883) (by decide +kernel)) rfl, by decide +kernel⟩
set_option maxRecDepth 100000 in
theorem y0_X6_knownMany : ca_Y yX6_knownMany cX6_knownMany 6 (some .int) 1 := ⟨ca_inT (List.mem_of_getElem? (i := 892) rfl) rfl, w_in_X6, by decide +kernel, by decide⟩
theorem y_X6_knownMany : ca_YV yX6_knownMany cX6_knownMany 6 (some .int) 1 5 := ⟨y0_X6_knownMany, ca_inT (List.mem_of_getElem? (i := 891) (by decide +kernel)) rfl, ca_inT (List.mem_of_getElem? (i := 32) (by decide +kernel)) rfl, by decide +kernel⟩
set_option maxRecDepth 100000 in
theorem y0_X6_nights : ca_Y yX6_nights cX6_nights 3 (some .int) 1 := ⟨ca_inT (List.mem_of_getElem? (i := 888) rfl) rfl, w_in_X6, by decide +kernel, by decide⟩
theorem y_X6_nights : ca_YV yX6_nights cX6_nights 3 (some .int) 1 5 := ⟨y0_X6_nights, ca_inT (List.mem_of_getElem? (i := 886) (by decide +kernel)) rfl, ca_inT (List.mem_of_getElem? (i := 887) (by decide +kernel)) rfl, by decide +kernel⟩
set_option maxRecDepth 100000 in
theorem y0_X6_isFire : ca_Y yX6_isFire cX6_isFire 3 (some .boolean) 2 := ⟨ca_inT (List.mem_of_getElem? (i := 903) rfl) rfl, w_in_X6, by decide +kernel, by decide⟩
theorem y_X6_isFire : ca_YV yX6_isFire cX6_isFire 3 (some .boolean) 2 5 := ⟨y0_X6_isFire, ca_inT (List.mem_of_getElem? (i := 902) (by decide +kernel)) rfl, ca_inT (List.mem_of_getElem? (i := 33) (by decide +kernel)) rfl, by decide +kernel⟩
set_option maxRecDepth 100000 in
theorem y0_X6_burnsBy : ca_Y yX6_burnsBy cX6_burnsBy 3 none 2 := ⟨ca_inT (List.mem_of_getElem? (i := 911) rfl) rfl, w_in_X6, by decide +kernel, by decide⟩
theorem y_X6_burnsBy : ca_YV yX6_burnsBy cX6_burnsBy 3 none 2 5 := ⟨y0_X6_burnsBy, ca_inT (List.mem_of_getElem? (i := 910) (by decide +kernel)) rfl, ca_inT (List.mem_of_getElem? (i := 35) (by decide +kernel)) rfl, by decide +kernel⟩
set_option maxRecDepth 100000 in
theorem y0_X6_fire : ca_Y yX6_fire cX6_fire 6 (some .int) 3 := ⟨ca_inT (List.mem_of_getElem? (i := 899) rfl) rfl, w_in_X6, by decide +kernel, by decide⟩
theorem y_X6_fire : ca_YV yX6_fire cX6_fire 6 (some .int) 3 5 := ⟨y0_X6_fire, ca_inT (List.mem_of_getElem? (i := 897) (by decide +kernel)) rfl, ca_inT (List.mem_of_getElem? (i := 898) (by decide +kernel)) rfl, by decide +kernel⟩
set_option maxRecDepth 100000 in
theorem y0_X6_burns_ : ca_Y yX6_burns_ cX6_burns_ 4 (some .int) 3 := ⟨ca_inT (List.mem_of_getElem? (i := 946) rfl) rfl, w_in_X6, by decide +kernel, by decide⟩
theorem y_X6_burns_ : ca_YV yX6_burns_ cX6_burns_ 4 (some .int) 3 5 := ⟨y0_X6_burns_, ca_inT (List.mem_of_getElem? (i := 944) (by decide +kernel)) rfl, ca_inT (List.mem_of_getElem? (i := 945) (by decide +kernel)) rfl, by decide +kernel⟩
set_option maxRecDepth 100000 in
theorem y0_X6_said : ca_Y yX6_said cX6_said 5 (some .int) 4 := ⟨ca_inT (List.mem_of_getElem? (i := 950) rfl) rfl, w_in_X6, by decide +kernel, by decide⟩
theorem y_X6_said : ca_YV yX6_said cX6_said 5 (some .int) 4 5 := ⟨y0_X6_said, ca_inT (List.mem_of_getElem? (i := 948) (by decide +kernel)) rfl, ca_inT (List.mem_of_getElem? (i := 949) (by decide +kernel)) rfl, by decide +kernel⟩
set_option maxRecDepth 100000 in
theorem y0_X6_talker : ca_Y yX6_talker cX6_talker 8 (some .int) 2 := ⟨ca_inT (List.mem_of_getElem? (i := 954) rfl) rfl, w_in_X6, by decide +kernel, by decide⟩
theorem y_X6_talker : ca_YV yX6_talker cX6_talker 8 (some .int) 2 5 := ⟨y0_X6_talker, ca_inT (List.mem_of_getElem? (i := 952) (by decide +kernel)) rfl, ca_inT (List.mem_of_getElem? (i := 953) (by decide +kernel)) rfl, by decide +kernel⟩
set_option maxRecDepth 100000 in
theorem y0_X6_alone : ca_Y yX6_alone cX6_alone 2 (some .int) 1 := ⟨ca_inT (List.mem_of_getElem? (i := 958) rfl) rfl, w_in_X6, by decide +kernel, by decide⟩
theorem y_X6_alone : ca_YV yX6_alone cX6_alone 2 (some .int) 1 5 := ⟨y0_X6_alone, ca_inT (List.mem_of_getElem? (i := 956) (by decide +kernel)) rfl, ca_inT (List.mem_of_getElem? (i := 957) (by decide +kernel)) rfl, by decide +kernel⟩
set_option maxRecDepth 100000 in
theorem y0_X6_bestSpeaker : ca_Y yX6_bestSpeaker cX6_bestSpeaker 6 (some .int) 1 := ⟨ca_inT (List.mem_of_getElem? (i := 962) rfl) rfl, w_in_X6, by decide +kernel, by decide⟩
theorem y_X6_bestSpeaker : ca_YV yX6_bestSpeaker cX6_bestSpeaker 6 (some .int) 1 5 := ⟨y0_X6_bestSpeaker, ca_inT (List.mem_of_getElem? (i := 960) (by decide +kernel)) rfl, ca_inT (List.mem_of_getElem? (i := 961) (by decide +kernel)) rfl, by decide +kernel⟩
set_option maxRecDepth 100000 in
theorem y0_X6_worstRoom : ca_Y yX6_worstRoom cX6_worstRoom 5 (some .int) 0 := ⟨ca_inT (List.mem_of_getElem? (i := 970) rfl) rfl, w_in_X6, by decide +kernel, by decide⟩
theorem y_X6_worstRoom : ca_YV yX6_worstRoom cX6_worstRoom 5 (some .int) 0 5 := ⟨y0_X6_worstRoom, ca_inT (List.mem_of_getElem? (i := 968) (by decide +kernel)) rfl, ca_inT (List.mem_of_getElem? (i := 969) (by decide +kernel)) rfl, by decide +kernel⟩
set_option maxRecDepth 100000 in
theorem y0_X6_show : ca_Y yX6_show cX6_show 7 (some .int) 2 := ⟨ca_inT (List.mem_of_getElem? (i := 974) rfl) rfl, w_in_X6, by decide +kernel, by decide⟩
theorem y_X6_show : ca_YV yX6_show cX6_show 7 (some .int) 2 5 := ⟨y0_X6_show, ca_inT (List.mem_of_getElem? (i := 972) (by decide +kernel)) rfl, ca_inT (List.mem_of_getElem? (i := 973) (by decide +kernel)) rfl, by decide +kernel⟩
set_option maxRecDepth 100000 in
theorem y0_X6_mayWait : ca_Y yX6_mayWait cX6_mayWait 4 (some .int) 1 := ⟨ca_inT (List.mem_of_getElem? (i := 978) rfl) rfl, w_in_X6, by decide +kernel, by decide⟩
theorem y_X6_mayWait : ca_YV yX6_mayWait cX6_mayWait 4 (some .int) 1 5 := ⟨y0_X6_mayWait, ca_inT (List.mem_of_getElem? (i := 976) (by decide +kernel)) rfl, ca_inT (List.mem_of_getElem? (i := 977) (by decide +kernel)) rfl, by decide +kernel⟩
set_option maxRecDepth 100000 in
theorem y0_X6_leftOut : ca_Y yX6_leftOut cX6_leftOut 5 (some .int) 1 := ⟨ca_inT (List.mem_of_getElem? (i := 982) rfl) rfl, w_in_X6, by decide +kernel, by decide⟩
theorem y_X6_leftOut : ca_YV yX6_leftOut cX6_leftOut 5 (some .int) 1 5 := ⟨y0_X6_leftOut, ca_inT (List.mem_of_getElem? (i := 980) (by decide +kernel)) rfl, ca_inT (List.mem_of_getElem? (i := 981) (by decide +kernel)) rfl, by decide +kernel⟩
set_option maxRecDepth 100000 in
theorem y0_X6_bits : ca_Y yX6_bits cX6_bits 3 (some .int) 1 := ⟨ca_inT (List.mem_of_getElem? (i := 989) rfl) rfl, w_in_X6, by decide +kernel, by decide⟩
theorem y_X6_bits : ca_YS yX6_bits cX6_bits 3 (some .int) 1 := ⟨y0_X6_bits, ca_inT (List.mem_of_getElem? (i := 988) (by decide +kernel)) rfl⟩
set_option maxRecDepth 100000 in
theorem y0_X6_enough : ca_Y yX6_enough cX6_enough 6 (some .int) 1 := ⟨ca_inT (List.mem_of_getElem? (i := 986) rfl) rfl, w_in_X6, by decide +kernel, by decide⟩
theorem y_X6_enough : ca_YV yX6_enough cX6_enough 6 (some .int) 1 5 := ⟨y0_X6_enough, ca_inT (List.mem_of_getElem? (i := 984) (by decide +kernel)) rfl, ca_inT (List.mem_of_getElem? (i := 985) (by decide +kernel)) rfl, by decide +kernel⟩
set_option maxRecDepth 100000 in
theorem y0_X6_wall : ca_Y yX6_wall cX6_wall 6 (some .int) 1 := ⟨ca_inT (List.mem_of_getElem? (i := 993) rfl) rfl, w_in_X6, by decide +kernel, by decide⟩
theorem y_X6_wall : ca_YV yX6_wall cX6_wall 6 (some .int) 1 5 := ⟨y0_X6_wall, ca_inT (List.mem_of_getElem? (i := 991) (by decide +kernel)) rfl, ca_inT (List.mem_of_getElem? (i := 992) (by decide +kernel)) rfl, by decide +kernel⟩
set_option maxRecDepth 100000 in
theorem y0_X6_captain : ca_Y yX6_captain cX6_captain 8 (some .int) 3 := ⟨ca_inT (List.mem_of_getElem? (i := 997) rfl) rfl, w_in_X6, by decide +kernel, by decide⟩
theorem y_X6_captain : ca_YV yX6_captain cX6_captain 8 (some .int) 3 5 := ⟨y0_X6_captain, ca_inT (List.mem_of_getElem? (i := 995) (by decide +kernel)) rfl, ca_inT (List.mem_of_getElem? (i := 996) (by decide +kernel)) rfl, by decide +kernel⟩
set_option maxRecDepth 100000 in
theorem y0_X6_unlike : ca_Y yX6_unlike cX6_unlike 7 (some .int) 3 := ⟨ca_inT (List.mem_of_getElem? (i := 1001) rfl) rfl, w_in_X6, by decide +kernel, by decide⟩
theorem y_X6_unlike : ca_YV yX6_unlike cX6_unlike 7 (some .int) 3 5 := ⟨y0_X6_unlike, ca_inT (List.mem_of_getElem? (i := 999) (by decide +kernel)) rfl, ca_inT (List.mem_of_getElem? (i := 1000) (by decide +kernel)) rfl, by decide +kernel⟩
set_option maxRecDepth 100000 in
theorem y0_X6_sure : ca_Y yX6_sure cX6_sure 2 (some .int) 1 := ⟨ca_inT (List.mem_of_getElem? (i := 1005) rfl) rfl, w_in_X6, by decide +kernel, by decide⟩
theorem y_X6_sure : ca_YV yX6_sure cX6_sure 2 (some .int) 1 5 := ⟨y0_X6_sure, ca_inT (List.mem_of_getElem? (i := 1003) (by decide +kernel)) rfl, ca_inT (List.mem_of_getElem? (i := 1004) (by decide +kernel)) rfl, by decide +kernel⟩
set_option maxRecDepth 100000 in
theorem y0_X6_gcd : ca_Y yX6_gcd cX6_gcd 10 (some .long) 2 := ⟨ca_inT (List.mem_of_getElem? (i := 1020) rfl) rfl, w_in_X6, by decide +kernel, by decide⟩
theorem y_X6_gcd : ca_YS yX6_gcd cX6_gcd 10 (some .long) 2 := ⟨y0_X6_gcd, ca_inT (List.mem_of_getElem? (i := 1019) (by decide +kernel)) rfl⟩
set_option maxRecDepth 100000 in
theorem y0_X6_partOf : ca_Y yX6_partOf cX6_partOf 5 (some .long) 3 := ⟨ca_inT (List.mem_of_getElem? (i := 1017) rfl) rfl, w_in_X6, by decide +kernel, by decide⟩
theorem y_X6_partOf : ca_YS yX6_partOf cX6_partOf 5 (some .long) 3 := ⟨y0_X6_partOf, ca_inT (List.mem_of_getElem? (i := 1016) (by decide +kernel)) rfl⟩
set_option maxRecDepth 100000 in
theorem y0_X6_slip : ca_Y yX6_slip cX6_slip 14 (some .long) 5 := ⟨ca_inT (List.mem_of_getElem? (i := 1009) rfl) rfl, w_in_X6, by decide +kernel, by decide⟩
theorem y_X6_slip : ca_YV yX6_slip cX6_slip 14 (some .long) 5 5 := ⟨y0_X6_slip, ca_inT (List.mem_of_getElem? (i := 1007) (by decide +kernel)) rfl, ca_inT (List.mem_of_getElem? (i := 1008) (by decide +kernel)) rfl, by decide +kernel⟩
set_option maxRecDepth 100000 in
theorem y0_X6_whatWas : ca_Y yX6_whatWas cX6_whatWas 9 (some .int) 3 := ⟨ca_inT (List.mem_of_getElem? (i := 1024) rfl) rfl, w_in_X6, by decide +kernel, by decide⟩
theorem y_X6_whatWas : ca_YV yX6_whatWas cX6_whatWas 9 (some .int) 3 5 := ⟨y0_X6_whatWas, ca_inT (List.mem_of_getElem? (i := 1022) (by decide +kernel)) rfl, ca_inT (List.mem_of_getElem? (i := 1023) (by decide +kernel)) rfl, by decide +kernel⟩
set_option maxRecDepth 100000 in
theorem y0_X6_row : ca_Y yX6_row cX6_row 2 (some .int) 1 := ⟨ca_inT (List.mem_of_getElem? (i := 1028) rfl) rfl, w_in_X6, by decide +kernel, by decide⟩
theorem y_X6_row : ca_YV yX6_row cX6_row 2 (some .int) 1 5 := ⟨y0_X6_row, ca_inT (List.mem_of_getElem? (i := 1026) (by decide +kernel)) rfl, ca_inT (List.mem_of_getElem? (i := 1027) (by decide +kernel)) rfl, by decide +kernel⟩
set_option maxRecDepth 100000 in
theorem y0_X6_judge : ca_Y yX6_judge cX6_judge 6 (some .int) 1 := ⟨ca_inT (List.mem_of_getElem? (i := 1032) rfl) rfl, w_in_X6, by decide +kernel, by decide⟩
theorem y_X6_judge : ca_YV yX6_judge cX6_judge 6 (some .int) 1 5 := ⟨y0_X6_judge, ca_inT (List.mem_of_getElem? (i := 1030) (by decide +kernel)) rfl, ca_inT (List.mem_of_getElem? (i := 1031) (by decide +kernel)) rfl, by decide +kernel⟩
set_option maxRecDepth 100000 in
theorem y0_X6_clear : ca_Y yX6_clear cX6_clear 2 (some .int) 0 := ⟨ca_inT (List.mem_of_getElem? (i := 1036) rfl) rfl, w_in_X6, by decide +kernel, by decide⟩
theorem y_X6_clear : ca_YV yX6_clear cX6_clear 2 (some .int) 0 5 := ⟨y0_X6_clear, ca_inT (List.mem_of_getElem? (i := 1034) (by decide +kernel)) rfl, ca_inT (List.mem_of_getElem? (i := 1035) (by decide +kernel)) rfl, by decide +kernel⟩
set_option maxRecDepth 100000 in
theorem y0_X6_drawn : ca_Y yX6_drawn cX6_drawn 2 (some .int) 1 := ⟨ca_inT (List.mem_of_getElem? (i := 1044) rfl) rfl, w_in_X6, by decide +kernel, by decide⟩
theorem y_X6_drawn : ca_YV yX6_drawn cX6_drawn 2 (some .int) 1 5 := ⟨y0_X6_drawn, ca_inT (List.mem_of_getElem? (i := 1043) (by decide +kernel)) rfl, ca_inT (List.mem_of_getElem? (i := 45) (by decide +kernel)) rfl, by decide +kernel⟩
set_option maxRecDepth 100000 in
theorem y0_X6_lots : ca_Y yX6_lots cX6_lots 8 (some .int) 3 := ⟨ca_inT (List.mem_of_getElem? (i := 1040) rfl) rfl, w_in_X6, by decide +kernel, by decide⟩
theorem y_X6_lots : ca_YV yX6_lots cX6_lots 8 (some .int) 3 5 := ⟨y0_X6_lots, ca_inT (List.mem_of_getElem? (i := 1038) (by decide +kernel)) rfl, ca_inT (List.mem_of_getElem? (i := 1039) (by decide +kernel)) rfl, by decide +kernel⟩
set_option maxRecDepth 100000 in
theorem y0_X6_image : ca_Y yX6_image cX6_image 1 (some .int) 0 := ⟨ca_inT (List.mem_of_getElem? (i := 1051) rfl) rfl, w_in_X6, by decide +kernel, by decide⟩
theorem y_X6_image : ca_YV yX6_image cX6_image 1 (some .int) 0 5 := ⟨y0_X6_image, ca_inT (List.mem_of_getElem? (i := 1049) (by decide +kernel)) rfl, ca_inT (List.mem_of_getElem? (i := 1050) (by decide +kernel)) rfl, by decide +kernel⟩
set_option maxRecDepth 100000 in
theorem y0_X6_on : ca_Y yX6_on cX6_on 1 (some .int) 0 := ⟨ca_inT (List.mem_of_getElem? (i := 1055) rfl) rfl, w_in_X6, by decide +kernel, by decide⟩
theorem y_X6_on : ca_YV yX6_on cX6_on 1 (some .int) 0 5 := ⟨y0_X6_on, ca_inT (List.mem_of_getElem? (i := 1053) (by decide +kernel)) rfl, ca_inT (List.mem_of_getElem? (i := 1054) (by decide +kernel)) rfl, by decide +kernel⟩
set_option maxRecDepth 100000 in
theorem y0_X6_count : ca_Y yX6_count cX6_count 5 (some .int) 1 := ⟨ca_inT (List.mem_of_getElem? (i := 1059) rfl) rfl, w_in_X6, by decide +kernel, by decide⟩
theorem y_X6_count : ca_YV yX6_count cX6_count 5 (some .int) 1 5 := ⟨y0_X6_count, ca_inT (List.mem_of_getElem? (i := 1057) (by decide +kernel)) rfl, ca_inT (List.mem_of_getElem? (i := 1058) (by decide +kernel)) rfl, by decide +kernel⟩
set_option maxRecDepth 100000 in
theorem y0_J6_bitCount_0f7a4 : ca_Y yJ6_bitCount_0f7a4 cJ6_bitCount_0f7a4 1 (some .int) 1 := ⟨ca_inT (List.mem_of_getElem? (i := 461) rfl) rfl, w_in_J6, by decide +kernel, by decide⟩
theorem y_J6_bitCount_0f7a4 : ca_YS yJ6_bitCount_0f7a4 cJ6_bitCount_0f7a4 1 (some .int) 1 := ⟨y0_J6_bitCount_0f7a4, ca_inT (List.mem_of_getElem? (i := 460) (by decide +kernel)) rfl⟩
set_option maxRecDepth 100000 in
theorem y0_J9_floorMod_7cf53 : ca_Y yJ9_floorMod_7cf53 cJ9_floorMod_7cf53 3 (some .int) 2 := ⟨ca_inT (List.mem_of_getElem? (i := 497) rfl) rfl, w_in_J9, by decide +kernel, by decide⟩
theorem y_J9_floorMod_7cf53 : ca_YS yJ9_floorMod_7cf53 cJ9_floorMod_7cf53 3 (some .int) 2 := ⟨y0_J9_floorMod_7cf53, ca_inT (List.mem_of_getElem? (i := 496) (by decide +kernel)) rfl⟩
set_option maxRecDepth 100000 in
theorem y0_J9_max_7cf53 : ca_Y yJ9_max_7cf53 cJ9_max_7cf53 2 (some .int) 2 := ⟨ca_inT (List.mem_of_getElem? (i := 161) rfl) rfl, w_in_J9, by decide +kernel, by decide⟩
theorem y_J9_max_7cf53 : ca_YS yJ9_max_7cf53 cJ9_max_7cf53 2 (some .int) 2 := ⟨y0_J9_max_7cf53, ca_inT (List.mem_of_getElem? (i := 160) (by decide +kernel)) rfl⟩
set_option maxRecDepth 100000 in
theorem y0_J9_min_7cf53 : ca_Y yJ9_min_7cf53 cJ9_min_7cf53 2 (some .int) 2 := ⟨ca_inT (List.mem_of_getElem? (i := 485) rfl) rfl, w_in_J9, by decide +kernel, by decide⟩
theorem y_J9_min_7cf53 : ca_YS yJ9_min_7cf53 cJ9_min_7cf53 2 (some .int) 2 := ⟨y0_J9_min_7cf53, ca_inT (List.mem_of_getElem? (i := 484) (by decide +kernel)) rfl⟩
set_option maxRecDepth 100000 in
theorem y0_J0_length_8abf5 : ca_Y yJ0_length_8abf5 cJ0_length_8abf5 1 (some .int) 0 := ⟨ca_inT (List.mem_of_getElem? (i := 258) rfl) rfl, w_in_J0, by decide +kernel, by decide⟩
set_option maxRecDepth 100000 in
theorem y0_J0_isEmpty_aae02 : ca_Y yJ0_isEmpty_aae02 cJ0_isEmpty_aae02 1 (some .boolean) 0 := ⟨ca_inT (List.mem_of_getElem? (i := 313) rfl) rfl, w_in_J0, by decide +kernel, by decide⟩
set_option maxRecDepth 100000 in
theorem y0_J0_charAt_5068e : ca_Y yJ0_charAt_5068e cJ0_charAt_5068e 2 (some .char) 1 := ⟨ca_inT (List.mem_of_getElem? (i := 268) rfl) rfl, w_in_J0, by decide +kernel, by decide⟩
set_option maxRecDepth 100000 in
theorem y0_J0_coder_7d493 : ca_Y yJ0_coder_7d493 cJ0_coder_7d493 1 (some .byte) 0 := ⟨ca_inT (List.mem_of_getElem? (i := 262) rfl) rfl, w_in_J0, by decide +kernel, by decide⟩
set_option maxRecDepth 100000 in
theorem y0_J0_isLatin1_aae02 : ca_Y yJ0_isLatin1_aae02 cJ0_isLatin1_aae02 1 (some .boolean) 0 := ⟨ca_inT (List.mem_of_getElem? (i := 272) rfl) rfl, w_in_J0, by decide +kernel, by decide⟩
set_option maxRecDepth 100000 in
theorem y0_J0_checkIndex_df160 : ca_Y yJ0_checkIndex_df160 cJ0_checkIndex_df160 2 none 2 := ⟨ca_inT (List.mem_of_getElem? (i := 278) rfl) rfl, w_in_J0, by decide +kernel, by decide⟩
theorem y_J0_checkIndex_df160 : ca_YS yJ0_checkIndex_df160 cJ0_checkIndex_df160 2 none 2 := ⟨y0_J0_checkIndex_df160, ca_inT (List.mem_of_getElem? (i := 277) (by decide +kernel)) rfl⟩
set_option maxRecDepth 100000 in
theorem y0_J1_charAt_3b067 : ca_Y yJ1_charAt_3b067 cJ1_charAt_3b067 2 (some .char) 2 := ⟨ca_inT (List.mem_of_getElem? (i := 275) rfl) rfl, w_in_J1, by decide +kernel, by decide⟩
theorem y_J1_charAt_3b067 : ca_YS yJ1_charAt_3b067 cJ1_charAt_3b067 2 (some .char) 2 := ⟨y0_J1_charAt_3b067, ca_inT (List.mem_of_getElem? (i := 274) (by decide +kernel)) rfl⟩
set_option maxRecDepth 100000 in
theorem y0_J2_getChar_3b067 : ca_Y yJ2_getChar_3b067 cJ2_getChar_3b067 2 (some .char) 2 := ⟨ca_inT (List.mem_of_getElem? (i := 296) rfl) rfl, w_in_J2, by decide +kernel, by decide⟩
theorem y_J2_getChar_3b067 : ca_YS yJ2_getChar_3b067 cJ2_getChar_3b067 2 (some .char) 2 := ⟨y0_J2_getChar_3b067, ca_inT (List.mem_of_getElem? (i := 295) (by decide +kernel)) rfl⟩
set_option maxRecDepth 100000 in
theorem y0_J2_length_9d52b : ca_Y yJ2_length_9d52b cJ2_length_9d52b 1 (some .int) 1 := ⟨ca_inT (List.mem_of_getElem? (i := 292) rfl) rfl, w_in_J2, by decide +kernel, by decide⟩
theorem y_J2_length_9d52b : ca_YS yJ2_length_9d52b cJ2_length_9d52b 1 (some .int) 1 := ⟨y0_J2_length_9d52b, ca_inT (List.mem_of_getElem? (i := 291) (by decide +kernel)) rfl⟩
set_option maxRecDepth 100000 in
theorem y0_J2_charAt_3b067 : ca_Y yJ2_charAt_3b067 cJ2_charAt_3b067 2 (some .char) 2 := ⟨ca_inT (List.mem_of_getElem? (i := 286) rfl) rfl, w_in_J2, by decide +kernel, by decide⟩
theorem y_J2_charAt_3b067 : ca_YS yJ2_charAt_3b067 cJ2_charAt_3b067 2 (some .char) 2 := ⟨y0_J2_charAt_3b067, ca_inT (List.mem_of_getElem? (i := 285) (by decide +kernel)) rfl⟩
set_option maxRecDepth 100000 in
theorem y0_J2_checkIndex_2214a : ca_Y yJ2_checkIndex_2214a cJ2_checkIndex_2214a 2 none 2 := ⟨ca_inT (List.mem_of_getElem? (i := 289) rfl) rfl, w_in_J2, by decide +kernel, by decide⟩
theorem y_J2_checkIndex_2214a : ca_YS yJ2_checkIndex_2214a cJ2_checkIndex_2214a 2 none 2 := ⟨y0_J2_checkIndex_2214a, ca_inT (List.mem_of_getElem? (i := 288) (by decide +kernel)) rfl⟩
set_option maxRecDepth 100000 in
theorem y0_J3_checkIndex_8e157 : ca_Y yJ3_checkIndex_8e157 cJ3_checkIndex_8e157 3 (some .int) 3 := ⟨ca_inT (List.mem_of_getElem? (i := 283) rfl) rfl, w_in_J3, by decide +kernel, by decide⟩
theorem y_J3_checkIndex_8e157 : ca_YS yJ3_checkIndex_8e157 cJ3_checkIndex_8e157 3 (some .int) 3 := ⟨y0_J3_checkIndex_8e157, ca_inT (List.mem_of_getElem? (i := 282) (by decide +kernel)) rfl⟩
theorem k_bipush_m9 : (Int8.ofInt (-9)).toInt32 = (-9 : Int32) := by decide
theorem k_bipush_m6 : (Int8.ofInt (-6)).toInt32 = (-6 : Int32) := by decide
theorem k_bipush_m4 : (Int8.ofInt (-4)).toInt32 = (-4 : Int32) := by decide
theorem k_bipush_m3 : (Int8.ofInt (-3)).toInt32 = (-3 : Int32) := by decide
theorem k_bipush_m2 : (Int8.ofInt (-2)).toInt32 = (-2 : Int32) := by decide
theorem k_bipush_6 : (Int8.ofInt 6).toInt32 = (6 : Int32) := by decide
theorem k_bipush_7 : (Int8.ofInt 7).toInt32 = (7 : Int32) := by decide
theorem k_bipush_8 : (Int8.ofInt 8).toInt32 = (8 : Int32) := by decide
theorem k_bipush_9 : (Int8.ofInt 9).toInt32 = (9 : Int32) := by decide
theorem k_bipush_10 : (Int8.ofInt 10).toInt32 = (10 : Int32) := by decide
theorem k_bipush_11 : (Int8.ofInt 11).toInt32 = (11 : Int32) := by decide
theorem k_bipush_12 : (Int8.ofInt 12).toInt32 = (12 : Int32) := by decide
theorem k_bipush_16 : (Int8.ofInt 16).toInt32 = (16 : Int32) := by decide
theorem k_bipush_20 : (Int8.ofInt 20).toInt32 = (20 : Int32) := by decide
theorem k_bipush_24 : (Int8.ofInt 24).toInt32 = (24 : Int32) := by decide
theorem k_bipush_25 : (Int8.ofInt 25).toInt32 = (25 : Int32) := by decide
theorem k_bipush_27 : (Int8.ofInt 27).toInt32 = (27 : Int32) := by decide
theorem k_bipush_31 : (Int8.ofInt 31).toInt32 = (31 : Int32) := by decide
theorem k_bipush_48 : (Int8.ofInt 48).toInt32 = (48 : Int32) := by decide
theorem k_bipush_52 : (Int8.ofInt 52).toInt32 = (52 : Int32) := by decide
theorem k_bipush_57 : (Int8.ofInt 57).toInt32 = (57 : Int32) := by decide
theorem k_bipush_59 : (Int8.ofInt 59).toInt32 = (59 : Int32) := by decide
theorem k_bipush_60 : (Int8.ofInt 60).toInt32 = (60 : Int32) := by decide
theorem k_bipush_63 : (Int8.ofInt 63).toInt32 = (63 : Int32) := by decide
theorem k_bipush_96 : (Int8.ofInt 96).toInt32 = (96 : Int32) := by decide
theorem k_bipush_99 : (Int8.ofInt 99).toInt32 = (99 : Int32) := by decide
theorem k_bipush_101 : (Int8.ofInt 101).toInt32 = (101 : Int32) := by decide
theorem k_bipush_125 : (Int8.ofInt 125).toInt32 = (125 : Int32) := by decide
theorem k_iconst_m1 : Int32.ofInt (-1) = (-1 : Int32) := by decide
theorem k_iconst_0 : Int32.ofInt 0 = (0 : Int32) := by decide
theorem k_iconst_1 : Int32.ofInt 1 = (1 : Int32) := by decide
theorem k_iconst_2 : Int32.ofInt 2 = (2 : Int32) := by decide
theorem k_iconst_3 : Int32.ofInt 3 = (3 : Int32) := by decide
theorem k_iconst_4 : Int32.ofInt 4 = (4 : Int32) := by decide
theorem k_iconst_5 : Int32.ofInt 5 = (5 : Int32) := by decide
theorem k_iconst_6 : Int32.ofInt 6 = (6 : Int32) := by decide
theorem k_sipush_m2000 : (Int16.ofInt (-2000)).toInt32 = (-2000 : Int32) := by decide
theorem k_sipush_m1000 : (Int16.ofInt (-1000)).toInt32 = (-1000 : Int32) := by decide
theorem k_sipush_182 : (Int16.ofInt 182).toInt32 = (182 : Int32) := by decide
theorem k_sipush_200 : (Int16.ofInt 200).toInt32 = (200 : Int32) := by decide
theorem k_sipush_255 : (Int16.ofInt 255).toInt32 = (255 : Int32) := by decide
theorem k_sipush_256 : (Int16.ofInt 256).toInt32 = (256 : Int32) := by decide
theorem k_sipush_999 : (Int16.ofInt 999).toInt32 = (999 : Int32) := by decide
theorem k_lconst_0 : Int64.ofNat ((0 : Fin 2) : Nat) = (0 : Int64) := by decide
theorem k_lconst_1 : Int64.ofNat ((1 : Fin 2) : Nat) = (1 : Int64) := by decide
end
section
/-! shorter rows: a store gives a new world by what it says; calls of methods that make nothing -/
section CASHORT
variable {l : Launch} {y : MethodName} {cc : ByteArray} {nL : Nat} {ret : Option FieldType} {F mc ms N0 S0 : Nat} {sc : ca_Sc} {post : ca_Post} {X : ca_J}
variable {pc q : Nat} {ls : List (Option Value)} {st : List Value} {N S : Nat} {g : ca_G}
variable {y' : MethodName} {cc' : ByteArray} {nL' : Nat} {ret' : Option FieldType} {F' idx : Nat} {post' : ca_Post} {As : List Value}
theorem ca_iaN (hX : ca_Good l y cc nL ret F mc ms N0 S0 sc post X) {i n k : Nat} {f : Nat → Int32} {x : Int32} (hi : i < N) (hg : g i = .inl (n, f)) (hn : n < 100000) (hx : x = nI k) (hk : k < n) (hq : pc + 1 = q) (hd : decode cc pc = .ok (.iaload, 1)) (kk : X q ls (.int (f k) :: st) N S g) : X pc ls (.int x :: .ref i :: st) N S g := by
  subst hx
  refine ca_iald hX hi hg (vp_in_nI hk (by omega)) hq hd ?_
  rw [nI_clamp (by omega)]
  exact kk
theorem ca_iaS (hX : ca_Good l y cc nL ret F mc ms N0 S0 sc post X) {i n k : Nat} {f : Nat → Int32} {x v : Int32} (hi : i < N) (hN : N ≤ 1000) (hS : 1000000 ≤ S) (hg : g i = .inl (n, f)) (hn : n < 100000) (hx : x = nI k) (hk : k < n) (hq : pc + 1 = q) (hd : decode cc pc = .ok (.iastore, 1))
    (kk : ∀ g2 : ca_G, g2 i = .inl (n, upd f k v) → (∀ j, j ≠ i → g2 j = g j) → X q ls st N S g2) : X pc ls (.int v :: .int x :: .ref i :: st) N S g := by
  subst hx
  refine ca_iast hX hi hN hS hg (vp_in_nI hk (by omega)) hq hd ?_
  rw [nI_clamp (by omega)]
  exact kk _ (ca_up_s _ _ _) (fun j hj => ca_up_n _ _ hj)
theorem ca_putG (hX : ca_Good l y cc nL ret F mc ms N0 S0 sc post X) {ci n i : Nat} {C : String} {T : u_T} {ty0 : Nat → FieldType} {fs fs' : List Value} {v : Value} (hC : ca_CL ci C T n ty0) (k : Nat) (hk : k < n) (hl : Cond.fieldLink y.cls idx C (T k).2.1 (T k).2.2.1 ∈ ca_TT) (hf : (T k).2.2.2 = false ∨ (y.name = "<init>" ∧ C = y.cls)) (hn : ∀ ad, narrow (ty0 k) (ca_vz ad v) = ca_vz ad v) (hfit : ∀ ad, fits (ty0 k) (ca_vz ad v) = true) (hi : i < N) (hN : N ≤ 1000) (hg : g i = .inr (ci, fs)) (hlen : k < fs.length) (hfs : fs.set k v = fs') (hq : pc + 3 = q) (hd : decode cc pc = .ok (.putfield idx, 3))
    (kk : ∀ g2 : ca_G, g2 i = .inr (ci, fs') → (∀ j, j ≠ i → g2 j = g j) → X q ls st N S g2) : X pc ls (v :: .ref i :: st) N S g := by
  subst hfs
  exact ca_put hX hC k hk hl hf hn hfit hi hN hg hlen hq hd (kk _ (ca_up_s _ _ _) (fun j hj => ca_up_n _ _ hj))
theorem ca_puti (hX : ca_Good l y cc nL ret F mc ms N0 S0 sc post X) {ci n i : Nat} {C : String} {T : u_T} {ty0 : Nat → FieldType} {fs fs' : List Value} {x : Int32} (hC : ca_CL ci C T n ty0) (k : Nat) (hk : k < n) (hl : Cond.fieldLink y.cls idx C (T k).2.1 (T k).2.2.1 ∈ ca_TT) (hf : (T k).2.2.2 = false) (ht : ty0 k = .int) (hi : i < N) (hN : N ≤ 1000) (hg : g i = .inr (ci, fs)) (hlen : k < fs.length) (hfs : fs.set k (.int x) = fs') (hq : pc + 3 = q) (hd : decode cc pc = .ok (.putfield idx, 3))
    (kk : ∀ g2 : ca_G, g2 i = .inr (ci, fs') → (∀ j, j ≠ i → g2 j = g j) → X q ls st N S g2) : X pc ls (.int x :: .ref i :: st) N S g :=
  ca_putG hX hC k hk hl (Or.inl hf) (fun ad => by rw [ht]; rfl) (fun ad => by rw [ht]; rfl) hi hN hg hlen hfs hq hd kk
theorem ca_cV (hX : ca_Good l y cc nL ret F 0 0 N 1000000 sc post X) {n ci i : Nat} {fs : List Value} (hY : ca_YV y' cc' nL' ret' n ci) (hl : Cond.methodLink y.cls idx y' ∈ ca_TT) (hi : i < N) (hN : N ≤ 1000) (hg : g i = .inr (ci, fs)) (hC : ca_Ct l y' cc' nL' ret' F' 0 0 N 1000000 (.ref i :: As) g post') (hF : F' < F) (hn : As.length = n) (hst : (st.map fun v => v.category).sum ≤ 8) (hq : pc + 3 = q) (hd : decode cc pc = .ok (.invokevirtual idx, 3)) {stk : List Value} (hk : stk = As.reverse ++ .ref i :: st)
    (kk : ∀ (r : Option Value) (g' : ca_G), post' r g' → X q ls (r.toList ++ st) N 1000000 g') : X pc ls stk N 1000000 g :=
  ca_callV hX hY hl hi hN hg hC hF (Nat.le_refl _) (Nat.le_refl _) (Or.inr ⟨Nat.le_refl _, Nat.le_refl _⟩) hn hst hq hd hk kk
theorem ca_cS (hX : ca_Good l y cc nL ret F 0 0 N 1000000 sc post X) {n : Nat} (hY : ca_YS y' cc' nL' ret' n) (hl : Cond.methodLink y.cls idx y' ∈ ca_TT) (hN : N ≤ 1000) (hC : ca_Ct l y' cc' nL' ret' F' 0 0 N 1000000 As g post') (hF : F' < F) (hn : As.length = n) (hst : (st.map fun v => v.category).sum ≤ 8) (hq : pc + 3 = q) (hd : decode cc pc = .ok (.invokestatic idx, 3)) {stk : List Value} (hk : stk = As.reverse ++ st)
    (kk : ∀ (r : Option Value) (g' : ca_G), post' r g' → X q ls (r.toList ++ st) N 1000000 g') : X pc ls stk N 1000000 g :=
  ca_callS hX hY hl hN hC hF (Nat.le_refl _) (Nat.le_refl _) (Or.inr ⟨Nat.le_refl _, Nat.le_refl _⟩) hn hst hq hd hk kk
theorem ca_cSN (hX : ca_Good l y cc nL ret F 0 0 N 1000000 sc post X) {n : Nat} {host : String} (hY : ca_YS y' cc' nL' ret' n) (hl : Cond.methodLinkNest y.cls idx y' host ∈ ca_NT) (hN : N ≤ 1000) (hC : ca_Ct l y' cc' nL' ret' F' 0 0 N 1000000 As g post') (hF : F' < F) (hn : As.length = n) (hst : (st.map fun v => v.category).sum ≤ 8) (hq : pc + 3 = q) (hd : decode cc pc = .ok (.invokestatic idx, 3)) {stk : List Value} (hk : stk = As.reverse ++ st)
    (kk : ∀ (r : Option Value) (g' : ca_G), post' r g' → X q ls (r.toList ++ st) N 1000000 g') : X pc ls stk N 1000000 g :=
  ca_callSN hX hY hl hN hC hF (Nat.le_refl _) (Nat.le_refl _) (Or.inr ⟨Nat.le_refl _, Nat.le_refl _⟩) hn hst hq hd hk kk
/-- answers an int, changes nothing -/
abbrev ca_pi (v : Int32) (g : ca_G) : ca_Post := fun r g' => r = some (.int v) ∧ g' = g
abbrev ca_pl (v : Int64) (g : ca_G) : ca_Post := fun r g' => r = some (.long v) ∧ g' = g
theorem ca_cVi (hX : ca_Good l y cc nL ret F 0 0 N 1000000 sc post X) {n ci i : Nat} {fs : List Value} {v : Int32} (hY : ca_YV y' cc' nL' ret' n ci) (hl : Cond.methodLink y.cls idx y' ∈ ca_TT) (hi : i < N) (hN : N ≤ 1000) (hg : g i = .inr (ci, fs)) (hC : ca_Ct l y' cc' nL' ret' F' 0 0 N 1000000 (.ref i :: As) g (ca_pi v g)) (hF : F' < F) (hn : As.length = n) (hst : (st.map fun v => v.category).sum ≤ 8) (hq : pc + 3 = q) (hd : decode cc pc = .ok (.invokevirtual idx, 3)) {stk : List Value} (hk : stk = As.reverse ++ .ref i :: st)
    (kk : X q ls (.int v :: st) N 1000000 g) : X pc ls stk N 1000000 g :=
  ca_cV hX hY hl hi hN hg hC hF hn hst hq hd hk (fun r g' h => by rw [h.1, h.2]; exact kk)
theorem ca_cSi (hX : ca_Good l y cc nL ret F 0 0 N 1000000 sc post X) {n : Nat} {v : Int32} (hY : ca_YS y' cc' nL' ret' n) (hl : Cond.methodLink y.cls idx y' ∈ ca_TT) (hN : N ≤ 1000) (hC : ca_Ct l y' cc' nL' ret' F' 0 0 N 1000000 As g (ca_pi v g)) (hF : F' < F) (hn : As.length = n) (hst : (st.map fun v => v.category).sum ≤ 8) (hq : pc + 3 = q) (hd : decode cc pc = .ok (.invokestatic idx, 3)) {stk : List Value} (hk : stk = As.reverse ++ st)
    (kk : X q ls (.int v :: st) N 1000000 g) : X pc ls stk N 1000000 g :=
  ca_cS hX hY hl hN hC hF hn hst hq hd hk (fun r g' h => by rw [h.1, h.2]; exact kk)
theorem ca_cSl (hX : ca_Good l y cc nL ret F 0 0 N 1000000 sc post X) {n : Nat} {v : Int64} (hY : ca_YS y' cc' nL' ret' n) (hl : Cond.methodLink y.cls idx y' ∈ ca_TT) (hN : N ≤ 1000) (hC : ca_Ct l y' cc' nL' ret' F' 0 0 N 1000000 As g (ca_pl v g)) (hF : F' < F) (hn : As.length = n) (hst : (st.map fun v => v.category).sum ≤ 8) (hq : pc + 3 = q) (hd : decode cc pc = .ok (.invokestatic idx, 3)) {stk : List Value} (hk : stk = As.reverse ++ st)
    (kk : X q ls (.long v :: st) N 1000000 g) : X pc ls stk N 1000000 g :=
  ca_cS hX hY hl hN hC hF hn hst hq hd hk (fun r g' h => by rw [h.1, h.2]; exact kk)
theorem ca_cSNi (hX : ca_Good l y cc nL ret F 0 0 N 1000000 sc post X) {n : Nat} {host : String} {v : Int32} (hY : ca_YS y' cc' nL' ret' n) (hl : Cond.methodLinkNest y.cls idx y' host ∈ ca_NT) (hN : N ≤ 1000) (hC : ca_Ct l y' cc' nL' ret' F' 0 0 N 1000000 As g (ca_pi v g)) (hF : F' < F) (hn : As.length = n) (hst : (st.map fun v => v.category).sum ≤ 8) (hq : pc + 3 = q) (hd : decode cc pc = .ok (.invokestatic idx, 3)) {stk : List Value} (hk : stk = As.reverse ++ st)
    (kk : X q ls (.int v :: st) N 1000000 g) : X pc ls stk N 1000000 g :=
  ca_cSN hX hY hl hN hC hF hn hst hq hd hk (fun r g' h => by rw [h.1, h.2]; exact kk)
/-- a store whose array is told anew by a function that is the same within its length -/
theorem ca_same (hX : ca_Good l y cc nL ret F mc ms N0 S0 sc post X) {i n : Nat} {f f' : Nat → Int32} (hi : i < N) (hN : N ≤ 1000) (hg : g i = .inl (n, f)) (he : ∀ j, j < n → f j = f' j) (kk : ∀ g2 : ca_G, g2 i = .inl (n, f') → (∀ j, j ≠ i → g2 j = g j) → X pc ls st N S g2) : X pc ls st N S g := by
  have key := kk (ca_up g i (.inl (n, f'))) (ca_up_s _ _ _) (fun j hj => ca_up_n _ _ hj)
  obtain ⟨p, e, R, s, m, args, below, meth, c, D, cI, ad, base, Q, rfl, hx, hb, hml, hown, hts, hK, hB, hR, hQ, hL⟩ := hX
  intro h1 h2 h3 h4 H locs la q1 q2 q3 q4
  refine key h1 h2 h3 h4 H locs la q1 (fun j w hw => ?_) q3 q4
  obtain ⟨hj, rfl⟩ := ca_ws_ex hw
  by_cases hji : j = i
  · subst hji
    have z := q2 j _ (ca_ws_at hj)
    rw [hg] at z
    rw [ca_up_s]
    have z' : H[ad j]? = some (vp_cell cI (n, .inl f)) := z
    show H[ad j]? = some (vp_cell cI (n, .inl f'))
    rw [z', vp_cell_i, vp_cell_i]
    have ef : (fun j : Fin n => Value.int (f j.val)) = (fun j : Fin n => Value.int (f' j.val)) := funext fun j => by rw [he j.val j.isLt]
    show some ({ cls := cI, slots := Array.ofFn (fun j : Fin n => Value.int (f j.val)), vm := .none } : Cell) = some { cls := cI, slots := Array.ofFn (fun j : Fin n => Value.int (f' j.val)), vm := .none }
    rw [ef]
  · rw [ca_up_n _ _ hji]
    exact q2 j _ (ca_ws_at hj)
theorem ca_mmax (hX : ca_Good l y cc nL ret F mc ms N0 S0 sc post X) {a b : Int32} (wl : Cond.methodLink y.cls idx Lib.Math.max.name ∈ ca_TT) (wS : Cond.static Lib.Math.max.name ∈ ca_TT) (wi : Cond.initialized "java/lang/Math" ∈ ca_TT) (wc : Cond.code Lib.Math.max.name Lib.Math.max.code 2 (some .int) ∈ ca_TT) (hF : 1 ≤ F) (hst : (st.map fun v => v.category).sum ≤ 8) (hq : pc + 3 = q) (hd : decode cc pc = .ok (.invokestatic idx, 3)) (kk : X q ls (.int (if a < b then b else a) :: st) N S g) : X pc ls (.int b :: .int a :: st) N S g := by
  obtain ⟨p, e, R, s, m, args, below, meth, c, D, cI, ad, base, Q, rfl, hx, hb, hml, hown, hts, hK, hB, hR, hQ, hL⟩ := hX
  subst hq
  intro h1 h2 h3 h4 H locs la q1 q2 q3 q4
  exact va_mmax hx hb (by rw [q4.1, hml]) hown (hts _ wl) (hts _ wS) (hts _ wi) (hts _ wc) (by have := hB.2.2.1; omega) (by rw [ca_cat]; have := hB.2.2.2.1; omega) (by have := hB.2.2.2.2.1; omega) (by have := hB.2.2.2.2.2; omega) hd (kk h1 h2 h3 h4 H locs la q1 q2 q3 q4)
theorem ca_mmin (hX : ca_Good l y cc nL ret F mc ms N0 S0 sc post X) {a b : Int32} (wl : Cond.methodLink y.cls idx Lib.Math.min.name ∈ ca_TT) (wS : Cond.static Lib.Math.min.name ∈ ca_TT) (wi : Cond.initialized "java/lang/Math" ∈ ca_TT) (wc : Cond.code Lib.Math.min.name Lib.Math.min.code 2 (some .int) ∈ ca_TT) (hF : 1 ≤ F) (hst : (st.map fun v => v.category).sum ≤ 8) (hq : pc + 3 = q) (hd : decode cc pc = .ok (.invokestatic idx, 3)) (kk : X q ls (.int (if b < a then b else a) :: st) N S g) : X pc ls (.int b :: .int a :: st) N S g := by
  obtain ⟨p, e, R, s, m, args, below, meth, c, D, cI, ad, base, Q, rfl, hx, hb, hml, hown, hts, hK, hB, hR, hQ, hL⟩ := hX
  subst hq
  intro h1 h2 h3 h4 H locs la q1 q2 q3 q4
  exact va_mmin hx hb (by rw [q4.1, hml]) hown (hts _ wl) (hts _ wS) (hts _ wi) (hts _ wc) (by have := hB.2.2.1; omega) (by rw [ca_cat]; have := hB.2.2.2.1; omega) (by have := hB.2.2.2.2.1; omega) (by have := hB.2.2.2.2.2; omega) hd (kk h1 h2 h3 h4 H locs la q1 q2 q3 q4)
end CASHORT
end
section
/-! the kinds -/
def ndK (k : Int32) : Int32 := if k = 2 then 2 else if k = 3 then 4 else 1
def ctK (k : Int32) : Int32 := if k = 1 then 1 else if k = 2 then 3 else if k = 3 then 3 else if k = 4 then -9 else if k = 5 then 4 else 2
def wtK (k f : Int32) : Int32 := if k = 2 then 6 + f else if k = 3 then 2 * (6 + f) else if k = 4 then 0 else if k = 5 then f else 1 + f

set_option maxRecDepth 100000 in
set_option maxHeartbeats 4000000 in
theorem c_X2_needs (l : Launch) (N : Nat) (g : ca_G) (k : Int32) : ca_Ct l yX2_needs cX2_needs 1 (some .int) 0 0 0 N 1000000 [.int k] g (ca_pi (ndK k) g) := by
  refine ca_intro (by decide) (Nat.le_of_ble_eq_true rfl) (fun X hX hN => ?_)
  show X 0 [_] [] N 1000000 g
  refine ca_iload_n hX (q := 1) 0 rfl rfl rfl dX2_needs_0 ?_
  by_cases e1_2 : k = 2
  · refine ca_look hX (off := 27) 28 dX2_needs_1 (by decide) (by rw [e1_2]; decide) rfl ?_
    refine ca_iconst hX (q := 29) k_iconst_2 rfl dX2_needs_28 ?_
    refine ca_iret hX rfl rfl rfl rfl dX2_needs_29 ?_
    refine ⟨?_, rfl⟩; simp [ndK, ctK, wtK, *]
  by_cases e1_3 : k = 3
  · refine ca_look hX (off := 29) 30 dX2_needs_1 (by decide) (by rw [e1_3]; decide) rfl ?_
    refine ca_iconst hX (q := 31) k_iconst_4 rfl dX2_needs_30 ?_
    refine ca_iret hX rfl rfl rfl rfl dX2_needs_31 ?_
    refine ⟨?_, rfl⟩; simp [ndK, ctK, wtK, *]
  refine ca_look hX (off := 31) 32 dX2_needs_1 (by decide) (by have z0 := lv_neT (k := 2) (a := 2) e1_2 (by decide); have z1 := lv_neT (k := 3) (a := 3) e1_3 (by decide); simp [Op.lookupswitch.offset, Ne.symm z0, Ne.symm z1]) rfl ?_
  refine ca_iconst hX (q := 33) k_iconst_1 rfl dX2_needs_32 ?_
  refine ca_iret hX rfl rfl rfl rfl dX2_needs_33 ?_
  refine ⟨?_, rfl⟩; simp [ndK, ctK, wtK, *]

set_option maxRecDepth 100000 in
set_option maxHeartbeats 4000000 in
theorem c_X2_catches (l : Launch) (N : Nat) (g : ca_G) (k : Int32) : ca_Ct l yX2_catches cX2_catches 1 (some .int) 0 0 0 N 1000000 [.int k] g (ca_pi (ctK k) g) := by
  refine ca_intro (by decide) (Nat.le_of_ble_eq_true rfl) (fun X hX hN => ?_)
  show X 0 [_] [] N 1000000 g
  refine ca_iload_n hX (q := 1) 0 rfl rfl rfl dX2_catches_0 ?_
  by_cases e1_1 : k = 1
  · refine ca_tabIn hX 36 dX2_catches_1 (by rw [e1_1]; decide) (by rw [e1_1]; decide) (by rw [e1_1]; rfl) rfl ?_
    refine ca_iconst hX (q := 37) k_iconst_1 rfl dX2_catches_36 ?_
    refine ca_iret hX rfl rfl rfl rfl dX2_catches_37 ?_
    refine ⟨?_, rfl⟩; simp [ndK, ctK, wtK, *]
  by_cases e1_2 : k = 2
  · refine ca_tabIn hX 38 dX2_catches_1 (by rw [e1_2]; decide) (by rw [e1_2]; decide) (by rw [e1_2]; rfl) rfl ?_
    refine ca_iconst hX (q := 39) k_iconst_3 rfl dX2_catches_38 ?_
    refine ca_iret hX rfl rfl rfl rfl dX2_catches_39 ?_
    refine ⟨?_, rfl⟩; simp [ndK, ctK, wtK, *]
  by_cases e1_3 : k = 3
  · refine ca_tabIn hX 38 dX2_catches_1 (by rw [e1_3]; decide) (by rw [e1_3]; decide) (by rw [e1_3]; rfl) rfl ?_
    refine ca_iconst hX (q := 39) k_iconst_3 rfl dX2_catches_38 ?_
    refine ca_iret hX rfl rfl rfl rfl dX2_catches_39 ?_
    refine ⟨?_, rfl⟩; simp [ndK, ctK, wtK, *]
  by_cases e1_4 : k = 4
  · refine ca_tabIn hX 40 dX2_catches_1 (by rw [e1_4]; decide) (by rw [e1_4]; decide) (by rw [e1_4]; rfl) rfl ?_
    refine ca_bipush hX (q := 42) k_bipush_m9 rfl dX2_catches_40 ?_
    refine ca_iret hX rfl rfl rfl rfl dX2_catches_42 ?_
    refine ⟨?_, rfl⟩; simp [ndK, ctK, wtK, *]
  by_cases e1_5 : k = 5
  · refine ca_tabIn hX 43 dX2_catches_1 (by rw [e1_5]; decide) (by rw [e1_5]; decide) (by rw [e1_5]; rfl) rfl ?_
    refine ca_iconst hX (q := 44) k_iconst_4 rfl dX2_catches_43 ?_
    refine ca_iret hX rfl rfl rfl rfl dX2_catches_44 ?_
    refine ⟨?_, rfl⟩; simp [ndK, ctK, wtK, *]
  refine ca_tabOut hX 45 dX2_catches_1 (by have z0 := lv_neT (k := 1) (a := 1) e1_1 (by decide); have z1 := lv_neT (k := 2) (a := 2) e1_2 (by decide); have z2 := lv_neT (k := 3) (a := 3) e1_3 (by decide); have z3 := lv_neT (k := 4) (a := 4) e1_4 (by decide); have z4 := lv_neT (k := 5) (a := 5) e1_5 (by decide); omega) rfl ?_
  refine ca_iconst hX (q := 46) k_iconst_2 rfl dX2_catches_45 ?_
  refine ca_iret hX rfl rfl rfl rfl dX2_catches_46 ?_
  refine ⟨?_, rfl⟩; simp [ndK, ctK, wtK, *]

set_option maxRecDepth 100000 in
set_option maxHeartbeats 4000000 in
theorem c_X2_worth (l : Launch) (N : Nat) (g : ca_G) (k f : Int32) : ca_Ct l yX2_worth cX2_worth 2 (some .int) 0 0 0 N 1000000 [.int k, .int f] g (ca_pi (wtK k f) g) := by
  refine ca_intro (by decide) (Nat.le_of_ble_eq_true rfl) (fun X hX hN => ?_)
  show X 0 [_, _] [] N 1000000 g
  refine ca_iload_n hX (q := 1) 0 rfl rfl rfl dX2_worth_0 ?_
  by_cases e1_2 : k = 2
  · refine ca_tabIn hX 32 dX2_worth_1 (by rw [e1_2]; decide) (by rw [e1_2]; decide) (by rw [e1_2]; rfl) rfl ?_
    refine ca_bipush hX (q := 34) k_bipush_6 rfl dX2_worth_32 ?_
    refine ca_iload_n hX (q := 35) 1 rfl rfl rfl dX2_worth_34 ?_
    refine ca_iadd hX (q := 36) rfl dX2_worth_35 ?_
    refine ca_iret hX rfl rfl rfl rfl dX2_worth_36 ?_
    refine ⟨?_, rfl⟩; simp [ndK, ctK, wtK, *]
  by_cases e1_3 : k = 3
  · refine ca_tabIn hX 37 dX2_worth_1 (by rw [e1_3]; decide) (by rw [e1_3]; decide) (by rw [e1_3]; rfl) rfl ?_
    refine ca_iconst hX (q := 38) k_iconst_2 rfl dX2_worth_37 ?_
    refine ca_bipush hX (q := 40) k_bipush_6 rfl dX2_worth_38 ?_
    refine ca_iload_n hX (q := 41) 1 rfl rfl rfl dX2_worth_40 ?_
    refine ca_iadd hX (q := 42) rfl dX2_worth_41 ?_
    refine ca_imul hX (q := 43) rfl dX2_worth_42 ?_
    refine ca_iret hX rfl rfl rfl rfl dX2_worth_43 ?_
    refine ⟨?_, rfl⟩; simp [ndK, ctK, wtK, *]
  by_cases e1_4 : k = 4
  · refine ca_tabIn hX 44 dX2_worth_1 (by rw [e1_4]; decide) (by rw [e1_4]; decide) (by rw [e1_4]; rfl) rfl ?_
    refine ca_iconst hX (q := 45) k_iconst_0 rfl dX2_worth_44 ?_
    refine ca_iret hX rfl rfl rfl rfl dX2_worth_45 ?_
    refine ⟨?_, rfl⟩; simp [ndK, ctK, wtK, *]
  by_cases e1_5 : k = 5
  · refine ca_tabIn hX 46 dX2_worth_1 (by rw [e1_5]; decide) (by rw [e1_5]; decide) (by rw [e1_5]; rfl) rfl ?_
    refine ca_iload_n hX (q := 47) 1 rfl rfl rfl dX2_worth_46 ?_
    refine ca_iret hX rfl rfl rfl rfl dX2_worth_47 ?_
    refine ⟨?_, rfl⟩; simp [ndK, ctK, wtK, *]
  refine ca_tabOut hX 48 dX2_worth_1 (by have z0 := lv_neT (k := 2) (a := 2) e1_2 (by decide); have z1 := lv_neT (k := 3) (a := 3) e1_3 (by decide); have z2 := lv_neT (k := 4) (a := 4) e1_4 (by decide); have z3 := lv_neT (k := 5) (a := 5) e1_5 (by decide); omega) rfl ?_
  refine ca_iconst hX (q := 49) k_iconst_1 rfl dX2_worth_48 ?_
  refine ca_iload_n hX (q := 50) 1 rfl rfl rfl dX2_worth_49 ?_
  refine ca_iadd hX (q := 51) rfl dX2_worth_50 ?_
  refine ca_iret hX rfl rfl rfl rfl dX2_worth_51 ?_
  refine ⟨?_, rfl⟩; simp [ndK, ctK, wtK, *]

def bcI (x : Int32) : Int32 :=
  let ush := fun (a b : Int32) => (a.toUInt32 >>> (b.toUInt32 &&& Int32.toUInt32 31)).toInt32
  let a := x - (ush x 1 &&& 1431655765)
  let b := (a &&& 858993459) + (ush a 2 &&& 858993459)
  let c := (b + ush b 4) &&& 252645135
  let d := c + ush c 8
  let e := d + ush d 16
  e &&& 63

set_option maxRecDepth 100000 in
set_option maxHeartbeats 4000000 in
theorem c_J6_bitCount (l : Launch) (N : Nat) (g : ca_G) (x : Int32) : ca_Ct l yJ6_bitCount_0f7a4 cJ6_bitCount_0f7a4 1 (some .int) 0 0 0 N 1000000 [.int x] g (ca_pi (bcI x) g) := by
  refine ca_intro (by decide) (Nat.le_of_ble_eq_true rfl) (fun X hX hN => ?_)
  show X 0 [_] [] N 1000000 g
  refine ca_iload_n hX (q := 1) 0 rfl rfl rfl dJ6_bitCount_0f7a4_0 ?_
  refine ca_iload_n hX (q := 2) 0 rfl rfl rfl dJ6_bitCount_0f7a4_1 ?_
  refine ca_iconst hX (q := 3) k_iconst_1 rfl dJ6_bitCount_0f7a4_2 ?_
  refine ca_iushr hX (q := 4) rfl dJ6_bitCount_0f7a4_3 ?_
  refine ca_ldcw hX (q := 7) w_k_J6_265 rfl dJ6_bitCount_0f7a4_4 ?_
  refine ca_iand hX (q := 8) rfl dJ6_bitCount_0f7a4_7 ?_
  refine ca_isub hX (q := 9) rfl dJ6_bitCount_0f7a4_8 ?_
  refine ca_istore_n hX (q := 10) 0 rfl (ls' := [_]) (Nat.le_of_ble_eq_true rfl) (Nat.le_of_ble_eq_true rfl) (Or.inl rfl) rfl rfl dJ6_bitCount_0f7a4_9 ?_
  refine ca_iload_n hX (q := 11) 0 rfl rfl rfl dJ6_bitCount_0f7a4_10 ?_
  refine ca_ldcw hX (q := 14) w_k_J6_266 rfl dJ6_bitCount_0f7a4_11 ?_
  refine ca_iand hX (q := 15) rfl dJ6_bitCount_0f7a4_14 ?_
  refine ca_iload_n hX (q := 16) 0 rfl rfl rfl dJ6_bitCount_0f7a4_15 ?_
  refine ca_iconst hX (q := 17) k_iconst_2 rfl dJ6_bitCount_0f7a4_16 ?_
  refine ca_iushr hX (q := 18) rfl dJ6_bitCount_0f7a4_17 ?_
  refine ca_ldcw hX (q := 21) w_k_J6_266 rfl dJ6_bitCount_0f7a4_18 ?_
  refine ca_iand hX (q := 22) rfl dJ6_bitCount_0f7a4_21 ?_
  refine ca_iadd hX (q := 23) rfl dJ6_bitCount_0f7a4_22 ?_
  refine ca_istore_n hX (q := 24) 0 rfl (ls' := [_]) (Nat.le_of_ble_eq_true rfl) (Nat.le_of_ble_eq_true rfl) (Or.inl rfl) rfl rfl dJ6_bitCount_0f7a4_23 ?_
  refine ca_iload_n hX (q := 25) 0 rfl rfl rfl dJ6_bitCount_0f7a4_24 ?_
  refine ca_iload_n hX (q := 26) 0 rfl rfl rfl dJ6_bitCount_0f7a4_25 ?_
  refine ca_iconst hX (q := 27) k_iconst_4 rfl dJ6_bitCount_0f7a4_26 ?_
  refine ca_iushr hX (q := 28) rfl dJ6_bitCount_0f7a4_27 ?_
  refine ca_iadd hX (q := 29) rfl dJ6_bitCount_0f7a4_28 ?_
  refine ca_ldcw hX (q := 32) w_k_J6_267 rfl dJ6_bitCount_0f7a4_29 ?_
  refine ca_iand hX (q := 33) rfl dJ6_bitCount_0f7a4_32 ?_
  refine ca_istore_n hX (q := 34) 0 rfl (ls' := [_]) (Nat.le_of_ble_eq_true rfl) (Nat.le_of_ble_eq_true rfl) (Or.inl rfl) rfl rfl dJ6_bitCount_0f7a4_33 ?_
  refine ca_iload_n hX (q := 35) 0 rfl rfl rfl dJ6_bitCount_0f7a4_34 ?_
  refine ca_iload_n hX (q := 36) 0 rfl rfl rfl dJ6_bitCount_0f7a4_35 ?_
  refine ca_bipush hX (q := 38) k_bipush_8 rfl dJ6_bitCount_0f7a4_36 ?_
  refine ca_iushr hX (q := 39) rfl dJ6_bitCount_0f7a4_38 ?_
  refine ca_iadd hX (q := 40) rfl dJ6_bitCount_0f7a4_39 ?_
  refine ca_istore_n hX (q := 41) 0 rfl (ls' := [_]) (Nat.le_of_ble_eq_true rfl) (Nat.le_of_ble_eq_true rfl) (Or.inl rfl) rfl rfl dJ6_bitCount_0f7a4_40 ?_
  refine ca_iload_n hX (q := 42) 0 rfl rfl rfl dJ6_bitCount_0f7a4_41 ?_
  refine ca_iload_n hX (q := 43) 0 rfl rfl rfl dJ6_bitCount_0f7a4_42 ?_
  refine ca_bipush hX (q := 45) k_bipush_16 rfl dJ6_bitCount_0f7a4_43 ?_
  refine ca_iushr hX (q := 46) rfl dJ6_bitCount_0f7a4_45 ?_
  refine ca_iadd hX (q := 47) rfl dJ6_bitCount_0f7a4_46 ?_
  refine ca_istore_n hX (q := 48) 0 rfl (ls' := [_]) (Nat.le_of_ble_eq_true rfl) (Nat.le_of_ble_eq_true rfl) (Or.inl rfl) rfl rfl dJ6_bitCount_0f7a4_47 ?_
  refine ca_iload_n hX (q := 49) 0 rfl rfl rfl dJ6_bitCount_0f7a4_48 ?_
  refine ca_bipush hX (q := 51) k_bipush_63 rfl dJ6_bitCount_0f7a4_49 ?_
  refine ca_iand hX (q := 52) rfl dJ6_bitCount_0f7a4_51 ?_
  refine ca_iret hX rfl rfl rfl rfl dJ6_bitCount_0f7a4_52 ?_
  exact ⟨rfl, rfl⟩
end
section
/-- a stretch of a row, 0 behind it -/
def msk (o n : Nat) (h : Nat → Int32) : Nat → Int32 := fun r => if r < n then h (o + r) else 0
/-! a house in the cells: its numbers as the reference has them in one row (0 people, 1 night, 2 kinds, 27 figures, 52 sharp, 57 known) -/
def hsG (g : ca_G) (b : Nat) (h : Nat → Int32) : Prop :=
  g b = .inr (1, [.ref (b + 1), .ref (b + 2), .ref (b + 3), .ref (b + 4), .int (h 0), .int (h 1)]) ∧ g (b + 1) = .inl (25, msk 2 25 h) ∧ g (b + 2) = .inl (25, msk 27 25 h) ∧ g (b + 3) = .inl (5, msk 52 5 h) ∧ g (b + 4) = .inl (125, msk 57 125 h)
def frG (g g' : ca_G) (lo hi : Nat) : Prop := ∀ j, (j < lo ∨ hi ≤ j) → g' j = g j
theorem frG.rf {g : ca_G} {lo hi : Nat} : frG g g lo hi := fun _ _ => rfl
theorem frG.tr {g g1 g2 : ca_G} {lo hi : Nat} (a : frG g g1 lo hi) (b : frG g1 g2 lo hi) : frG g g2 lo hi := fun j h => (b j h).trans (a j h)
theorem frG.wd {g g1 : ca_G} {lo hi lo' hi' : Nat} (a : frG g g1 lo hi) (h1 : lo' ≤ lo) (h2 : hi ≤ hi') : frG g g1 lo' hi' := fun j h => a j (by omega)
theorem hsG.fr {g g' : ca_G} {b lo hi : Nat} {h : Nat → Int32} (hh : hsG g b h) (f : frG g g' lo hi) (hd : b + 5 ≤ lo ∨ hi ≤ b) : hsG g' b h := by
  obtain ⟨h0, h1, h2, h3, h4⟩ := hh
  exact ⟨(f b (by omega)).trans h0, (f (b + 1) (by omega)).trans h1, (f (b + 2) (by omega)).trans h2, (f (b + 3) (by omega)).trans h3, (f (b + 4) (by omega)).trans h4⟩
def smI (f : Nat → Int32) : Nat → Int32
  | 0 => 0
  | n + 1 => smI f n + f n
def kdH (h : Nat → Int32) (r : Nat) : Int32 := h (2 + r)
def fgH (h : Nat → Int32) (r : Nat) : Int32 := h (27 + r)
def knH (h : Nat → Int32) (p r : Nat) : Int32 := h (57 + (25 * p + r))
def ndH (h : Nat → Int32) (r : Nat) : Int32 := ndK (kdH h r)
def ctH (h : Nat → Int32) (r : Nat) : Int32 := ctK (kdH h r)
def wtH (h : Nat → Int32) (r : Nat) : Int32 := wtK (kdH h r) (fgH h r)
def rmB (x : Int32) : Int32 := if x < 0 then 0 else if 25 ≤ x then 0 else 1
def hpB (h0 x : Int32) : Int32 := if x < 0 then 0 else if h0 ≤ x then 0 else if 5 ≤ x then 0 else 1
theorem rmB_ok {r : Nat} (h : r < 25) : rmB (nI r) = 1 := by
  rw [rmB, if_neg (nI_pos (by omega)), if_neg]
  exact nI_ge (a := r) (b := 25) h (by omega)
theorem hpB_ok {h0 : Int32} {P p : Nat} (e : h0 = nI P) (hP : P ≤ 5) (h : p < P) : hpB h0 (nI p) = 1 := by
  rw [hpB, if_neg (nI_pos (by omega)), if_neg (by rw [e]; exact nI_ge h (by omega)), if_neg]
  exact nI_ge (a := p) (b := 5) (by omega) (by omega)
theorem ixK {p r : Nat} (hp : p < 5) (hr : r < 25) : nI p * 25 + nI r = nI (25 * p + r) := by
  rw [show (25 : Int32) = nI 25 from rfl, pk_mul, nI_add, Nat.mul_comm]
theorem upd_s (f : Nat → Int32) (k : Nat) (x : Int32) : upd f k x k = x := pk_us
theorem upd_n (f : Nat → Int32) {k j : Nat} (x : Int32) (h : j ≠ k) : upd f k x j = f j := pk_un h
theorem msk_in {o n r : Nat} {h : Nat → Int32} (hr : r < n) : msk o n h r = h (o + r) := if_pos hr
theorem msk_upd {o n k : Nat} {h : Nat → Int32} {x : Int32} (hk : k < n) : upd (msk o n h) k x = msk o n (upd h (o + k) x) := by
  funext j
  unfold msk
  by_cases e : j = k
  · subst e; rw [upd_s, if_pos hk, upd_s]
  · rw [upd_n _ _ e]
    by_cases hj : j < n
    · rw [if_pos hj, if_pos hj, upd_n _ _ (by omega)]
    · rw [if_neg hj, if_neg hj]
theorem msk_ext {o n : Nat} {h h' : Nat → Int32} (e : ∀ j, j < n → h (o + j) = h' (o + j)) : msk o n h = msk o n h' := by
  funext j
  unfold msk
  by_cases hj : j < n
  · rw [if_pos hj, if_pos hj, e j hj]
  · rw [if_neg hj, if_neg hj]
theorem msk_cpy {o n : Nat} {h h' : Nat → Int32} : va_cpy (msk o n h) (msk o n h') 0 0 n = msk o n h := by
  funext j
  by_cases hj : j < n
  · rw [pk_cpy_in (by omega) (by omega)]; simp
  · rw [pk_cpy_out (by omega)]; unfold msk; rw [if_neg hj, if_neg hj]
theorem hsG.ext {g : ca_G} {b : Nat} {h h' : Nat → Int32} (hh : hsG g b h) (e : ∀ j, j < 182 → h j = h' j) : hsG g b h' := by
  obtain ⟨h0, h1, h2, h3, h4⟩ := hh
  refine ⟨by rw [h0, e 0 (by omega), e 1 (by omega)], ?_, ?_, ?_, ?_⟩
  · rw [h1, msk_ext (fun j hj => e _ (by omega))]
  · rw [h2, msk_ext (fun j hj => e _ (by omega))]
  · rw [h3, msk_ext (fun j hj => e _ (by omega))]
  · rw [h4, msk_ext (fun j hj => e _ (by omega))]

set_option maxRecDepth 100000 in
set_option maxHeartbeats 4000000 in
theorem c_X5_isRoom (l : Launch) (N : Nat) (g : ca_G) (x : Int32) : ca_Ct l yX5_isRoom cX5_isRoom 1 (some .boolean) 0 0 0 N 1000000 [.int x] g (ca_pi (rmB x) g) := by
  refine ca_intro (by decide) (Nat.le_of_ble_eq_true rfl) (fun X hX hN => ?_)
  show X 0 [_] [] N 1000000 g
  refine ca_iload_n hX (q := 1) 0 rfl rfl rfl dX5_isRoom_0 ?_
  refine ca_if_lt hX (q := 4) 14 rfl rfl dX5_isRoom_1 (fun c1 => ?_) (fun c1 => ?_)
  · refine ca_iconst hX (q := 15) k_iconst_0 rfl dX5_isRoom_14 ?_
    refine ca_zret hX rfl rfl rfl rfl rfl dX5_isRoom_15 ?_
    refine ⟨?_, rfl⟩; simp [rmB, *]
  · refine ca_iload_n hX (q := 5) 0 rfl rfl rfl dX5_isRoom_4 ?_
    refine ca_bipush hX (q := 7) k_bipush_25 rfl dX5_isRoom_5 ?_
    refine ca_icmp_ge hX (q := 10) 14 rfl rfl dX5_isRoom_7 (fun c7 => ?_) (fun c7 => ?_)
    · refine ca_iconst hX (q := 15) k_iconst_0 rfl dX5_isRoom_14 ?_
      refine ca_zret hX rfl rfl rfl rfl rfl dX5_isRoom_15 ?_
      refine ⟨?_, rfl⟩; simp [rmB, *]
    · refine ca_iconst hX (q := 11) k_iconst_1 rfl dX5_isRoom_10 ?_
      refine ca_goto hX 15 rfl dX5_isRoom_11 ?_
      refine ca_zret hX rfl rfl rfl rfl rfl dX5_isRoom_15 ?_
      refine ⟨?_, rfl⟩; simp [rmB, *]

set_option maxRecDepth 100000 in
set_option maxHeartbeats 4000000 in
theorem c_X1_hasPerson (l : Launch) (N : Nat) (g : ca_G) (b : Nat) (h : Nat → Int32) (hh : hsG g b h) (hb : b + 5 ≤ N) (x : Int32) : ca_Ct l yX1_hasPerson cX1_hasPerson 2 (some .boolean) 0 0 0 N 1000000 [.ref b, .int x] g (ca_pi (hpB (h 0) x) g) := by
  refine ca_intro (by decide) (Nat.le_of_ble_eq_true rfl) (fun X hX hN => ?_)
  show X 0 [_, _] [] N 1000000 g
  obtain ⟨h0, h1, h2, h3, h4⟩ := hh
  refine ca_iload_n hX (q := 1) 1 rfl rfl rfl dX1_hasPerson_0 ?_
  refine ca_if_lt hX (q := 4) 21 rfl rfl dX1_hasPerson_1 (fun c1 => ?_) (fun c1 => ?_)
  · refine ca_iconst hX (q := 22) k_iconst_0 rfl dX1_hasPerson_21 ?_
    refine ca_zret hX rfl rfl rfl rfl rfl dX1_hasPerson_22 ?_
    refine ⟨?_, rfl⟩; simp [hpB, *]
  · refine ca_iload_n hX (q := 5) 1 rfl rfl rfl dX1_hasPerson_4 ?_
    refine ca_aload_n hX (q := 6) 0 rfl rfl rfl dX1_hasPerson_5 ?_
    refine ca_getf hX (q := 9) cl_X1 4 (by decide) w_fl_X1_24 (by omega) h0 rfl rfl dX1_hasPerson_6 ?_
    refine ca_icmp_ge hX (q := 12) 21 rfl rfl dX1_hasPerson_9 (fun c9 => ?_) (fun c9 => ?_)
    · refine ca_iconst hX (q := 22) k_iconst_0 rfl dX1_hasPerson_21 ?_
      refine ca_zret hX rfl rfl rfl rfl rfl dX1_hasPerson_22 ?_
      refine ⟨?_, rfl⟩; simp [hpB, *]
    · refine ca_iload_n hX (q := 13) 1 rfl rfl rfl dX1_hasPerson_12 ?_
      refine ca_iconst hX (q := 14) k_iconst_5 rfl dX1_hasPerson_13 ?_
      refine ca_icmp_ge hX (q := 17) 21 rfl rfl dX1_hasPerson_14 (fun c14 => ?_) (fun c14 => ?_)
      · refine ca_iconst hX (q := 22) k_iconst_0 rfl dX1_hasPerson_21 ?_
        refine ca_zret hX rfl rfl rfl rfl rfl dX1_hasPerson_22 ?_
        refine ⟨?_, rfl⟩; simp [hpB, *]
      · refine ca_iconst hX (q := 18) k_iconst_1 rfl dX1_hasPerson_17 ?_
        refine ca_goto hX 22 rfl dX1_hasPerson_18 ?_
        refine ca_zret hX rfl rfl rfl rfl rfl dX1_hasPerson_22 ?_
        refine ⟨?_, rfl⟩; simp [hpB, *]

set_option maxRecDepth 100000 in
set_option maxHeartbeats 4000000 in
theorem c_X1_kindOf (l : Launch) (N : Nat) (g : ca_G) (b : Nat) (h : Nat → Int32) (hh : hsG g b h) (hb : b + 5 ≤ N) (r : Nat) (hr : r < 25) : ca_Ct l yX1_kindOf cX1_kindOf 2 (some .int) 1 0 0 N 1000000 [.ref b, .int (nI r)] g (ca_pi (kdH h r) g) := by
  refine ca_intro (by decide) (Nat.le_of_ble_eq_true rfl) (fun X hX hN => ?_)
  show X 0 [_, _] [] N 1000000 g
  obtain ⟨h0, h1, h2, h3, h4⟩ := hh
  refine ca_iload_n hX (q := 1) 1 rfl rfl rfl dX1_kindOf_0 ?_
  refine ca_cSNi hX (q := 4) y_X5_isRoom w_mn_X1_37 hN (c_X5_isRoom l N g (nI r)) (by decide) rfl (by decide) rfl dX1_kindOf_1 rfl ?_
  refine ca_if_eq hX (q := 7) 16 rfl rfl dX1_kindOf_4 (fun z => absurd z (by rw [rmB_ok hr]; decide)) (fun _ => ?_)
  refine ca_aload_n hX (q := 8) 0 rfl rfl rfl dX1_kindOf_7 ?_
  refine ca_getf hX (q := 11) cl_X1 0 (by decide) w_fl_X1_9 (by omega) h0 rfl rfl dX1_kindOf_8 ?_
  refine ca_iload_n hX (q := 12) 1 rfl rfl rfl dX1_kindOf_11 ?_
  refine ca_iaN hX (q := 13) (k := r) (by omega) h1 (by decide) rfl (by omega) rfl dX1_kindOf_12 ?_
  refine ca_goto hX 18 rfl dX1_kindOf_13 ?_
  refine ca_iret hX rfl rfl rfl rfl dX1_kindOf_18 ?_
  exact ⟨by rw [msk_in hr]; rfl, rfl⟩

set_option maxRecDepth 100000 in
set_option maxHeartbeats 4000000 in
theorem c_X1_figureOf (l : Launch) (N : Nat) (g : ca_G) (b : Nat) (h : Nat → Int32) (hh : hsG g b h) (hb : b + 5 ≤ N) (r : Nat) (hr : r < 25) : ca_Ct l yX1_figureOf cX1_figureOf 2 (some .int) 1 0 0 N 1000000 [.ref b, .int (nI r)] g (ca_pi (fgH h r) g) := by
  refine ca_intro (by decide) (Nat.le_of_ble_eq_true rfl) (fun X hX hN => ?_)
  show X 0 [_, _] [] N 1000000 g
  obtain ⟨h0, h1, h2, h3, h4⟩ := hh
  refine ca_iload_n hX (q := 1) 1 rfl rfl rfl dX1_figureOf_0 ?_
  refine ca_cSNi hX (q := 4) y_X5_isRoom w_mn_X1_37 hN (c_X5_isRoom l N g (nI r)) (by decide) rfl (by decide) rfl dX1_figureOf_1 rfl ?_
  refine ca_if_eq hX (q := 7) 16 rfl rfl dX1_figureOf_4 (fun z => absurd z (by rw [rmB_ok hr]; decide)) (fun _ => ?_)
  refine ca_aload_n hX (q := 8) 0 rfl rfl rfl dX1_figureOf_7 ?_
  refine ca_getf hX (q := 11) cl_X1 1 (by decide) w_fl_X1_15 (by omega) h0 rfl rfl dX1_figureOf_8 ?_
  refine ca_iload_n hX (q := 12) 1 rfl rfl rfl dX1_figureOf_11 ?_
  refine ca_iaN hX (q := 13) (k := r) (by omega) h2 (by decide) rfl (by omega) rfl dX1_figureOf_12 ?_
  refine ca_goto hX 18 rfl dX1_figureOf_13 ?_
  refine ca_iret hX rfl rfl rfl rfl dX1_figureOf_18 ?_
  exact ⟨by rw [msk_in hr]; rfl, rfl⟩

set_option maxRecDepth 100000 in
set_option maxHeartbeats 4000000 in
theorem c_X1_needsOf (l : Launch) (N : Nat) (g : ca_G) (b : Nat) (h : Nat → Int32) (hh : hsG g b h) (hb : b + 5 ≤ N) (r : Nat) (hr : r < 25) : ca_Ct l yX1_needsOf cX1_needsOf 2 (some .int) 2 0 0 N 1000000 [.ref b, .int (nI r)] g (ca_pi (ndH h r) g) := by
  refine ca_intro (by decide) (Nat.le_of_ble_eq_true rfl) (fun X hX hN => ?_)
  show X 0 [_, _] [] N 1000000 g
  obtain ⟨h0, h1, h2, h3, h4⟩ := hh
  refine ca_aload_n hX (q := 1) 0 rfl rfl rfl dX1_needsOf_0 ?_
  refine ca_iload_n hX (q := 2) 1 rfl rfl rfl dX1_needsOf_1 ?_
  refine ca_cVi hX (q := 5) y_X1_kindOf w_ml_X1_41 (by omega) hN h0 (c_X1_kindOf l N g b h ⟨h0, h1, h2, h3, h4⟩ hb r hr) (by decide) rfl (by decide) rfl dX1_needsOf_2 rfl ?_
  refine ca_cSi hX (q := 8) y_X2_needs w_ml_X1_45 hN (c_X2_needs l N g _) (by decide) rfl (by decide) rfl dX1_needsOf_5 rfl ?_
  refine ca_iret hX rfl rfl rfl rfl dX1_needsOf_8 ?_
  exact ⟨rfl, rfl⟩

set_option maxRecDepth 100000 in
set_option maxHeartbeats 4000000 in
theorem c_X1_catchesOf (l : Launch) (N : Nat) (g : ca_G) (b : Nat) (h : Nat → Int32) (hh : hsG g b h) (hb : b + 5 ≤ N) (r : Nat) (hr : r < 25) : ca_Ct l yX1_catchesOf cX1_catchesOf 2 (some .int) 2 0 0 N 1000000 [.ref b, .int (nI r)] g (ca_pi (ctH h r) g) := by
  refine ca_intro (by decide) (Nat.le_of_ble_eq_true rfl) (fun X hX hN => ?_)
  show X 0 [_, _] [] N 1000000 g
  obtain ⟨h0, h1, h2, h3, h4⟩ := hh
  refine ca_aload_n hX (q := 1) 0 rfl rfl rfl dX1_catchesOf_0 ?_
  refine ca_iload_n hX (q := 2) 1 rfl rfl rfl dX1_catchesOf_1 ?_
  refine ca_cVi hX (q := 5) y_X1_kindOf w_ml_X1_41 (by omega) hN h0 (c_X1_kindOf l N g b h ⟨h0, h1, h2, h3, h4⟩ hb r hr) (by decide) rfl (by decide) rfl dX1_catchesOf_2 rfl ?_
  refine ca_cSi hX (q := 8) y_X2_catches w_ml_X1_50 hN (c_X2_catches l N g _) (by decide) rfl (by decide) rfl dX1_catchesOf_5 rfl ?_
  refine ca_iret hX rfl rfl rfl rfl dX1_catchesOf_8 ?_
  exact ⟨rfl, rfl⟩

set_option maxRecDepth 100000 in
set_option maxHeartbeats 4000000 in
theorem c_X1_worthOf (l : Launch) (N : Nat) (g : ca_G) (b : Nat) (h : Nat → Int32) (hh : hsG g b h) (hb : b + 5 ≤ N) (r : Nat) (hr : r < 25) : ca_Ct l yX1_worthOf cX1_worthOf 2 (some .int) 2 0 0 N 1000000 [.ref b, .int (nI r)] g (ca_pi (wtH h r) g) := by
  refine ca_intro (by decide) (Nat.le_of_ble_eq_true rfl) (fun X hX hN => ?_)
  show X 0 [_, _] [] N 1000000 g
  obtain ⟨h0, h1, h2, h3, h4⟩ := hh
  refine ca_aload_n hX (q := 1) 0 rfl rfl rfl dX1_worthOf_0 ?_
  refine ca_iload_n hX (q := 2) 1 rfl rfl rfl dX1_worthOf_1 ?_
  refine ca_cVi hX (q := 5) y_X1_kindOf w_ml_X1_41 (by omega) hN h0 (c_X1_kindOf l N g b h ⟨h0, h1, h2, h3, h4⟩ hb r hr) (by decide) rfl (by decide) rfl dX1_worthOf_2 rfl ?_
  refine ca_aload_n hX (q := 6) 0 rfl rfl rfl dX1_worthOf_5 ?_
  refine ca_iload_n hX (q := 7) 1 rfl rfl rfl dX1_worthOf_6 ?_
  refine ca_cVi hX (q := 10) y_X1_figureOf w_ml_X1_53 (by omega) hN h0 (c_X1_figureOf l N g b h ⟨h0, h1, h2, h3, h4⟩ hb r hr) (by decide) rfl (Nat.le_of_ble_eq_true rfl) rfl dX1_worthOf_7 rfl ?_
  refine ca_cSi hX (q := 13) y_X2_worth w_ml_X1_56 hN (c_X2_worth l N g _ _) (by decide) rfl (by decide) rfl dX1_worthOf_10 rfl ?_
  refine ca_iret hX rfl rfl rfl rfl dX1_worthOf_13 ?_
  exact ⟨rfl, rfl⟩

set_option maxRecDepth 100000 in
set_option maxHeartbeats 4000000 in
theorem c_X1_sharpOf (l : Launch) (N : Nat) (g : ca_G) (b : Nat) (h : Nat → Int32) (hh : hsG g b h) (hb : b + 5 ≤ N) (P : Nat) (hP : h 0 = nI P) (hP5 : P ≤ 5) (p : Nat) (hp : p < P) : ca_Ct l yX1_sharpOf cX1_sharpOf 2 (some .int) 1 0 0 N 1000000 [.ref b, .int (nI p)] g (ca_pi (h (52 + p)) g) := by
  refine ca_intro (by decide) (Nat.le_of_ble_eq_true rfl) (fun X hX hN => ?_)
  show X 0 [_, _] [] N 1000000 g
  obtain ⟨h0, h1, h2, h3, h4⟩ := hh
  refine ca_aload_n hX (q := 1) 0 rfl rfl rfl dX1_sharpOf_0 ?_
  refine ca_iload_n hX (q := 2) 1 rfl rfl rfl dX1_sharpOf_1 ?_
  refine ca_cVi hX (q := 5) y_X1_hasPerson w_ml_X1_60 (by omega) hN h0 (c_X1_hasPerson l N g b h ⟨h0, h1, h2, h3, h4⟩ hb (nI p)) (by decide) rfl (by decide) rfl dX1_sharpOf_2 rfl ?_
  refine ca_if_eq hX (q := 8) 17 rfl rfl dX1_sharpOf_5 (fun z => absurd z (by rw [hpB_ok hP hP5 hp]; decide)) (fun _ => ?_)
  refine ca_aload_n hX (q := 9) 0 rfl rfl rfl dX1_sharpOf_8 ?_
  refine ca_getf hX (q := 12) cl_X1 2 (by decide) w_fl_X1_18 (by omega) h0 rfl rfl dX1_sharpOf_9 ?_
  refine ca_iload_n hX (q := 13) 1 rfl rfl rfl dX1_sharpOf_12 ?_
  refine ca_iaN hX (q := 14) (k := p) (by omega) h3 (by decide) rfl (by omega) rfl dX1_sharpOf_13 ?_
  refine ca_goto hX 19 rfl dX1_sharpOf_14 ?_
  refine ca_iret hX rfl rfl rfl rfl dX1_sharpOf_19 ?_
  exact ⟨by rw [msk_in (by omega)], rfl⟩

set_option maxRecDepth 100000 in
set_option maxHeartbeats 4000000 in
theorem c_X1_knownBy (l : Launch) (N : Nat) (g : ca_G) (b : Nat) (h : Nat → Int32) (hh : hsG g b h) (hb : b + 5 ≤ N) (P : Nat) (hP : h 0 = nI P) (hP5 : P ≤ 5) (p r : Nat) (hp : p < P) (hr : r < 25) : ca_Ct l yX1_knownBy cX1_knownBy 3 (some .int) 1 0 0 N 1000000 [.ref b, .int (nI p), .int (nI r)] g (ca_pi (knH h p r) g) := by
  refine ca_intro (by decide) (Nat.le_of_ble_eq_true rfl) (fun X hX hN => ?_)
  show X 0 [_, _, _] [] N 1000000 g
  obtain ⟨h0, h1, h2, h3, h4⟩ := hh
  refine ca_aload_n hX (q := 1) 0 rfl rfl rfl dX1_knownBy_0 ?_
  refine ca_iload_n hX (q := 2) 1 rfl rfl rfl dX1_knownBy_1 ?_
  refine ca_cVi hX (q := 5) y_X1_hasPerson w_ml_X1_60 (by omega) hN h0 (c_X1_hasPerson l N g b h ⟨h0, h1, h2, h3, h4⟩ hb (nI p)) (by decide) rfl (by decide) rfl dX1_knownBy_2 rfl ?_
  refine ca_if_eq hX (q := 8) 29 rfl rfl dX1_knownBy_5 (fun z => absurd z (by rw [hpB_ok hP hP5 hp]; decide)) (fun _ => ?_)
  refine ca_iload_n hX (q := 9) 2 rfl rfl rfl dX1_knownBy_8 ?_
  refine ca_cSNi hX (q := 12) y_X5_isRoom w_mn_X1_37 hN (c_X5_isRoom l N g (nI r)) (by decide) rfl (by decide) rfl dX1_knownBy_9 rfl ?_
  refine ca_if_eq hX (q := 15) 29 rfl rfl dX1_knownBy_12 (fun z => absurd z (by rw [rmB_ok hr]; decide)) (fun _ => ?_)
  refine ca_aload_n hX (q := 16) 0 rfl rfl rfl dX1_knownBy_15 ?_
  refine ca_getf hX (q := 19) cl_X1 3 (by decide) w_fl_X1_21 (by omega) h0 rfl rfl dX1_knownBy_16 ?_
  refine ca_iload_n hX (q := 20) 1 rfl rfl rfl dX1_knownBy_19 ?_
  refine ca_bipush hX (q := 22) k_bipush_25 rfl dX1_knownBy_20 ?_
  refine ca_imul hX (q := 23) rfl dX1_knownBy_22 ?_
  refine ca_iload_n hX (q := 24) 2 rfl rfl rfl dX1_knownBy_23 ?_
  refine ca_iadd hX (q := 25) rfl dX1_knownBy_24 ?_
  refine ca_iaN hX (q := 26) (k := 25 * p + r) (by omega) h4 (by decide) (ixK (by omega) hr) (by omega) rfl dX1_knownBy_25 ?_
  refine ca_goto hX 31 rfl dX1_knownBy_26 ?_
  refine ca_iret hX rfl rfl rfl rfl dX1_knownBy_31 ?_
  exact ⟨by rw [msk_in (by omega)]; rfl, rfl⟩

set_option maxRecDepth 100000 in
set_option maxHeartbeats 4000000 in
theorem c_X1_put (l : Launch) (N : Nat) (g : ca_G) (b : Nat) (h : Nat → Int32) (hh : hsG g b h) (hb : b + 5 ≤ N) (r : Nat) (hr : r < 25) (k f : Int32) : ca_Ct l yX1_put cX1_put 4 none 1 0 0 N 1000000 [.ref b, .int (nI r), .int k, .int f] g (fun rr g' => rr = none ∧ hsG g' b (upd (upd h (2 + r) k) (27 + r) f) ∧ frG g g' b (b + 5)) := by
  refine ca_intro (by decide) (Nat.le_of_ble_eq_true rfl) (fun X hX hN => ?_)
  show X 0 [_, _, _, _] [] N 1000000 g
  obtain ⟨h0, h1, h2, h3, h4⟩ := hh
  have hfr : ∀ j, (j < b ∨ b + 5 ≤ j) → g j = g j := fun _ _ => rfl
  refine ca_iload_n hX (q := 1) 1 rfl rfl rfl dX1_put_0 ?_
  refine ca_cSNi hX (q := 4) y_X5_isRoom w_mn_X1_37 hN (c_X5_isRoom l N g (nI r)) (by decide) rfl (by decide) rfl dX1_put_1 rfl ?_
  refine ca_if_eq hX (q := 7) 21 rfl rfl dX1_put_4 (fun z => absurd z (by rw [rmB_ok hr]; decide)) (fun _ => ?_)
  refine ca_aload_n hX (q := 8) 0 rfl rfl rfl dX1_put_7 ?_
  refine ca_getf hX (q := 11) cl_X1 0 (by decide) w_fl_X1_9 (by omega) h0 rfl rfl dX1_put_8 ?_
  refine ca_iload_n hX (q := 12) 1 rfl rfl rfl dX1_put_11 ?_
  refine ca_iload_n hX (q := 13) 2 rfl rfl rfl dX1_put_12 ?_
  refine ca_iaS hX (q := 14) (k := r) (by omega) hN (Nat.le_refl _) h1 (by decide) rfl (by omega) rfl dX1_put_13 (fun g hE hF => ?_)
  have h0 := (hF b (by omega)).trans h0
  have h1 := hE
  have h2 := (hF (b + 2) (by omega)).trans h2
  have h3 := (hF (b + 3) (by omega)).trans h3
  have h4 := (hF (b + 4) (by omega)).trans h4
  have hfr := fun j (hj : j < b ∨ b + 5 ≤ j) => (hF j (by omega)).trans (hfr j hj)
  refine ca_aload_n hX (q := 15) 0 rfl rfl rfl dX1_put_14 ?_
  refine ca_getf hX (q := 18) cl_X1 1 (by decide) w_fl_X1_15 (by omega) h0 rfl rfl dX1_put_15 ?_
  refine ca_iload_n hX (q := 19) 1 rfl rfl rfl dX1_put_18 ?_
  refine ca_iload_n hX (q := 20) 3 rfl rfl rfl dX1_put_19 ?_
  refine ca_iaS hX (q := 21) (k := r) (by omega) hN (Nat.le_refl _) h2 (by decide) rfl (by omega) rfl dX1_put_20 (fun g hE hF => ?_)
  have h0 := (hF b (by omega)).trans h0
  have h1 := (hF (b + 1) (by omega)).trans h1
  have h2 := hE
  have h3 := (hF (b + 3) (by omega)).trans h3
  have h4 := (hF (b + 4) (by omega)).trans h4
  have hfr := fun j (hj : j < b ∨ b + 5 ≤ j) => (hF j (by omega)).trans (hfr j hj)
  refine ca_vret hX rfl rfl rfl rfl dX1_put_21 ?_
  refine ⟨rfl, ⟨?_, ?_, ?_, ?_, ?_⟩, hfr⟩
  · rw [h0, upd_n _ _ (by omega), upd_n _ _ (by omega), upd_n _ _ (by omega), upd_n _ _ (by omega)]
  · rw [h1, msk_upd hr]; exact congrArg (fun f => Sum.inl (25, f)) (msk_ext fun j hj => by rw [upd_n _ _ (show 2 + j ≠ 27 + r by omega)])
  · rw [h2, msk_upd hr]; exact congrArg (fun f => Sum.inl (25, f)) (msk_ext fun j hj => by
      by_cases e : 27 + j = 27 + r
      · rw [e, upd_s, upd_s]
      · rw [upd_n _ _ e, upd_n _ _ e, upd_n _ _ (by omega)])
  · rw [h3]; exact congrArg (fun f => Sum.inl (5, f)) (msk_ext fun j hj => by rw [upd_n _ _ (by omega), upd_n _ _ (by omega)])
  · rw [h4]; exact congrArg (fun f => Sum.inl (125, f)) (msk_ext fun j hj => by rw [upd_n _ _ (by omega), upd_n _ _ (by omega)])

set_option maxRecDepth 100000 in
set_option maxHeartbeats 4000000 in
theorem c_X1_sharpen (l : Launch) (N : Nat) (g : ca_G) (b : Nat) (h : Nat → Int32) (hh : hsG g b h) (hb : b + 5 ≤ N) (P : Nat) (hP : h 0 = nI P) (hP5 : P ≤ 5) (p : Nat) (hp : p < P) (v : Int32) : ca_Ct l yX1_sharpen cX1_sharpen 3 none 1 0 0 N 1000000 [.ref b, .int (nI p), .int v] g (fun rr g' => rr = none ∧ hsG g' b (upd h (52 + p) v) ∧ frG g g' b (b + 5)) := by
  refine ca_intro (by decide) (Nat.le_of_ble_eq_true rfl) (fun X hX hN => ?_)
  show X 0 [_, _, _] [] N 1000000 g
  obtain ⟨h0, h1, h2, h3, h4⟩ := hh
  have hfr : ∀ j, (j < b ∨ b + 5 ≤ j) → g j = g j := fun _ _ => rfl
  refine ca_aload_n hX (q := 1) 0 rfl rfl rfl dX1_sharpen_0 ?_
  refine ca_iload_n hX (q := 2) 1 rfl rfl rfl dX1_sharpen_1 ?_
  refine ca_cVi hX (q := 5) y_X1_hasPerson w_ml_X1_60 (by omega) hN h0 (c_X1_hasPerson l N g b h ⟨h0, h1, h2, h3, h4⟩ hb (nI p)) (by decide) rfl (by decide) rfl dX1_sharpen_2 rfl ?_
  refine ca_if_eq hX (q := 8) 15 rfl rfl dX1_sharpen_5 (fun z => absurd z (by rw [hpB_ok hP hP5 hp]; decide)) (fun _ => ?_)
  refine ca_aload_n hX (q := 9) 0 rfl rfl rfl dX1_sharpen_8 ?_
  refine ca_getf hX (q := 12) cl_X1 2 (by decide) w_fl_X1_18 (by omega) h0 rfl rfl dX1_sharpen_9 ?_
  refine ca_iload_n hX (q := 13) 1 rfl rfl rfl dX1_sharpen_12 ?_
  refine ca_iload_n hX (q := 14) 2 rfl rfl rfl dX1_sharpen_13 ?_
  refine ca_iaS hX (q := 15) (k := p) (by omega) hN (Nat.le_refl _) h3 (by decide) rfl (by omega) rfl dX1_sharpen_14 (fun g hE hF => ?_)
  have h0 := (hF b (by omega)).trans h0
  have h1 := (hF (b + 1) (by omega)).trans h1
  have h2 := (hF (b + 2) (by omega)).trans h2
  have h3 := hE
  have h4 := (hF (b + 4) (by omega)).trans h4
  have hfr := fun j (hj : j < b ∨ b + 5 ≤ j) => (hF j (by omega)).trans (hfr j hj)
  refine ca_vret hX rfl rfl rfl rfl dX1_sharpen_15 ?_
  refine ⟨rfl, ⟨?_, ?_, ?_, ?_, ?_⟩, hfr⟩
  · rw [h0, upd_n _ _ (by omega), upd_n _ _ (by omega)]
  · rw [h1]; exact congrArg (fun f => Sum.inl (25, f)) (msk_ext fun j hj => by rw [upd_n _ _ (by omega)])
  · rw [h2]; exact congrArg (fun f => Sum.inl (25, f)) (msk_ext fun j hj => by rw [upd_n _ _ (by omega)])
  · rw [h3, msk_upd (by omega)]
  · rw [h4]; exact congrArg (fun f => Sum.inl (125, f)) (msk_ext fun j hj => by rw [upd_n _ _ (by omega)])

set_option maxRecDepth 100000 in
set_option maxHeartbeats 4000000 in
theorem c_X1_learn (l : Launch) (N : Nat) (g : ca_G) (b : Nat) (h : Nat → Int32) (hh : hsG g b h) (hb : b + 5 ≤ N) (P : Nat) (hP : h 0 = nI P) (hP5 : P ≤ 5) (p r : Nat) (hp : p < P) (hr : r < 25) (v : Int32) : ca_Ct l yX1_learn cX1_learn 4 none 1 0 0 N 1000000 [.ref b, .int (nI p), .int (nI r), .int v] g (fun rr g' => rr = none ∧ hsG g' b (upd h (57 + (25 * p + r)) v) ∧ frG g g' b (b + 5)) := by
  refine ca_intro (by decide) (Nat.le_of_ble_eq_true rfl) (fun X hX hN => ?_)
  show X 0 [_, _, _, _] [] N 1000000 g
  obtain ⟨h0, h1, h2, h3, h4⟩ := hh
  have hfr : ∀ j, (j < b ∨ b + 5 ≤ j) → g j = g j := fun _ _ => rfl
  refine ca_aload_n hX (q := 1) 0 rfl rfl rfl dX1_learn_0 ?_
  refine ca_iload_n hX (q := 2) 1 rfl rfl rfl dX1_learn_1 ?_
  refine ca_cVi hX (q := 5) y_X1_hasPerson w_ml_X1_60 (by omega) hN h0 (c_X1_hasPerson l N g b h ⟨h0, h1, h2, h3, h4⟩ hb (nI p)) (by decide) rfl (by decide) rfl dX1_learn_2 rfl ?_
  refine ca_if_eq hX (q := 8) 27 rfl rfl dX1_learn_5 (fun z => absurd z (by rw [hpB_ok hP hP5 hp]; decide)) (fun _ => ?_)
  refine ca_iload_n hX (q := 9) 2 rfl rfl rfl dX1_learn_8 ?_
  refine ca_cSNi hX (q := 12) y_X5_isRoom w_mn_X1_37 hN (c_X5_isRoom l N g (nI r)) (by decide) rfl (by decide) rfl dX1_learn_9 rfl ?_
  refine ca_if_eq hX (q := 15) 27 rfl rfl dX1_learn_12 (fun z => absurd z (by rw [rmB_ok hr]; decide)) (fun _ => ?_)
  refine ca_aload_n hX (q := 16) 0 rfl rfl rfl dX1_learn_15 ?_
  refine ca_getf hX (q := 19) cl_X1 3 (by decide) w_fl_X1_21 (by omega) h0 rfl rfl dX1_learn_16 ?_
  refine ca_iload_n hX (q := 20) 1 rfl rfl rfl dX1_learn_19 ?_
  refine ca_bipush hX (q := 22) k_bipush_25 rfl dX1_learn_20 ?_
  refine ca_imul hX (q := 23) rfl dX1_learn_22 ?_
  refine ca_iload_n hX (q := 24) 2 rfl rfl rfl dX1_learn_23 ?_
  refine ca_iadd hX (q := 25) rfl dX1_learn_24 ?_
  refine ca_iload_n hX (q := 26) 3 rfl rfl rfl dX1_learn_25 ?_
  refine ca_iaS hX (q := 27) (k := 25 * p + r) (by omega) hN (Nat.le_refl _) h4 (by decide) (ixK (by omega) hr) (by omega) rfl dX1_learn_26 (fun g hE hF => ?_)
  have h0 := (hF b (by omega)).trans h0
  have h1 := (hF (b + 1) (by omega)).trans h1
  have h2 := (hF (b + 2) (by omega)).trans h2
  have h3 := (hF (b + 3) (by omega)).trans h3
  have h4 := hE
  have hfr := fun j (hj : j < b ∨ b + 5 ≤ j) => (hF j (by omega)).trans (hfr j hj)
  refine ca_vret hX rfl rfl rfl rfl dX1_learn_27 ?_
  refine ⟨rfl, ⟨?_, ?_, ?_, ?_, ?_⟩, hfr⟩
  · rw [h0, upd_n _ _ (by omega), upd_n _ _ (by omega)]
  · rw [h1]; exact congrArg (fun f => Sum.inl (25, f)) (msk_ext fun j hj => by rw [upd_n _ _ (by omega)])
  · rw [h2]; exact congrArg (fun f => Sum.inl (25, f)) (msk_ext fun j hj => by rw [upd_n _ _ (by omega)])
  · rw [h3]; exact congrArg (fun f => Sum.inl (5, f)) (msk_ext fun j hj => by rw [upd_n _ _ (by omega)])
  · rw [h4, msk_upd (by omega)]
end
section
/-! loops over a house -/
def sayM (h : Nat → Int32) (p : Nat) : Nat → Int32
  | 0 => 0
  | n + 1 => if knH h p n < ndH h n then sayM h p n else sayM h p n ||| (1 <<< (nI n &&& 31))
def andM (f : Nat → Int32) (a : Int32) : Nat → Int32
  | 0 => a
  | n + 1 => andM f a n &&& f n
def orM (f : Nat → Int32) : Nat → Int32
  | 0 => 0
  | n + 1 => orM f n ||| f n
def sureM (h : Nat → Int32) (P : Nat) : Int32 := bcI (andM (fun p => sayM h p 25) (if h 0 = 0 then 0 else 33554431) P)
def someM (h : Nat → Int32) (P : Nat) : Int32 := bcI (orM (fun p => sayM h p 25) P)
def wallM (h : Nat → Int32) (r : Nat) : Int32 := if kdH h r = 4 ∨ kdH h r = 5 then 1 else 0
def dcI (x : Int32) : Int32 := if 0 < x - 1 then x - 1 else 0
def fgM (h : Nat → Int32) (p n : Nat) : Nat → Int32 := fun j => if 57 + 25 * p ≤ j ∧ j < 57 + 25 * p + n then dcI (h j) else h j
theorem fgM_0 (h : Nat → Int32) (p : Nat) : fgM h p 0 = h := by
  funext j; unfold fgM; rw [if_neg (by omega)]
theorem fgM_s (h : Nat → Int32) (p n : Nat) : upd (fgM h p n) (57 + (25 * p + n)) (dcI (fgM h p n (57 + (25 * p + n)))) = fgM h p (n + 1) := by
  funext j
  by_cases e : j = 57 + (25 * p + n)
  · subst e; rw [upd_s]; unfold fgM; rw [if_neg (by omega), if_pos (by omega)]
  · rw [upd_n _ _ e]; unfold fgM
    by_cases q : 57 + 25 * p ≤ j ∧ j < 57 + 25 * p + n
    · rw [if_pos q, if_pos (by omega)]
    · rw [if_neg q, if_neg (by omega)]
theorem fgM_lo (h : Nat → Int32) (p n : Nat) {j : Nat} (hj : j < 57) : fgM h p n j = h j := by unfold fgM; rw [if_neg (by omega)]
/-- those whose turn it is forget, one by one; the night is told already -/
def ngM (h : Nat → Int32) : Nat → (Nat → Int32)
  | 0 => h
  | p + 1 => if ngM h p (52 + p) ≤ 0 then ngM h p else if ¬ (ngM h p 1 - ngM h p 1 / ngM h p (52 + p) * ngM h p (52 + p) = 0) then ngM h p else fgM (ngM h p) p 25
theorem ngM_lo (h : Nat → Int32) {j : Nat} (hj : j < 57) : ∀ p, ngM h p j = h j
  | 0 => rfl
  | p + 1 => by
    rw [ngM]
    split
    · exact ngM_lo h hj p
    · split
      · exact ngM_lo h hj p
      · rw [fgM_lo _ _ _ hj]; exact ngM_lo h hj p
def nsM (P : Nat) (h : Nat → Int32) : Nat → Int32 := ngM (upd h 1 (h 1 + 1)) P
def pnM (P : Nat) (h : Nat → Int32) : Nat → (Nat → Int32)
  | 0 => h
  | n + 1 => nsM P (pnM P h n)
theorem nsM_0 (P : Nat) (h : Nat → Int32) : nsM P h 0 = h 0 := by unfold nsM; rw [ngM_lo _ (by omega), upd_n _ _ (by omega)]
theorem pnM_0 (P : Nat) (h : Nat → Int32) : ∀ n, pnM P h n 0 = h 0
  | 0 => rfl
  | n + 1 => by rw [pnM, nsM_0]; exact pnM_0 P h n
def tkM (h : Nat → Int32) (P : Nat) (v : Int32) (n : Nat) : Nat → Int32 := fun j => if j = 0 then nI (P + 1) else if j = 52 + P then v else if 57 + 25 * P ≤ j ∧ j < 57 + 25 * P + n then 0 else h j

set_option maxRecDepth 100000 in
set_option maxHeartbeats 4000000 in
theorem c_X1_allWorth (l : Launch) (N : Nat) (g : ca_G) (b : Nat) (h : Nat → Int32) (hh : hsG g b h) (hb : b + 5 ≤ N) : ca_Ct l yX1_allWorth cX1_allWorth 3 (some .int) 3 0 0 N 1000000 [.ref b] g (ca_pi (smI (wtH h) 25) g) := by
  refine ca_intro (by decide) (Nat.le_of_ble_eq_true rfl) (fun X hX hN => ?_)
  show X 0 [_, none, none] [] N 1000000 g
  obtain ⟨h0, h1, h2, h3, h4⟩ := id hh
  have loop : ∀ (n i : Nat), i + n = 25 → X 4 [some (.ref b), some (.int (smI (wtH h) i)), some (.int (nI i))] [] N 1000000 g := by
    intro n
    induction n with
    | zero =>
      intro i hi
      obtain rfl : i = 25 := by omega
      refine ca_iload_n hX (q := 5) 2 rfl rfl rfl dX1_allWorth_4 ?_
      refine ca_bipush hX (q := 7) k_bipush_25 rfl dX1_allWorth_5 ?_
      refine ca_icmp_ge hX (q := 10) 24 rfl rfl dX1_allWorth_7 (fun _ => ?_) (fun z => absurd (nI_le (a := 25) (b := 25) (by omega) (by omega)) z)
      refine ca_iload_n hX (q := 25) 1 rfl rfl rfl dX1_allWorth_24 ?_
      refine ca_iret hX rfl rfl rfl rfl dX1_allWorth_25 ?_
      exact ⟨rfl, rfl⟩
    | succ n ih =>
      intro i hi
      refine ca_iload_n hX (q := 5) 2 rfl rfl rfl dX1_allWorth_4 ?_
      refine ca_bipush hX (q := 7) k_bipush_25 rfl dX1_allWorth_5 ?_
      refine ca_icmp_ge hX (q := 10) 24 rfl rfl dX1_allWorth_7 (fun z => absurd z (nI_ge (a := i) (b := 25) (by omega) (by omega))) (fun _ => ?_)
      refine ca_iload_n hX (q := 11) 1 rfl rfl rfl dX1_allWorth_10 ?_
      refine ca_aload_n hX (q := 12) 0 rfl rfl rfl dX1_allWorth_11 ?_
      refine ca_iload_n hX (q := 13) 2 rfl rfl rfl dX1_allWorth_12 ?_
      refine ca_cVi hX (q := 16) y_X1_worthOf w_ml_X1_92 (by omega) hN h0 (c_X1_worthOf l N g b h hh hb i (by omega)) (by decide) rfl (Nat.le_of_ble_eq_true rfl) rfl dX1_allWorth_13 rfl ?_
      refine ca_iadd hX (q := 17) rfl dX1_allWorth_16 ?_
      refine ca_istore_n hX (q := 18) 1 rfl (ls' := [_, _, _]) (Nat.le_of_ble_eq_true rfl) (Nat.le_of_ble_eq_true rfl) (Or.inr rfl) rfl rfl dX1_allWorth_17 ?_
      refine ca_iinc hX (q := 21) (ls' := [_, _, _]) k_iconst_1 rfl (Nat.le_of_ble_eq_true rfl) (Or.inr rfl) rfl rfl dX1_allWorth_18 ?_
      refine ca_goto hX 4 rfl dX1_allWorth_21 ?_
      rw [nI_1]
      exact ih (i + 1) (by omega)
  refine ca_iconst hX (q := 1) k_iconst_0 rfl dX1_allWorth_0 ?_
  refine ca_istore_n hX (q := 2) 1 rfl (ls' := [_, _, _]) (Nat.le_of_ble_eq_true rfl) (Nat.le_of_ble_eq_true rfl) (Or.inr rfl) rfl rfl dX1_allWorth_1 ?_
  refine ca_iconst hX (q := 3) k_iconst_0 rfl dX1_allWorth_2 ?_
  refine ca_istore_n hX (q := 4) 2 rfl (ls' := [_, _, _]) (Nat.le_of_ble_eq_true rfl) (Nat.le_of_ble_eq_true rfl) (Or.inr rfl) rfl rfl dX1_allWorth_3 ?_
  exact loop 25 0 (by omega)

set_option maxRecDepth 100000 in
set_option maxHeartbeats 4000000 in
theorem c_X1_walls (l : Launch) (N : Nat) (g : ca_G) (b : Nat) (h : Nat → Int32) (hh : hsG g b h) (hb : b + 5 ≤ N) : ca_Ct l yX1_walls cX1_walls 3 (some .int) 2 0 0 N 1000000 [.ref b] g (ca_pi (smI (wallM h) 25) g) := by
  refine ca_intro (by decide) (Nat.le_of_ble_eq_true rfl) (fun X hX hN => ?_)
  show X 0 [_, none, none] [] N 1000000 g
  obtain ⟨h0, h1, h2, h3, h4⟩ := id hh
  have loop : ∀ (n i : Nat), i + n = 25 → X 4 [some (.ref b), some (.int (smI (wallM h) i)), some (.int (nI i))] [] N 1000000 g := by
    intro n
    induction n with
    | zero =>
      intro i hi
      obtain rfl : i = 25 := by omega
      refine ca_iload_n hX (q := 5) 2 rfl rfl rfl dX1_walls_4 ?_
      refine ca_bipush hX (q := 7) k_bipush_25 rfl dX1_walls_5 ?_
      refine ca_icmp_ge hX (q := 10) 37 rfl rfl dX1_walls_7 (fun _ => ?_) (fun z => absurd (nI_le (a := 25) (b := 25) (by omega) (by omega)) z)
      refine ca_iload_n hX (q := 38) 1 rfl rfl rfl dX1_walls_37 ?_
      refine ca_iret hX rfl rfl rfl rfl dX1_walls_38 ?_
      exact ⟨rfl, rfl⟩
    | succ n ih =>
      intro i hi
      refine ca_iload_n hX (q := 5) 2 rfl rfl rfl dX1_walls_4 ?_
      refine ca_bipush hX (q := 7) k_bipush_25 rfl dX1_walls_5 ?_
      refine ca_icmp_ge hX (q := 10) 37 rfl rfl dX1_walls_7 (fun z => absurd z (nI_ge (a := i) (b := 25) (by omega) (by omega))) (fun _ => ?_)
      refine ca_aload_n hX (q := 11) 0 rfl rfl rfl dX1_walls_10 ?_
      refine ca_iload_n hX (q := 12) 2 rfl rfl rfl dX1_walls_11 ?_
      refine ca_cVi hX (q := 15) y_X1_kindOf w_ml_X1_41 (by omega) hN h0 (c_X1_kindOf l N g b h hh hb i (by omega)) (by decide) rfl (by decide) rfl dX1_walls_12 rfl ?_
      refine ca_iconst hX (q := 16) k_iconst_4 rfl dX1_walls_15 ?_
      refine ca_icmp_eq hX (q := 19) 28 rfl rfl dX1_walls_16 (fun c16 => ?_) (fun c16 => ?_)
      · refine ca_iinc hX (q := 31) (ls' := [_, _, _]) k_iconst_1 rfl (Nat.le_of_ble_eq_true rfl) (Or.inr rfl) rfl rfl dX1_walls_28 ?_
        refine ca_iinc hX (q := 34) (ls' := [_, _, _]) k_iconst_1 rfl (Nat.le_of_ble_eq_true rfl) (Or.inr rfl) rfl rfl dX1_walls_31 ?_
        refine ca_goto hX 4 rfl dX1_walls_34 ?_
        rw [nI_1, show smI (wallM h) i + 1 = smI (wallM h) (i + 1) by rw [smI, wallM, if_pos (by simp [*])]]
        exact ih (i + 1) (by omega)
      · refine ca_aload_n hX (q := 20) 0 rfl rfl rfl dX1_walls_19 ?_
        refine ca_iload_n hX (q := 21) 2 rfl rfl rfl dX1_walls_20 ?_
        refine ca_cVi hX (q := 24) y_X1_kindOf w_ml_X1_41 (by omega) hN h0 (c_X1_kindOf l N g b h hh hb i (by omega)) (by decide) rfl (by decide) rfl dX1_walls_21 rfl ?_
        refine ca_iconst hX (q := 25) k_iconst_5 rfl dX1_walls_24 ?_
        refine ca_icmp_ne hX (q := 28) 31 rfl rfl dX1_walls_25 (fun c25 => ?_) (fun c25 => ?_)
        · refine ca_iinc hX (q := 34) (ls' := [_, _, _]) k_iconst_1 rfl (Nat.le_of_ble_eq_true rfl) (Or.inr rfl) rfl rfl dX1_walls_31 ?_
          refine ca_goto hX 4 rfl dX1_walls_34 ?_
          rw [nI_1, show smI (wallM h) i = smI (wallM h) (i + 1) by rw [smI, wallM, if_neg (by simp [*])]; simp]
          exact ih (i + 1) (by omega)
        · refine ca_iinc hX (q := 31) (ls' := [_, _, _]) k_iconst_1 rfl (Nat.le_of_ble_eq_true rfl) (Or.inr rfl) rfl rfl dX1_walls_28 ?_
          refine ca_iinc hX (q := 34) (ls' := [_, _, _]) k_iconst_1 rfl (Nat.le_of_ble_eq_true rfl) (Or.inr rfl) rfl rfl dX1_walls_31 ?_
          refine ca_goto hX 4 rfl dX1_walls_34 ?_
          rw [nI_1, show smI (wallM h) i + 1 = smI (wallM h) (i + 1) by rw [smI, wallM, if_pos (by simp [*])]]
          exact ih (i + 1) (by omega)
  refine ca_iconst hX (q := 1) k_iconst_0 rfl dX1_walls_0 ?_
  refine ca_istore_n hX (q := 2) 1 rfl (ls' := [_, _, _]) (Nat.le_of_ble_eq_true rfl) (Nat.le_of_ble_eq_true rfl) (Or.inr rfl) rfl rfl dX1_walls_1 ?_
  refine ca_iconst hX (q := 3) k_iconst_0 rfl dX1_walls_2 ?_
  refine ca_istore_n hX (q := 4) 2 rfl (ls' := [_, _, _]) (Nat.le_of_ble_eq_true rfl) (Nat.le_of_ble_eq_true rfl) (Or.inr rfl) rfl rfl dX1_walls_3 ?_
  exact loop 25 0 (by omega)

set_option maxRecDepth 100000 in
set_option maxHeartbeats 4000000 in
theorem c_X1_roomsSayableBy (l : Launch) (N : Nat) (g : ca_G) (b : Nat) (h : Nat → Int32) (hh : hsG g b h) (hb : b + 5 ≤ N) (P : Nat) (hP : h 0 = nI P) (hP5 : P ≤ 5) (p : Nat) (hp : p < P) : ca_Ct l yX1_roomsSayableBy cX1_roomsSayableBy 4 (some .int) 1 0 0 N 1000000 [.ref b, .int (nI p)] g (ca_pi (sayM h p 25) g) := by
  refine ca_intro (by decide) (Nat.le_of_ble_eq_true rfl) (fun X hX hN => ?_)
  show X 0 [_, _, none, none] [] N 1000000 g
  obtain ⟨h0, h1, h2, h3, h4⟩ := id hh
  have loop : ∀ (n i : Nat), i + n = 25 → X 14 [some (.ref b), some (.int (nI p)), some (.int (sayM h p i)), some (.int (nI i))] [] N 1000000 g := by
    intro n
    induction n with
    | zero =>
      intro i hi
      obtain rfl : i = 25 := by omega
      refine ca_iload_n hX (q := 15) 3 rfl rfl rfl dX1_roomsSayableBy_14 ?_
      refine ca_bipush hX (q := 17) k_bipush_25 rfl dX1_roomsSayableBy_15 ?_
      refine ca_icmp_ge hX (q := 20) 55 rfl rfl dX1_roomsSayableBy_17 (fun _ => ?_) (fun z => absurd (nI_le (a := 25) (b := 25) (by omega) (by omega)) z)
      refine ca_iload_n hX (q := 56) 2 rfl rfl rfl dX1_roomsSayableBy_55 ?_
      refine ca_iret hX rfl rfl rfl rfl dX1_roomsSayableBy_56 ?_
      exact ⟨rfl, rfl⟩
    | succ n ih =>
      intro i hi
      refine ca_iload_n hX (q := 15) 3 rfl rfl rfl dX1_roomsSayableBy_14 ?_
      refine ca_bipush hX (q := 17) k_bipush_25 rfl dX1_roomsSayableBy_15 ?_
      refine ca_icmp_ge hX (q := 20) 55 rfl rfl dX1_roomsSayableBy_17 (fun z => absurd z (nI_ge (a := i) (b := 25) (by omega) (by omega))) (fun _ => ?_)
      refine ca_aload_n hX (q := 21) 0 rfl rfl rfl dX1_roomsSayableBy_20 ?_
      refine ca_getf hX (q := 24) cl_X1 3 (by decide) w_fl_X1_21 (by omega) h0 rfl rfl dX1_roomsSayableBy_21 ?_
      refine ca_iload_n hX (q := 25) 1 rfl rfl rfl dX1_roomsSayableBy_24 ?_
      refine ca_bipush hX (q := 27) k_bipush_25 rfl dX1_roomsSayableBy_25 ?_
      refine ca_imul hX (q := 28) rfl dX1_roomsSayableBy_27 ?_
      refine ca_iload_n hX (q := 29) 3 rfl rfl rfl dX1_roomsSayableBy_28 ?_
      refine ca_iadd hX (q := 30) rfl dX1_roomsSayableBy_29 ?_
      refine ca_iaN hX (q := 31) (k := 25 * p + i) (by omega) h4 (by decide) (ixK (by omega) (by omega)) (by omega) rfl dX1_roomsSayableBy_30 ?_
      refine ca_aload_n hX (q := 32) 0 rfl rfl rfl dX1_roomsSayableBy_31 ?_
      refine ca_getf hX (q := 35) cl_X1 0 (by decide) w_fl_X1_9 (by omega) h0 rfl rfl dX1_roomsSayableBy_32 ?_
      refine ca_iload_n hX (q := 36) 3 rfl rfl rfl dX1_roomsSayableBy_35 ?_
      refine ca_iaN hX (q := 37) (k := i) (by omega) h1 (by decide) rfl (by omega) rfl dX1_roomsSayableBy_36 ?_
      refine ca_cSi hX (q := 40) y_X2_needs w_ml_X1_45 hN (c_X2_needs l N g _) (by decide) rfl (Nat.le_of_ble_eq_true rfl) rfl dX1_roomsSayableBy_37 rfl ?_
      refine ca_icmp_lt hX (q := 43) 49 rfl rfl dX1_roomsSayableBy_40 (fun c40 => ?_) (fun c40 => ?_)
      · refine ca_iinc hX (q := 52) (ls' := [_, _, _, _]) k_iconst_1 rfl (Nat.le_of_ble_eq_true rfl) (Or.inr rfl) rfl rfl dX1_roomsSayableBy_49 ?_
        refine ca_goto hX 14 rfl dX1_roomsSayableBy_52 ?_
        have c40 : knH h p i < ndH h i := by rw [msk_in (by omega), msk_in (by omega)] at c40; exact c40
        rw [nI_1, show sayM h p i = sayM h p (i + 1) by rw [sayM, if_pos c40]]
        exact ih (i + 1) (by omega)
      · refine ca_iload_n hX (q := 44) 2 rfl rfl rfl dX1_roomsSayableBy_43 ?_
        refine ca_iconst hX (q := 45) k_iconst_1 rfl dX1_roomsSayableBy_44 ?_
        refine ca_iload_n hX (q := 46) 3 rfl rfl rfl dX1_roomsSayableBy_45 ?_
        refine ca_ishl hX (q := 47) rfl dX1_roomsSayableBy_46 ?_
        refine ca_ior hX (q := 48) rfl dX1_roomsSayableBy_47 ?_
        refine ca_istore_n hX (q := 49) 2 rfl (ls' := [_, _, _, _]) (Nat.le_of_ble_eq_true rfl) (Nat.le_of_ble_eq_true rfl) (Or.inr rfl) rfl rfl dX1_roomsSayableBy_48 ?_
        refine ca_iinc hX (q := 52) (ls' := [_, _, _, _]) k_iconst_1 rfl (Nat.le_of_ble_eq_true rfl) (Or.inr rfl) rfl rfl dX1_roomsSayableBy_49 ?_
        refine ca_goto hX 14 rfl dX1_roomsSayableBy_52 ?_
        have c40 : ¬ knH h p i < ndH h i := by rw [msk_in (by omega), msk_in (by omega)] at c40; exact c40
        rw [nI_1, show sayM h p i ||| 1 <<< (nI i &&& 31) = sayM h p (i + 1) by rw [sayM, if_neg c40]]
        exact ih (i + 1) (by omega)
  refine ca_iconst hX (q := 1) k_iconst_0 rfl dX1_roomsSayableBy_0 ?_
  refine ca_istore_n hX (q := 2) 2 rfl (ls' := [_, _, _, _]) (Nat.le_of_ble_eq_true rfl) (Nat.le_of_ble_eq_true rfl) (Or.inr rfl) rfl rfl dX1_roomsSayableBy_1 ?_
  refine ca_aload_n hX (q := 3) 0 rfl rfl rfl dX1_roomsSayableBy_2 ?_
  refine ca_iload_n hX (q := 4) 1 rfl rfl rfl dX1_roomsSayableBy_3 ?_
  refine ca_cVi hX (q := 7) y_X1_hasPerson w_ml_X1_60 (by omega) hN h0 (c_X1_hasPerson l N g b h hh hb (nI p)) (by decide) rfl (by decide) rfl dX1_roomsSayableBy_4 rfl ?_
  refine ca_if_ne hX (q := 10) 12 rfl rfl dX1_roomsSayableBy_7 (fun _ => ?_) (fun z => absurd z (by rw [hpB_ok hP hP5 hp]; decide))
  refine ca_iconst hX (q := 13) k_iconst_0 rfl dX1_roomsSayableBy_12 ?_
  refine ca_istore_n hX (q := 14) 3 rfl (ls' := [_, _, _, _]) (Nat.le_of_ble_eq_true rfl) (Nat.le_of_ble_eq_true rfl) (Or.inr rfl) rfl rfl dX1_roomsSayableBy_13 ?_
  exact loop 25 0 (by omega)

set_option maxRecDepth 100000 in
set_option maxHeartbeats 4000000 in
theorem c_X1_somebodysRooms (l : Launch) (N : Nat) (g : ca_G) (b : Nat) (h : Nat → Int32) (hh : hsG g b h) (hb : b + 5 ≤ N) (P : Nat) (hP : h 0 = nI P) (hP5 : P ≤ 5) : ca_Ct l yX1_somebodysRooms cX1_somebodysRooms 3 (some .int) 2 0 0 N 1000000 [.ref b] g (ca_pi (someM h P) g) := by
  refine ca_intro (by decide) (Nat.le_of_ble_eq_true rfl) (fun X hX hN => ?_)
  show X 0 [_, none, none] [] N 1000000 g
  obtain ⟨h0, h1, h2, h3, h4⟩ := id hh
  have loop : ∀ (n i : Nat), i + n = P → X 4 [some (.ref b), some (.int (orM (fun p => sayM h p 25) i)), some (.int (nI i))] [] N 1000000 g := by
    intro n
    induction n with
    | zero =>
      intro i hi
      obtain rfl : i = P := by omega
      refine ca_iload_n hX (q := 5) 2 rfl rfl rfl dX1_somebodysRooms_4 ?_
      refine ca_aload_n hX (q := 6) 0 rfl rfl rfl dX1_somebodysRooms_5 ?_
      refine ca_getf hX (q := 9) cl_X1 4 (by decide) w_fl_X1_24 (by omega) h0 rfl rfl dX1_somebodysRooms_6 ?_
      refine ca_icmp_ge hX (q := 12) 26 rfl rfl dX1_somebodysRooms_9 (fun _ => ?_) (fun z => absurd (by rw [hP]; exact nI_le (Nat.le_refl _) (by omega)) z)
      refine ca_iload_n hX (q := 27) 1 rfl rfl rfl dX1_somebodysRooms_26 ?_
      refine ca_cSi hX (q := 30) y_J6_bitCount_0f7a4 w_ml_X1_87 hN (c_J6_bitCount l N g _) (by decide) rfl (by decide) rfl dX1_somebodysRooms_27 rfl ?_
      refine ca_iret hX rfl rfl rfl rfl dX1_somebodysRooms_30 ?_
      exact ⟨rfl, rfl⟩
    | succ n ih =>
      intro i hi
      refine ca_iload_n hX (q := 5) 2 rfl rfl rfl dX1_somebodysRooms_4 ?_
      refine ca_aload_n hX (q := 6) 0 rfl rfl rfl dX1_somebodysRooms_5 ?_
      refine ca_getf hX (q := 9) cl_X1 4 (by decide) w_fl_X1_24 (by omega) h0 rfl rfl dX1_somebodysRooms_6 ?_
      refine ca_icmp_ge hX (q := 12) 26 rfl rfl dX1_somebodysRooms_9 (fun z => absurd z (by rw [hP]; exact nI_ge (a := i) (b := P) (by omega) (by omega))) (fun _ => ?_)
      refine ca_iload_n hX (q := 13) 1 rfl rfl rfl dX1_somebodysRooms_12 ?_
      refine ca_aload_n hX (q := 14) 0 rfl rfl rfl dX1_somebodysRooms_13 ?_
      refine ca_iload_n hX (q := 15) 2 rfl rfl rfl dX1_somebodysRooms_14 ?_
      refine ca_cVi hX (q := 18) y_X1_roomsSayableBy w_ml_X1_84 (by omega) hN h0 (c_X1_roomsSayableBy l N g b h hh hb P hP hP5 i (by omega)) (by decide) rfl (Nat.le_of_ble_eq_true rfl) rfl dX1_somebodysRooms_15 rfl ?_
      refine ca_ior hX (q := 19) rfl dX1_somebodysRooms_18 ?_
      refine ca_istore_n hX (q := 20) 1 rfl (ls' := [_, _, _]) (Nat.le_of_ble_eq_true rfl) (Nat.le_of_ble_eq_true rfl) (Or.inr rfl) rfl rfl dX1_somebodysRooms_19 ?_
      refine ca_iinc hX (q := 23) (ls' := [_, _, _]) k_iconst_1 rfl (Nat.le_of_ble_eq_true rfl) (Or.inr rfl) rfl rfl dX1_somebodysRooms_20 ?_
      refine ca_goto hX 4 rfl dX1_somebodysRooms_23 ?_
      rw [nI_1]
      exact ih (i + 1) (by omega)
  refine ca_iconst hX (q := 1) k_iconst_0 rfl dX1_somebodysRooms_0 ?_
  refine ca_istore_n hX (q := 2) 1 rfl (ls' := [_, _, _]) (Nat.le_of_ble_eq_true rfl) (Nat.le_of_ble_eq_true rfl) (Or.inr rfl) rfl rfl dX1_somebodysRooms_1 ?_
  refine ca_iconst hX (q := 3) k_iconst_0 rfl dX1_somebodysRooms_2 ?_
  refine ca_istore_n hX (q := 4) 2 rfl (ls' := [_, _, _]) (Nat.le_of_ble_eq_true rfl) (Nat.le_of_ble_eq_true rfl) (Or.inr rfl) rfl rfl dX1_somebodysRooms_3 ?_
  exact loop P 0 (by omega)

set_option maxRecDepth 100000 in
set_option maxHeartbeats 4000000 in
theorem c_X1_sureRooms (l : Launch) (N : Nat) (g : ca_G) (b : Nat) (h : Nat → Int32) (hh : hsG g b h) (hb : b + 5 ≤ N) (P : Nat) (hP : h 0 = nI P) (hP5 : P ≤ 5) : ca_Ct l yX1_sureRooms cX1_sureRooms 3 (some .int) 2 0 0 N 1000000 [.ref b] g (ca_pi (sureM h P) g) := by
  refine ca_intro (by decide) (Nat.le_of_ble_eq_true rfl) (fun X hX hN => ?_)
  show X 0 [_, none, none] [] N 1000000 g
  obtain ⟨h0, h1, h2, h3, h4⟩ := id hh
  have loop : ∀ (n i : Nat), i + n = P → X 16 [some (.ref b), some (.int (andM (fun p => sayM h p 25) (if h 0 = 0 then (0 : Int32) else 33554431) i)), some (.int (nI i))] [] N 1000000 g := by
    intro n
    induction n with
    | zero =>
      intro i hi
      obtain rfl : i = P := by omega
      refine ca_iload_n hX (q := 17) 2 rfl rfl rfl dX1_sureRooms_16 ?_
      refine ca_aload_n hX (q := 18) 0 rfl rfl rfl dX1_sureRooms_17 ?_
      refine ca_getf hX (q := 21) cl_X1 4 (by decide) w_fl_X1_24 (by omega) h0 rfl rfl dX1_sureRooms_18 ?_
      refine ca_icmp_ge hX (q := 24) 38 rfl rfl dX1_sureRooms_21 (fun _ => ?_) (fun z => absurd (by rw [hP]; exact nI_le (Nat.le_refl _) (by omega)) z)
      refine ca_iload_n hX (q := 39) 1 rfl rfl rfl dX1_sureRooms_38 ?_
      refine ca_cSi hX (q := 42) y_J6_bitCount_0f7a4 w_ml_X1_87 hN (c_J6_bitCount l N g _) (by decide) rfl (by decide) rfl dX1_sureRooms_39 rfl ?_
      refine ca_iret hX rfl rfl rfl rfl dX1_sureRooms_42 ?_
      exact ⟨rfl, rfl⟩
    | succ n ih =>
      intro i hi
      refine ca_iload_n hX (q := 17) 2 rfl rfl rfl dX1_sureRooms_16 ?_
      refine ca_aload_n hX (q := 18) 0 rfl rfl rfl dX1_sureRooms_17 ?_
      refine ca_getf hX (q := 21) cl_X1 4 (by decide) w_fl_X1_24 (by omega) h0 rfl rfl dX1_sureRooms_18 ?_
      refine ca_icmp_ge hX (q := 24) 38 rfl rfl dX1_sureRooms_21 (fun z => absurd z (by rw [hP]; exact nI_ge (a := i) (b := P) (by omega) (by omega))) (fun _ => ?_)
      refine ca_iload_n hX (q := 25) 1 rfl rfl rfl dX1_sureRooms_24 ?_
      refine ca_aload_n hX (q := 26) 0 rfl rfl rfl dX1_sureRooms_25 ?_
      refine ca_iload_n hX (q := 27) 2 rfl rfl rfl dX1_sureRooms_26 ?_
      refine ca_cVi hX (q := 30) y_X1_roomsSayableBy w_ml_X1_84 (by omega) hN h0 (c_X1_roomsSayableBy l N g b h hh hb P hP hP5 i (by omega)) (by decide) rfl (Nat.le_of_ble_eq_true rfl) rfl dX1_sureRooms_27 rfl ?_
      refine ca_iand hX (q := 31) rfl dX1_sureRooms_30 ?_
      refine ca_istore_n hX (q := 32) 1 rfl (ls' := [_, _, _]) (Nat.le_of_ble_eq_true rfl) (Nat.le_of_ble_eq_true rfl) (Or.inr rfl) rfl rfl dX1_sureRooms_31 ?_
      refine ca_iinc hX (q := 35) (ls' := [_, _, _]) k_iconst_1 rfl (Nat.le_of_ble_eq_true rfl) (Or.inr rfl) rfl rfl dX1_sureRooms_32 ?_
      refine ca_goto hX 16 rfl dX1_sureRooms_35 ?_
      rw [nI_1]
      exact ih (i + 1) (by omega)
  refine ca_aload_n hX (q := 1) 0 rfl rfl rfl dX1_sureRooms_0 ?_
  refine ca_getf hX (q := 4) cl_X1 4 (by decide) w_fl_X1_24 (by omega) h0 rfl rfl dX1_sureRooms_1 ?_
  refine ca_if_ne hX (q := 7) 11 rfl rfl dX1_sureRooms_4 (fun c4 => ?_) (fun c4 => ?_)
  · refine ca_ldc hX (q := 13) w_k_X1_83 rfl dX1_sureRooms_11 ?_
    refine ca_istore_n hX (q := 14) 1 rfl (ls' := [_, _, _]) (Nat.le_of_ble_eq_true rfl) (Nat.le_of_ble_eq_true rfl) (Or.inr rfl) rfl rfl dX1_sureRooms_13 ?_
    refine ca_iconst hX (q := 15) k_iconst_0 rfl dX1_sureRooms_14 ?_
    refine ca_istore_n hX (q := 16) 2 rfl (ls' := [_, _, _]) (Nat.le_of_ble_eq_true rfl) (Nat.le_of_ble_eq_true rfl) (Or.inr rfl) rfl rfl dX1_sureRooms_15 ?_
    have z := loop P 0 (by omega)
    simp only [andM] at z
    first | (rw [if_neg c4] at z; exact z) | (rw [if_pos (by simpa using c4)] at z; exact z)
  · refine ca_iconst hX (q := 8) k_iconst_0 rfl dX1_sureRooms_7 ?_
    refine ca_goto hX 13 rfl dX1_sureRooms_8 ?_
    refine ca_istore_n hX (q := 14) 1 rfl (ls' := [_, _, _]) (Nat.le_of_ble_eq_true rfl) (Nat.le_of_ble_eq_true rfl) (Or.inr rfl) rfl rfl dX1_sureRooms_13 ?_
    refine ca_iconst hX (q := 15) k_iconst_0 rfl dX1_sureRooms_14 ?_
    refine ca_istore_n hX (q := 16) 2 rfl (ls' := [_, _, _]) (Nat.le_of_ble_eq_true rfl) (Nat.le_of_ble_eq_true rfl) (Or.inr rfl) rfl rfl dX1_sureRooms_15 ?_
    have z := loop P 0 (by omega)
    simp only [andM] at z
    first | (rw [if_neg c4] at z; exact z) | (rw [if_pos (by simpa using c4)] at z; exact z)

set_option maxRecDepth 100000 in
set_option maxHeartbeats 4000000 in
theorem c_X1_allKnown (l : Launch) (N : Nat) (g : ca_G) (b : Nat) (h : Nat → Int32) (hh : hsG g b h) (hb : b + 5 ≤ N) (P : Nat) (hP : h 0 = nI P) (hP5 : P ≤ 5) : ca_Ct l yX1_allKnown cX1_allKnown 4 (some .int) 2 0 0 N 1000000 [.ref b] g (ca_pi (smI (fun p => smI (knH h p) 25) P) g) := by
  refine ca_intro (by decide) (Nat.le_of_ble_eq_true rfl) (fun X hX hN => ?_)
  show X 0 [_, none, none, none] [] N 1000000 g
  obtain ⟨h0, h1, h2, h3, h4⟩ := id hh
  have loop : ∀ (n i : Nat), i + n = P → ∀ x, X 4 [some (.ref b), some (.int (smI (fun p => smI (knH h p) 25) i)), some (.int (nI i)), x] [] N 1000000 g := by
    intro n
    induction n with
    | zero =>
      intro i hi x
      obtain rfl : i = P := by omega
      refine ca_iload_n hX (q := 5) 2 rfl rfl rfl dX1_allKnown_4 ?_
      refine ca_aload_n hX (q := 6) 0 rfl rfl rfl dX1_allKnown_5 ?_
      refine ca_getf hX (q := 9) cl_X1 4 (by decide) w_fl_X1_24 (by omega) h0 rfl rfl dX1_allKnown_6 ?_
      refine ca_icmp_ge hX (q := 12) 41 rfl rfl dX1_allKnown_9 (fun _ => ?_) (fun z => absurd (by rw [hP]; exact nI_le (Nat.le_refl _) (by omega)) z)
      refine ca_iload_n hX (q := 42) 1 rfl rfl rfl dX1_allKnown_41 ?_
      refine ca_iret hX rfl rfl rfl rfl dX1_allKnown_42 ?_
      exact ⟨rfl, rfl⟩
    | succ n ih =>
      intro i hi x
      have inner : ∀ (n2 j : Nat), j + n2 = 25 → X 14 [some (.ref b), some (.int (smI (fun p => smI (knH h p) 25) i + smI (knH h i) j)), some (.int (nI i)), some (.int (nI j))] [] N 1000000 g := by
        intro n2
        induction n2 with
        | zero =>
          intro j hj
          obtain rfl : j = 25 := by omega
          refine ca_iload_n hX (q := 15) 3 rfl rfl rfl dX1_allKnown_14 ?_
          refine ca_bipush hX (q := 17) k_bipush_25 rfl dX1_allKnown_15 ?_
          refine ca_icmp_ge hX (q := 20) 35 rfl rfl dX1_allKnown_17 (fun _ => ?_) (fun z => absurd (nI_le (a := 25) (b := 25) (by omega) (by omega)) z)
          refine ca_iinc hX (q := 38) (ls' := [_, _, _, _]) k_iconst_1 rfl (Nat.le_of_ble_eq_true rfl) (Or.inr rfl) rfl rfl dX1_allKnown_35 ?_
          refine ca_goto hX 4 rfl dX1_allKnown_38 ?_
          rw [nI_1]
          exact ih (i + 1) (by omega) _
        | succ n2 ih2 =>
          intro j hj
          refine ca_iload_n hX (q := 15) 3 rfl rfl rfl dX1_allKnown_14 ?_
          refine ca_bipush hX (q := 17) k_bipush_25 rfl dX1_allKnown_15 ?_
          refine ca_icmp_ge hX (q := 20) 35 rfl rfl dX1_allKnown_17 (fun z => absurd z (nI_ge (a := j) (b := 25) (by omega) (by omega))) (fun _ => ?_)
          refine ca_iload_n hX (q := 21) 1 rfl rfl rfl dX1_allKnown_20 ?_
          refine ca_aload_n hX (q := 22) 0 rfl rfl rfl dX1_allKnown_21 ?_
          refine ca_iload_n hX (q := 23) 2 rfl rfl rfl dX1_allKnown_22 ?_
          refine ca_iload_n hX (q := 24) 3 rfl rfl rfl dX1_allKnown_23 ?_
          refine ca_cVi hX (q := 27) y_X1_knownBy w_ml_X1_95 (by omega) hN h0 (c_X1_knownBy l N g b h hh hb P hP hP5 i j (by omega) (by omega)) (by decide) rfl (Nat.le_of_ble_eq_true rfl) rfl dX1_allKnown_24 rfl ?_
          refine ca_iadd hX (q := 28) rfl dX1_allKnown_27 ?_
          refine ca_istore_n hX (q := 29) 1 rfl (ls' := [_, _, _, _]) (Nat.le_of_ble_eq_true rfl) (Nat.le_of_ble_eq_true rfl) (Or.inr rfl) rfl rfl dX1_allKnown_28 ?_
          refine ca_iinc hX (q := 32) (ls' := [_, _, _, _]) k_iconst_1 rfl (Nat.le_of_ble_eq_true rfl) (Or.inr rfl) rfl rfl dX1_allKnown_29 ?_
          refine ca_goto hX 14 rfl dX1_allKnown_32 ?_
          rw [nI_1, Int32.add_assoc]
          exact ih2 (j + 1) (by omega)
      refine ca_iload_n hX (q := 5) 2 rfl rfl rfl dX1_allKnown_4 ?_
      refine ca_aload_n hX (q := 6) 0 rfl rfl rfl dX1_allKnown_5 ?_
      refine ca_getf hX (q := 9) cl_X1 4 (by decide) w_fl_X1_24 (by omega) h0 rfl rfl dX1_allKnown_6 ?_
      refine ca_icmp_ge hX (q := 12) 41 rfl rfl dX1_allKnown_9 (fun z => absurd z (by rw [hP]; exact nI_ge (a := i) (b := P) (by omega) (by omega))) (fun _ => ?_)
      refine ca_iconst hX (q := 13) k_iconst_0 rfl dX1_allKnown_12 ?_
      refine ca_istore_n hX (q := 14) 3 rfl (ls' := [_, _, _, _]) (Nat.le_of_ble_eq_true rfl) (Nat.le_of_ble_eq_true rfl) (Or.inr rfl) rfl rfl dX1_allKnown_13 ?_
      have z := inner 25 0 (by omega)
      simp only [smI, Int32.add_zero] at z
      exact z
  refine ca_iconst hX (q := 1) k_iconst_0 rfl dX1_allKnown_0 ?_
  refine ca_istore_n hX (q := 2) 1 rfl (ls' := [_, _, _, _]) (Nat.le_of_ble_eq_true rfl) (Nat.le_of_ble_eq_true rfl) (Or.inr rfl) rfl rfl dX1_allKnown_1 ?_
  refine ca_iconst hX (q := 3) k_iconst_0 rfl dX1_allKnown_2 ?_
  refine ca_istore_n hX (q := 4) 2 rfl (ls' := [_, _, _, _]) (Nat.le_of_ble_eq_true rfl) (Nat.le_of_ble_eq_true rfl) (Or.inr rfl) rfl rfl dX1_allKnown_3 ?_
  exact loop P 0 (by omega) _
end
section
theorem w_mxs : Cond.static Lib.Math.max.name ∈ ca_TT := y_J9_max_7cf53.2
theorem w_mxi : Cond.initialized "java/lang/Math" ∈ ca_TT := w_in_J9
theorem w_mxc : Cond.code Lib.Math.max.name Lib.Math.max.code 2 (some .int) ∈ ca_TT := y0_J9_max_7cf53.1
theorem w_mns : Cond.static Lib.Math.min.name ∈ ca_TT := y_J9_min_7cf53.2
theorem w_mnc : Cond.code Lib.Math.min.name Lib.Math.min.code 2 (some .int) ∈ ca_TT := y0_J9_min_7cf53.1

set_option maxRecDepth 100000 in
set_option maxHeartbeats 4000000 in
theorem c_X1_forgetSome (l : Launch) (N : Nat) (g : ca_G) (b : Nat) (h : Nat → Int32) (hh : hsG g b h) (hb : b + 5 ≤ N) (P : Nat) (hP : h 0 = nI P) (hP5 : P ≤ 5) (p : Nat) (hp : p < P) : ca_Ct l yX1_forgetSome cX1_forgetSome 4 none 1 0 0 N 1000000 [.ref b, .int (nI p)] g (fun rr g' => rr = none ∧ hsG g' b (fgM h p 25) ∧ frG g g' b (b + 5)) := by
  refine ca_intro (by decide) (Nat.le_of_ble_eq_true rfl) (fun X hX hN => ?_)
  show X 0 [_, _, none, none] [] N 1000000 g
  obtain ⟨g0, hg0⟩ : ∃ g0, g0 = g := ⟨g, rfl⟩
  have loop : ∀ (n i : Nat), i + n = 25 → ∀ g, hsG g b (fgM h p i) → frG g0 g b (b + 5) → ∀ x, X 11 [some (.ref b), some (.int (nI p)), some (.int (nI i)), x] [] N 1000000 g := by
    rw [hg0]
    clear hh
    intro n
    induction n with
    | zero =>
      intro i hi g hh hfr x
      obtain rfl : i = 25 := by omega
      obtain ⟨h0, h1, h2, h3, h4⟩ := id hh
      refine ca_iload_n hX (q := 12) 2 rfl rfl rfl dX1_forgetSome_11 ?_
      refine ca_bipush hX (q := 14) k_bipush_25 rfl dX1_forgetSome_12 ?_
      refine ca_icmp_ge hX (q := 17) 48 rfl rfl dX1_forgetSome_14 (fun _ => ?_) (fun z => absurd (nI_le (a := 25) (b := 25) (by omega) (by omega)) z)
      refine ca_vret hX rfl rfl rfl rfl dX1_forgetSome_48 ?_
      exact ⟨rfl, hh, hfr⟩
    | succ n ih =>
      intro i hi g hh hfr x
      obtain ⟨h0, h1, h2, h3, h4⟩ := id hh
      refine ca_iload_n hX (q := 12) 2 rfl rfl rfl dX1_forgetSome_11 ?_
      refine ca_bipush hX (q := 14) k_bipush_25 rfl dX1_forgetSome_12 ?_
      refine ca_icmp_ge hX (q := 17) 48 rfl rfl dX1_forgetSome_14 (fun z => absurd z (nI_ge (a := i) (b := 25) (by omega) (by omega))) (fun _ => ?_)
      refine ca_iload_n hX (q := 18) 1 rfl rfl rfl dX1_forgetSome_17 ?_
      refine ca_bipush hX (q := 20) k_bipush_25 rfl dX1_forgetSome_18 ?_
      refine ca_imul hX (q := 21) rfl dX1_forgetSome_20 ?_
      refine ca_iload_n hX (q := 22) 2 rfl rfl rfl dX1_forgetSome_21 ?_
      refine ca_iadd hX (q := 23) rfl dX1_forgetSome_22 ?_
      refine ca_istore_n hX (q := 24) 3 rfl (ls' := [_, _, _, _]) (Nat.le_of_ble_eq_true rfl) (Nat.le_of_ble_eq_true rfl) (Or.inr rfl) rfl rfl dX1_forgetSome_23 ?_
      refine ca_aload_n hX (q := 25) 0 rfl rfl rfl dX1_forgetSome_24 ?_
      refine ca_getf hX (q := 28) cl_X1 3 (by decide) w_fl_X1_21 (by omega) h0 rfl rfl dX1_forgetSome_25 ?_
      refine ca_iload_n hX (q := 29) 3 rfl rfl rfl dX1_forgetSome_28 ?_
      refine ca_iconst hX (q := 30) k_iconst_0 rfl dX1_forgetSome_29 ?_
      refine ca_aload_n hX (q := 31) 0 rfl rfl rfl dX1_forgetSome_30 ?_
      refine ca_getf hX (q := 34) cl_X1 3 (by decide) w_fl_X1_21 (by omega) h0 rfl rfl dX1_forgetSome_31 ?_
      refine ca_iload_n hX (q := 35) 3 rfl rfl rfl dX1_forgetSome_34 ?_
      refine ca_iaN hX (q := 36) (k := 25 * p + i) (by omega) h4 (by decide) (ixK (by omega) (by omega)) (by omega) rfl dX1_forgetSome_35 ?_
      refine ca_iconst hX (q := 37) k_iconst_1 rfl dX1_forgetSome_36 ?_
      refine ca_isub hX (q := 38) rfl dX1_forgetSome_37 ?_
      refine ca_mmax hX (q := 41) w_ml_X1_78 w_mxs w_mxi w_mxc (by decide) (Nat.le_of_ble_eq_true rfl) rfl dX1_forgetSome_38 ?_
      refine ca_iaS hX (q := 42) (k := 25 * p + i) (by omega) hN (Nat.le_refl _) h4 (by decide) (ixK (by omega) (by omega)) (by omega) rfl dX1_forgetSome_41 (fun g hE hF => ?_)
      have h0 := (hF b (by omega)).trans h0
      have h1 := (hF (b + 1) (by omega)).trans h1
      have h2 := (hF (b + 2) (by omega)).trans h2
      have h3 := (hF (b + 3) (by omega)).trans h3
      have h4 := hE
      have hfr : frG _ g b (b + 5) := fun j hj => (hF j (by omega)).trans (hfr j hj)
      refine ca_iinc hX (q := 45) (ls' := [_, _, _, _]) k_iconst_1 rfl (Nat.le_of_ble_eq_true rfl) (Or.inr rfl) rfl rfl dX1_forgetSome_42 ?_
      refine ca_goto hX 11 rfl dX1_forgetSome_45 ?_
      rw [nI_1]
      refine ih (i + 1) (by omega) _ ?_ hfr _
      rw [← fgM_s, dcI, ← msk_in (o := 57) (n := 125) (r := 25 * p + i) (h := fgM h p i) (by omega)]
      refine ⟨?_, ?_, ?_, ?_, ?_⟩
      · rw [h0, upd_n _ _ (by omega), upd_n _ _ (by omega)]
      · rw [h1]; exact congrArg (fun f => Sum.inl (25, f)) (msk_ext fun j hj => by rw [upd_n _ _ (by omega)])
      · rw [h2]; exact congrArg (fun f => Sum.inl (25, f)) (msk_ext fun j hj => by rw [upd_n _ _ (by omega)])
      · rw [h3]; exact congrArg (fun f => Sum.inl (5, f)) (msk_ext fun j hj => by rw [upd_n _ _ (by omega)])
      · rw [h4, msk_upd (by omega)]
  obtain ⟨h0, h1, h2, h3, h4⟩ := id hh
  refine ca_aload_n hX (q := 1) 0 rfl rfl rfl dX1_forgetSome_0 ?_
  refine ca_iload_n hX (q := 2) 1 rfl rfl rfl dX1_forgetSome_1 ?_
  refine ca_cVi hX (q := 5) y_X1_hasPerson w_ml_X1_60 (by omega) hN h0 (c_X1_hasPerson l N g b h hh hb (nI p)) (by decide) rfl (by decide) rfl dX1_forgetSome_2 rfl ?_
  refine ca_if_ne hX (q := 8) 9 rfl rfl dX1_forgetSome_5 (fun _ => ?_) (fun z => absurd z (by rw [hpB_ok hP hP5 hp]; decide))
  refine ca_iconst hX (q := 10) k_iconst_0 rfl dX1_forgetSome_9 ?_
  refine ca_istore_n hX (q := 11) 2 rfl (ls' := [_, _, _, _]) (Nat.le_of_ble_eq_true rfl) (Nat.le_of_ble_eq_true rfl) (Or.inr rfl) rfl rfl dX1_forgetSome_10 ?_
  exact loop 25 0 (by omega) g (by rw [fgM_0]; exact hh) (by rw [hg0]; exact frG.rf) _

set_option maxRecDepth 100000 in
set_option maxHeartbeats 4000000 in
theorem c_X1_passNights (l : Launch) (N : Nat) (g : ca_G) (b : Nat) (h : Nat → Int32) (hh : hsG g b h) (hb : b + 5 ≤ N) (P : Nat) (hP : h 0 = nI P) (hP5 : P ≤ 5) (k : Nat) (hk : k < 1000) : ca_Ct l yX1_passNights cX1_passNights 5 none 2 0 0 N 1000000 [.ref b, .int (nI k)] g (fun rr g' => rr = none ∧ hsG g' b (pnM P h k) ∧ frG g g' b (b + 5)) := by
  refine ca_intro (by decide) (Nat.le_of_ble_eq_true rfl) (fun X hX hN => ?_)
  show X 0 [_, _, none, none, none] [] N 1000000 g
  have loop : ∀ (n i : Nat), i + n = k → ∀ g1, hsG g1 b (pnM P h i) → frG g g1 b (b + 5) → ∀ x z, X 2 [some (.ref b), some (.int (nI k)), some (.int (nI i)), x, z] [] N 1000000 g1 := by
    intro n
    induction n with
    | zero =>
      intro i hi g hh hfr x z
      have ei : i = k := by omega
      subst ei
      obtain ⟨h0, h1, h2, h3, h4⟩ := id hh
      refine ca_iload_n hX (q := 3) 2 rfl rfl rfl dX1_passNights_2 ?_
      refine ca_iload_n hX (q := 4) 1 rfl rfl rfl dX1_passNights_3 ?_
      refine ca_icmp_ge hX (q := 7) 66 rfl rfl dX1_passNights_4 (fun _ => ?_) (fun z => absurd (nI_le (Nat.le_refl _) (by omega)) z)
      refine ca_vret hX rfl rfl rfl rfl dX1_passNights_66 ?_
      exact ⟨rfl, hh, hfr⟩
    | succ n ih =>
      intro i hi g1 hh1 hfr1 x z
      have inner : ∀ (n2 j : Nat), j + n2 = P → ∀ g1, hsG g1 b (ngM (upd (pnM P h i) 1 (pnM P h i 1 + 1)) j) → frG g g1 b (b + 5) → ∀ x, X 19 [some (.ref b), some (.int (nI k)), some (.int (nI i)), some (.int (nI j)), x] [] N 1000000 g1 := by
        intro n2
        induction n2 with
        | zero =>
          intro j hj g hh hfr x
          have ej : j = P := by omega
          have hq : (ngM (upd (pnM P h i) 1 (pnM P h i 1 + 1)) j) 0 = nI P := by rw [ngM_lo _ (by omega), upd_n _ _ (by omega), pnM_0, hP]
          obtain ⟨h0, h1, h2, h3, h4⟩ := id hh
          refine ca_iload_n hX (q := 20) 3 rfl rfl rfl dX1_passNights_19 ?_
          refine ca_aload_n hX (q := 21) 0 rfl rfl rfl dX1_passNights_20 ?_
          refine ca_getf hX (q := 24) cl_X1 4 (by decide) w_fl_X1_24 (by omega) h0 rfl rfl dX1_passNights_21 ?_
          refine ca_icmp_ge hX (q := 27) 60 rfl rfl dX1_passNights_24 (fun _ => ?_) (fun z => absurd (by rw [hq, ej]; exact nI_le (Nat.le_refl _) (by omega)) z)
          refine ca_iinc hX (q := 63) (ls' := [_, _, _, _, _]) k_iconst_1 rfl (Nat.le_of_ble_eq_true rfl) (Or.inr rfl) rfl rfl dX1_passNights_60 ?_
          refine ca_goto hX 2 rfl dX1_passNights_63 ?_
          rw [nI_1]
          exact ih (i + 1) (by omega) g (by rw [pnM, nsM]; rw [ej] at hh; exact hh) hfr _ _
        | succ n2 ih2 =>
          intro j hj g hh hfr x
          have hq : (ngM (upd (pnM P h i) 1 (pnM P h i 1 + 1)) j) 0 = nI P := by rw [ngM_lo _ (by omega), upd_n _ _ (by omega), pnM_0, hP]
          obtain ⟨h0, h1, h2, h3, h4⟩ := id hh
          refine ca_iload_n hX (q := 20) 3 rfl rfl rfl dX1_passNights_19 ?_
          refine ca_aload_n hX (q := 21) 0 rfl rfl rfl dX1_passNights_20 ?_
          refine ca_getf hX (q := 24) cl_X1 4 (by decide) w_fl_X1_24 (by omega) h0 rfl rfl dX1_passNights_21 ?_
          refine ca_icmp_ge hX (q := 27) 60 rfl rfl dX1_passNights_24 (fun z => absurd z (by rw [hq]; exact nI_ge (a := j) (b := P) (by omega) (by omega))) (fun _ => ?_)
          refine ca_aload_n hX (q := 28) 0 rfl rfl rfl dX1_passNights_27 ?_
          refine ca_iload_n hX (q := 29) 3 rfl rfl rfl dX1_passNights_28 ?_
          refine ca_cVi hX (q := 32) y_X1_sharpOf w_ml_X1_71 (by omega) hN h0 (c_X1_sharpOf l N g b _ hh hb P hq hP5 j (by omega)) (by decide) rfl (by decide) rfl dX1_passNights_29 rfl ?_
          refine ca_istore hX (q := 34) (ls' := [_, _, _, _, _]) (Nat.le_of_ble_eq_true rfl) (Nat.le_of_ble_eq_true rfl) (Or.inr rfl) rfl rfl dX1_passNights_32 ?_
          refine ca_iload hX (q := 36) rfl rfl dX1_passNights_34 ?_
          refine ca_if_le hX (q := 39) 54 rfl rfl dX1_passNights_36 (fun c36 => ?_) (fun c36 => ?_)
          · refine ca_iinc hX (q := 57) (ls' := [_, _, _, _, _]) k_iconst_1 rfl (Nat.le_of_ble_eq_true rfl) (Or.inr rfl) rfl rfl dX1_passNights_54 ?_
            refine ca_goto hX 19 rfl dX1_passNights_57 ?_
            rw [nI_1]
            refine ih2 (j + 1) (by omega) g ?_ hfr _
            rw [ngM, if_pos c36]; exact hh
          · refine ca_aload_n hX (q := 40) 0 rfl rfl rfl dX1_passNights_39 ?_
            refine ca_getf hX (q := 43) cl_X1 5 (by decide) w_fl_X1_28 (by omega) h0 rfl rfl dX1_passNights_40 ?_
            refine ca_iload hX (q := 45) rfl rfl dX1_passNights_43 ?_
            refine ca_irem hX (q := 46) (fun e => c36 (by rw [e]; decide)) rfl dX1_passNights_45 ?_
            refine ca_if_ne hX (q := 49) 54 rfl rfl dX1_passNights_46 (fun c46 => ?_) (fun c46 => ?_)
            · refine ca_iinc hX (q := 57) (ls' := [_, _, _, _, _]) k_iconst_1 rfl (Nat.le_of_ble_eq_true rfl) (Or.inr rfl) rfl rfl dX1_passNights_54 ?_
              refine ca_goto hX 19 rfl dX1_passNights_57 ?_
              rw [nI_1]
              refine ih2 (j + 1) (by omega) g ?_ hfr _
              rw [ngM, if_neg c36, if_pos c46]; exact hh
            · refine ca_aload_n hX (q := 50) 0 rfl rfl rfl dX1_passNights_49 ?_
              refine ca_iload_n hX (q := 51) 3 rfl rfl rfl dX1_passNights_50 ?_
              refine ca_cV hX (q := 54) y_X1_forgetSome w_ml_X1_74 (by omega) hN h0 (c_X1_forgetSome l N g b _ hh hb P hq hP5 j (by omega)) (by decide) rfl (by decide) rfl dX1_passNights_51 rfl ?_
              rintro _ g ⟨rfl, hh, hf⟩
              have hfr := frG.tr hfr hf
              refine ca_iinc hX (q := 57) (ls' := [_, _, _, _, _]) k_iconst_1 rfl (Nat.le_of_ble_eq_true rfl) (Or.inr rfl) rfl rfl dX1_passNights_54 ?_
              refine ca_goto hX 19 rfl dX1_passNights_57 ?_
              rw [nI_1]
              refine ih2 (j + 1) (by omega) g ?_ hfr _
              rw [ngM, if_neg c36, if_neg (fun z => z c46)]; exact hh
      obtain ⟨h0, h1, h2, h3, h4⟩ := id hh1
      refine ca_iload_n hX (q := 3) 2 rfl rfl rfl dX1_passNights_2 ?_
      refine ca_iload_n hX (q := 4) 1 rfl rfl rfl dX1_passNights_3 ?_
      refine ca_icmp_ge hX (q := 7) 66 rfl rfl dX1_passNights_4 (fun z => absurd z (nI_ge (a := i) (b := k) (by omega) (by omega))) (fun _ => ?_)
      refine ca_aload_n hX (q := 8) 0 rfl rfl rfl dX1_passNights_7 ?_
      refine ca_dup hX (q := 9) rfl rfl dX1_passNights_8 ?_
      refine ca_getf hX (q := 12) cl_X1 5 (by decide) w_fl_X1_28 (by omega) h0 rfl rfl dX1_passNights_9 ?_
      refine ca_iconst hX (q := 13) k_iconst_1 rfl dX1_passNights_12 ?_
      refine ca_iadd hX (q := 14) rfl dX1_passNights_13 ?_
      refine ca_puti hX (q := 17) (fs' := [_, _, _, _, _, _]) cl_X1 5 (by decide) w_fl_X1_28 rfl rfl (by omega) hN h0 (Nat.le_of_ble_eq_true rfl) rfl rfl dX1_passNights_14 (fun g2 hE hF => ?_)
      have h0 := hE
      have h1 := (hF (b + 1) (by omega)).trans h1
      have h2 := (hF (b + 2) (by omega)).trans h2
      have h3 := (hF (b + 3) (by omega)).trans h3
      have h4 := (hF (b + 4) (by omega)).trans h4
      have hfr1 : frG g _ b (b + 5) := fun j hj => (hF j (by omega)).trans (hfr1 j hj)
      refine ca_iconst hX (q := 18) k_iconst_0 rfl dX1_passNights_17 ?_
      refine ca_istore_n hX (q := 19) 3 rfl (ls' := [_, _, _, _, _]) (Nat.le_of_ble_eq_true rfl) (Nat.le_of_ble_eq_true rfl) (Or.inr rfl) rfl rfl dX1_passNights_18 ?_
      refine inner P 0 (by omega) _ ?_ hfr1 _
      rw [ngM]
      refine ⟨?_, ?_, ?_, ?_, ?_⟩
      · rw [h0, upd_n _ _ (by omega), upd_s]
      · rw [h1]; exact congrArg (fun f => Sum.inl (25, f)) (msk_ext fun j hj => by rw [upd_n _ _ (by omega)])
      · rw [h2]; exact congrArg (fun f => Sum.inl (25, f)) (msk_ext fun j hj => by rw [upd_n _ _ (by omega)])
      · rw [h3]; exact congrArg (fun f => Sum.inl (5, f)) (msk_ext fun j hj => by rw [upd_n _ _ (by omega)])
      · rw [h4]; exact congrArg (fun f => Sum.inl (125, f)) (msk_ext fun j hj => by rw [upd_n _ _ (by omega)])
  refine ca_iconst hX (q := 1) k_iconst_0 rfl dX1_passNights_0 ?_
  refine ca_istore_n hX (q := 2) 2 rfl (ls' := [_, _, _, _, _]) (Nat.le_of_ble_eq_true rfl) (Nat.le_of_ble_eq_true rfl) (Or.inr rfl) rfl rfl dX1_passNights_1 ?_
  exact loop k 0 (by omega) g hh frG.rf _ _
end
section
theorem nI_lo {a b : Nat} (h : ¬ nI b ≤ nI a) (ha : a < 2 ^ 31) (hb : b < 2 ^ 31) : a < b := by
  rcases Nat.lt_or_ge a b with z | z
  · exact z
  · exact absurd (nI_le z ha) h
theorem nI_hi {a b : Nat} (h : nI b ≤ nI a) (ha : a < 2 ^ 31) (hb : b < 2 ^ 31) : b ≤ a := (nI_leI hb ha).mp h
section CACPY
variable {l : Launch} {y : MethodName} {cc : ByteArray} {nL : Nat} {ret : Option FieldType} {F mc ms N0 S0 : Nat} {sc : ca_Sc} {post : ca_Post} {X : ca_J}
variable {pc q : Nat} {ls : List (Option Value)} {st : List Value} {N S : Nat} {g : ca_G} {idx : Nat}
theorem ca_cpy (hX : ca_Good l y cc nL ret F mc ms N0 S0 sc post X) {i j n : Nat} {f0 f1 : Nat → Int32} {x : Int32} (wl : Cond.methodLink y.cls idx arraycopyName ∈ ca_TT) (hi : i < N) (hj : j < N) (hN : N ≤ 1000) (hS : 1000000 ≤ S) (gi : g i = .inl (n, f0)) (gj : g j = .inl (n, f1)) (hx : x = nI n) (hn : n < 100000) (hF : 1 ≤ F) (hst : (st.map fun v => v.category).sum ≤ 2) (hq : pc + 3 = q) (hd : decode cc pc = .ok (.invokestatic idx, 3))
    (kk : ∀ g2 : ca_G, g2 j = .inl (n, va_cpy f0 f1 0 0 n) → (∀ k, k ≠ j → g2 k = g k) → X q ls st N S g2) : X pc ls (.int x :: .int 0 :: .ref j :: .int 0 :: .ref i :: st) N S g := by
  subst hx
  have hz : (0 : Int32).toNatClampNeg = 0 := by decide
  refine ca_copy hX wl w_native w_acs w_in_J10 hi hj hN hS gi gj (by decide) (by decide) (nI_pos (by omega)) (by rw [hz, nI_clamp (by omega)]; omega) (by rw [hz, nI_clamp (by omega)]; omega) hF hst hq hd ?_
  rw [hz, nI_clamp (by omega)]
  exact kk _ (ca_up_s _ _ _) (fun k hk => ca_up_n _ _ hk)
end CACPY
theorem tkM_0 (h : Nat → Int32) (P : Nat) (v : Int32) : upd (upd h 0 (nI (P + 1))) (52 + P) v = tkM h P v 0 := by
  funext j
  unfold tkM
  by_cases e : j = 0
  · subst e; rw [upd_n _ _ (by omega), upd_s, if_pos rfl]
  · rw [if_neg e]
    by_cases e2 : j = 52 + P
    · rw [if_pos e2, e2, upd_s]
    · rw [if_neg e2, upd_n _ _ e2, upd_n _ _ e, if_neg (by omega)]
theorem tkM_s (h : Nat → Int32) (P : Nat) (v : Int32) (n : Nat) (hP : P < 5) : upd (tkM h P v n) (57 + (25 * P + n)) 0 = tkM h P v (n + 1) := by
  funext j
  by_cases e : j = 57 + (25 * P + n)
  · subst e; rw [upd_s]; unfold tkM; rw [if_neg (by omega), if_neg (by omega), if_pos (by omega)]
  · rw [upd_n _ _ e]; unfold tkM
    by_cases e1 : j = 0
    · rw [if_pos e1, if_pos e1]
    · rw [if_neg e1, if_neg e1]
      by_cases e2 : j = 52 + P
      · rw [if_pos e2, if_pos e2]
      · rw [if_neg e2, if_neg e2]
        by_cases e3 : 57 + 25 * P ≤ j ∧ j < 57 + 25 * P + n
        · rw [if_pos e3, if_pos (by omega)]
        · rw [if_neg e3, if_neg (by omega)]
theorem tkM_z (h : Nat → Int32) (P : Nat) (v : Int32) (n : Nat) : tkM h P v n 0 = nI (P + 1) := by unfold tkM; rw [if_pos rfl]

set_option maxRecDepth 100000 in
set_option maxHeartbeats 4000000 in
theorem c_X1_takeIn (l : Launch) (N : Nat) (g : ca_G) (b : Nat) (h : Nat → Int32) (hh : hsG g b h) (hb : b + 5 ≤ N) (P : Nat) (hP : h 0 = nI P) (hP5 : P < 5) (v : Int32) : ca_Ct l yX1_takeIn cX1_takeIn 4 (some .boolean) 2 0 0 N 1000000 [.ref b, .int v] g (fun rr g' => rr = some (.int 1) ∧ hsG g' b (tkM h P v 25) ∧ frG g g' b (b + 5)) := by
  refine ca_intro (by decide) (Nat.le_of_ble_eq_true rfl) (fun X hX hN => ?_)
  show X 0 [_, _, none, none] [] N 1000000 g
  have loop : ∀ (n i : Nat), i + n = 25 → ∀ g1, hsG g1 b (tkM h P v i) → frG g g1 b (b + 5) → X 33 [some (.ref b), some (.int v), some (.int (nI P)), some (.int (nI i))] [] N 1000000 g1 := by
    intro n
    induction n with
    | zero =>
      intro i hi g hh hfr
      obtain rfl : i = 25 := by omega
      obtain ⟨h0, h1, h2, h3, h4⟩ := id hh
      refine ca_iload_n hX (q := 34) 3 rfl rfl rfl dX1_takeIn_33 ?_
      refine ca_bipush hX (q := 36) k_bipush_25 rfl dX1_takeIn_34 ?_
      refine ca_icmp_ge hX (q := 39) 52 rfl rfl dX1_takeIn_36 (fun _ => ?_) (fun z => absurd (nI_le (a := 25) (b := 25) (by omega) (by omega)) z)
      refine ca_iconst hX (q := 53) k_iconst_1 rfl dX1_takeIn_52 ?_
      refine ca_zret hX rfl rfl rfl rfl rfl dX1_takeIn_53 ?_
      exact ⟨rfl, hh, hfr⟩
    | succ n ih =>
      intro i hi g hh hfr
      obtain ⟨h0, h1, h2, h3, h4⟩ := id hh
      refine ca_iload_n hX (q := 34) 3 rfl rfl rfl dX1_takeIn_33 ?_
      refine ca_bipush hX (q := 36) k_bipush_25 rfl dX1_takeIn_34 ?_
      refine ca_icmp_ge hX (q := 39) 52 rfl rfl dX1_takeIn_36 (fun z => absurd z (nI_ge (a := i) (b := 25) (by omega) (by omega))) (fun _ => ?_)
      refine ca_aload_n hX (q := 40) 0 rfl rfl rfl dX1_takeIn_39 ?_
      refine ca_iload_n hX (q := 41) 2 rfl rfl rfl dX1_takeIn_40 ?_
      refine ca_iload_n hX (q := 42) 3 rfl rfl rfl dX1_takeIn_41 ?_
      refine ca_iconst hX (q := 43) k_iconst_0 rfl dX1_takeIn_42 ?_
      refine ca_cV hX (q := 46) y_X1_learn w_ml_X1_67 (by omega) hN h0 (c_X1_learn l N g b _ hh hb (P + 1) (tkM_z h P v i) (by omega) P i (by omega) (by omega) 0) (by decide) rfl (by decide) rfl dX1_takeIn_43 rfl ?_
      rintro _ g ⟨rfl, hh, hf⟩
      have hfr := frG.tr hfr hf
      refine ca_iinc hX (q := 49) (ls' := [_, _, _, _]) k_iconst_1 rfl (Nat.le_of_ble_eq_true rfl) (Or.inr rfl) rfl rfl dX1_takeIn_46 ?_
      refine ca_goto hX 33 rfl dX1_takeIn_49 ?_
      rw [nI_1]
      exact ih (i + 1) (by omega) g (by rw [← tkM_s _ _ _ _ hP5]; exact hh) hfr
  obtain ⟨h0, h1, h2, h3, h4⟩ := id hh
  rw [hP] at h0
  refine ca_aload_n hX (q := 1) 0 rfl rfl rfl dX1_takeIn_0 ?_
  refine ca_getf hX (q := 4) cl_X1 4 (by decide) w_fl_X1_24 (by omega) h0 rfl rfl dX1_takeIn_1 ?_
  refine ca_iconst hX (q := 5) k_iconst_5 rfl dX1_takeIn_4 ?_
  refine ca_icmp_lt hX (q := 8) 10 rfl rfl dX1_takeIn_5 (fun _ => ?_) (fun z => absurd (nI_lt (a := P) (b := 5) (by omega) (by omega)) z)
  refine ca_aload_n hX (q := 11) 0 rfl rfl rfl dX1_takeIn_10 ?_
  refine ca_getf hX (q := 14) cl_X1 4 (by decide) w_fl_X1_24 (by omega) h0 rfl rfl dX1_takeIn_11 ?_
  refine ca_istore_n hX (q := 15) 2 rfl (ls' := [_, _, _, _]) (Nat.le_of_ble_eq_true rfl) (Nat.le_of_ble_eq_true rfl) (Or.inr rfl) rfl rfl dX1_takeIn_14 ?_
  refine ca_aload_n hX (q := 16) 0 rfl rfl rfl dX1_takeIn_15 ?_
  refine ca_dup hX (q := 17) rfl rfl dX1_takeIn_16 ?_
  refine ca_getf hX (q := 20) cl_X1 4 (by decide) w_fl_X1_24 (by omega) h0 rfl rfl dX1_takeIn_17 ?_
  refine ca_iconst hX (q := 21) k_iconst_1 rfl dX1_takeIn_20 ?_
  refine ca_iadd hX (q := 22) rfl dX1_takeIn_21 ?_
  refine ca_puti hX (q := 25) (fs' := [_, _, _, _, _, _]) cl_X1 4 (by decide) w_fl_X1_24 rfl rfl (by omega) hN h0 (Nat.le_of_ble_eq_true rfl) rfl rfl dX1_takeIn_22 (fun g2 hE hF => ?_)
  have h0 := hE
  have h1 := (hF (b + 1) (by omega)).trans h1
  have h2 := (hF (b + 2) (by omega)).trans h2
  have h3 := (hF (b + 3) (by omega)).trans h3
  have h4 := (hF (b + 4) (by omega)).trans h4
  have hh2 : hsG g2 b (upd h 0 (nI (P + 1))) := by
    refine ⟨?_, ?_, ?_, ?_, ?_⟩
    · rw [h0, upd_s, upd_n _ _ (by omega), ← nI_1]
    · rw [h1]; exact congrArg (fun f => Sum.inl (25, f)) (msk_ext fun j hj => by rw [upd_n _ _ (by omega)])
    · rw [h2]; exact congrArg (fun f => Sum.inl (25, f)) (msk_ext fun j hj => by rw [upd_n _ _ (by omega)])
    · rw [h3]; exact congrArg (fun f => Sum.inl (5, f)) (msk_ext fun j hj => by rw [upd_n _ _ (by omega)])
    · rw [h4]; exact congrArg (fun f => Sum.inl (125, f)) (msk_ext fun j hj => by rw [upd_n _ _ (by omega)])
  have hfr : frG g g2 b (b + 5) := fun j hj => hF j (by omega)
  refine ca_aload_n hX (q := 26) 0 rfl rfl rfl dX1_takeIn_25 ?_
  refine ca_iload_n hX (q := 27) 2 rfl rfl rfl dX1_takeIn_26 ?_
  refine ca_iload_n hX (q := 28) 1 rfl rfl rfl dX1_takeIn_27 ?_
  refine ca_cV hX (q := 31) y_X1_sharpen w_ml_X1_63 (by omega) hN h0 (c_X1_sharpen l N g2 b _ hh2 hb (P + 1) (upd_s _ _ _) (by omega) P (by omega) v) (by decide) rfl (by decide) rfl dX1_takeIn_28 rfl ?_
  rintro _ g3 ⟨rfl, hh3, hf⟩
  rw [tkM_0] at hh3
  have hfr := frG.tr hfr hf
  refine ca_iconst hX (q := 32) k_iconst_0 rfl dX1_takeIn_31 ?_
  refine ca_istore_n hX (q := 33) 3 rfl (ls' := [_, _, _, _]) (Nat.le_of_ble_eq_true rfl) (Nat.le_of_ble_eq_true rfl) (Or.inr rfl) rfl rfl dX1_takeIn_32 ?_
  exact loop 25 0 (by omega) g3 hh3 hfr

set_option maxRecDepth 100000 in
set_option maxHeartbeats 4000000 in
theorem c_X1_takeIn_full (l : Launch) (N : Nat) (g : ca_G) (b : Nat) (h : Nat → Int32) (hh : hsG g b h) (hb : b + 5 ≤ N) (hP : h 0 = 5) (v : Int32) : ca_Ct l yX1_takeIn cX1_takeIn 4 (some .boolean) 2 0 0 N 1000000 [.ref b, .int v] g (ca_pi 0 g) := by
  refine ca_intro (by decide) (Nat.le_of_ble_eq_true rfl) (fun X hX hN => ?_)
  show X 0 [_, _, none, none] [] N 1000000 g
  obtain ⟨h0, h1, h2, h3, h4⟩ := hh
  rw [hP] at h0
  refine ca_aload_n hX (q := 1) 0 rfl rfl rfl dX1_takeIn_0 ?_
  refine ca_getf hX (q := 4) cl_X1 4 (by decide) w_fl_X1_24 (by omega) h0 rfl rfl dX1_takeIn_1 ?_
  refine ca_iconst hX (q := 5) k_iconst_5 rfl dX1_takeIn_4 ?_
  refine ca_icmp_lt hX (q := 8) 10 rfl rfl dX1_takeIn_5 (fun z => absurd z (by decide)) (fun _ => ?_)
  refine ca_iconst hX (q := 9) k_iconst_0 rfl dX1_takeIn_8 ?_
  refine ca_zret hX rfl rfl rfl rfl rfl dX1_takeIn_9 ?_
  exact ⟨rfl, rfl⟩

set_option maxRecDepth 100000 in
set_option maxHeartbeats 4000000 in
theorem c_X1_become (l : Launch) (N : Nat) (g : ca_G) (b : Nat) (h : Nat → Int32) (hh : hsG g b h) (hb : b + 5 ≤ N) (c : Nat) (k : Nat → Int32) (hk : hsG g c k) (hc : c + 5 ≤ N) (hd : b + 5 ≤ c ∨ c + 5 ≤ b) : ca_Ct l yX1_become cX1_become 2 none 1 0 0 N 1000000 [.ref b, .ref c] g (fun rr g' => rr = none ∧ hsG g' b (k) ∧ frG g g' b (b + 5)) := by
  refine ca_intro (by decide) (Nat.le_of_ble_eq_true rfl) (fun X hX hN => ?_)
  show X 0 [_, _] [] N 1000000 g
  obtain ⟨h0, h1, h2, h3, h4⟩ := hh
  obtain ⟨k0, k1, k2, k3, k4⟩ := hk
  have hfr : ∀ j, (j < b ∨ b + 5 ≤ j) → g j = g j := fun _ _ => rfl
  refine ca_aload_n hX (q := 1) 1 rfl rfl rfl dX1_become_0 ?_
  refine ca_getf hX (q := 4) cl_X1 0 (by decide) w_fl_X1_9 (by omega) k0 rfl rfl dX1_become_1 ?_
  refine ca_iconst hX (q := 5) k_iconst_0 rfl dX1_become_4 ?_
  refine ca_aload_n hX (q := 6) 0 rfl rfl rfl dX1_become_5 ?_
  refine ca_getf hX (q := 9) cl_X1 0 (by decide) w_fl_X1_9 (by omega) h0 rfl rfl dX1_become_6 ?_
  refine ca_iconst hX (q := 10) k_iconst_0 rfl dX1_become_9 ?_
  refine ca_bipush hX (q := 12) k_bipush_25 rfl dX1_become_10 ?_
  refine ca_cpy hX w_ml_X1_31 (by omega) (by omega) hN (Nat.le_refl _) k1 h1 rfl (by decide) (by decide) (Nat.le_of_ble_eq_true rfl) rfl dX1_become_12 (fun g hE hF => ?_)
  have h0 := (hF b (by omega)).trans h0
  have h1 := hE
  have h2 := (hF (b + 2) (by omega)).trans h2
  have h3 := (hF (b + 3) (by omega)).trans h3
  have h4 := (hF (b + 4) (by omega)).trans h4
  have k0 := (hF c (by omega)).trans k0
  have k1 := (hF (c + 1) (by omega)).trans k1
  have k2 := (hF (c + 2) (by omega)).trans k2
  have k3 := (hF (c + 3) (by omega)).trans k3
  have k4 := (hF (c + 4) (by omega)).trans k4
  have hfr := fun j (hj : j < b ∨ b + 5 ≤ j) => (hF j (by omega)).trans (hfr j hj)
  refine ca_aload_n hX (q := 16) 1 rfl rfl rfl dX1_become_15 ?_
  refine ca_getf hX (q := 19) cl_X1 1 (by decide) w_fl_X1_15 (by omega) k0 rfl rfl dX1_become_16 ?_
  refine ca_iconst hX (q := 20) k_iconst_0 rfl dX1_become_19 ?_
  refine ca_aload_n hX (q := 21) 0 rfl rfl rfl dX1_become_20 ?_
  refine ca_getf hX (q := 24) cl_X1 1 (by decide) w_fl_X1_15 (by omega) h0 rfl rfl dX1_become_21 ?_
  refine ca_iconst hX (q := 25) k_iconst_0 rfl dX1_become_24 ?_
  refine ca_bipush hX (q := 27) k_bipush_25 rfl dX1_become_25 ?_
  refine ca_cpy hX w_ml_X1_31 (by omega) (by omega) hN (Nat.le_refl _) k2 h2 rfl (by decide) (by decide) (Nat.le_of_ble_eq_true rfl) rfl dX1_become_27 (fun g hE hF => ?_)
  have h0 := (hF b (by omega)).trans h0
  have h1 := (hF (b + 1) (by omega)).trans h1
  have h2 := hE
  have h3 := (hF (b + 3) (by omega)).trans h3
  have h4 := (hF (b + 4) (by omega)).trans h4
  have k0 := (hF c (by omega)).trans k0
  have k1 := (hF (c + 1) (by omega)).trans k1
  have k2 := (hF (c + 2) (by omega)).trans k2
  have k3 := (hF (c + 3) (by omega)).trans k3
  have k4 := (hF (c + 4) (by omega)).trans k4
  have hfr := fun j (hj : j < b ∨ b + 5 ≤ j) => (hF j (by omega)).trans (hfr j hj)
  refine ca_aload_n hX (q := 31) 1 rfl rfl rfl dX1_become_30 ?_
  refine ca_getf hX (q := 34) cl_X1 2 (by decide) w_fl_X1_18 (by omega) k0 rfl rfl dX1_become_31 ?_
  refine ca_iconst hX (q := 35) k_iconst_0 rfl dX1_become_34 ?_
  refine ca_aload_n hX (q := 36) 0 rfl rfl rfl dX1_become_35 ?_
  refine ca_getf hX (q := 39) cl_X1 2 (by decide) w_fl_X1_18 (by omega) h0 rfl rfl dX1_become_36 ?_
  refine ca_iconst hX (q := 40) k_iconst_0 rfl dX1_become_39 ?_
  refine ca_iconst hX (q := 41) k_iconst_5 rfl dX1_become_40 ?_
  refine ca_cpy hX w_ml_X1_31 (by omega) (by omega) hN (Nat.le_refl _) k3 h3 rfl (by decide) (by decide) (Nat.le_of_ble_eq_true rfl) rfl dX1_become_41 (fun g hE hF => ?_)
  have h0 := (hF b (by omega)).trans h0
  have h1 := (hF (b + 1) (by omega)).trans h1
  have h2 := (hF (b + 2) (by omega)).trans h2
  have h3 := hE
  have h4 := (hF (b + 4) (by omega)).trans h4
  have k0 := (hF c (by omega)).trans k0
  have k1 := (hF (c + 1) (by omega)).trans k1
  have k2 := (hF (c + 2) (by omega)).trans k2
  have k3 := (hF (c + 3) (by omega)).trans k3
  have k4 := (hF (c + 4) (by omega)).trans k4
  have hfr := fun j (hj : j < b ∨ b + 5 ≤ j) => (hF j (by omega)).trans (hfr j hj)
  refine ca_aload_n hX (q := 45) 1 rfl rfl rfl dX1_become_44 ?_
  refine ca_getf hX (q := 48) cl_X1 3 (by decide) w_fl_X1_21 (by omega) k0 rfl rfl dX1_become_45 ?_
  refine ca_iconst hX (q := 49) k_iconst_0 rfl dX1_become_48 ?_
  refine ca_aload_n hX (q := 50) 0 rfl rfl rfl dX1_become_49 ?_
  refine ca_getf hX (q := 53) cl_X1 3 (by decide) w_fl_X1_21 (by omega) h0 rfl rfl dX1_become_50 ?_
  refine ca_iconst hX (q := 54) k_iconst_0 rfl dX1_become_53 ?_
  refine ca_bipush hX (q := 56) k_bipush_125 rfl dX1_become_54 ?_
  refine ca_cpy hX w_ml_X1_31 (by omega) (by omega) hN (Nat.le_refl _) k4 h4 rfl (by decide) (by decide) (Nat.le_of_ble_eq_true rfl) rfl dX1_become_56 (fun g hE hF => ?_)
  have h0 := (hF b (by omega)).trans h0
  have h1 := (hF (b + 1) (by omega)).trans h1
  have h2 := (hF (b + 2) (by omega)).trans h2
  have h3 := (hF (b + 3) (by omega)).trans h3
  have h4 := hE
  have k0 := (hF c (by omega)).trans k0
  have k1 := (hF (c + 1) (by omega)).trans k1
  have k2 := (hF (c + 2) (by omega)).trans k2
  have k3 := (hF (c + 3) (by omega)).trans k3
  have k4 := (hF (c + 4) (by omega)).trans k4
  have hfr := fun j (hj : j < b ∨ b + 5 ≤ j) => (hF j (by omega)).trans (hfr j hj)
  refine ca_aload_n hX (q := 60) 0 rfl rfl rfl dX1_become_59 ?_
  refine ca_aload_n hX (q := 61) 1 rfl rfl rfl dX1_become_60 ?_
  refine ca_getf hX (q := 64) cl_X1 4 (by decide) w_fl_X1_24 (by omega) k0 rfl rfl dX1_become_61 ?_
  refine ca_puti hX (q := 67) (fs' := [_, _, _, _, _, _]) cl_X1 4 (by decide) w_fl_X1_24 rfl rfl (by omega) hN h0 (Nat.le_of_ble_eq_true rfl) rfl rfl dX1_become_64 (fun g hE hF => ?_)
  have h0 := hE
  have h1 := (hF (b + 1) (by omega)).trans h1
  have h2 := (hF (b + 2) (by omega)).trans h2
  have h3 := (hF (b + 3) (by omega)).trans h3
  have h4 := (hF (b + 4) (by omega)).trans h4
  have k0 := (hF c (by omega)).trans k0
  have k1 := (hF (c + 1) (by omega)).trans k1
  have k2 := (hF (c + 2) (by omega)).trans k2
  have k3 := (hF (c + 3) (by omega)).trans k3
  have k4 := (hF (c + 4) (by omega)).trans k4
  have hfr := fun j (hj : j < b ∨ b + 5 ≤ j) => (hF j (by omega)).trans (hfr j hj)
  refine ca_aload_n hX (q := 68) 0 rfl rfl rfl dX1_become_67 ?_
  refine ca_aload_n hX (q := 69) 1 rfl rfl rfl dX1_become_68 ?_
  refine ca_getf hX (q := 72) cl_X1 5 (by decide) w_fl_X1_28 (by omega) k0 rfl rfl dX1_become_69 ?_
  refine ca_puti hX (q := 75) (fs' := [_, _, _, _, _, _]) cl_X1 5 (by decide) w_fl_X1_28 rfl rfl (by omega) hN h0 (Nat.le_of_ble_eq_true rfl) rfl rfl dX1_become_72 (fun g hE hF => ?_)
  have h0 := hE
  have h1 := (hF (b + 1) (by omega)).trans h1
  have h2 := (hF (b + 2) (by omega)).trans h2
  have h3 := (hF (b + 3) (by omega)).trans h3
  have h4 := (hF (b + 4) (by omega)).trans h4
  have k0 := (hF c (by omega)).trans k0
  have k1 := (hF (c + 1) (by omega)).trans k1
  have k2 := (hF (c + 2) (by omega)).trans k2
  have k3 := (hF (c + 3) (by omega)).trans k3
  have k4 := (hF (c + 4) (by omega)).trans k4
  have hfr := fun j (hj : j < b ∨ b + 5 ≤ j) => (hF j (by omega)).trans (hfr j hj)
  refine ca_vret hX rfl rfl rfl rfl dX1_become_75 ?_
  refine ⟨rfl, ⟨?_, ?_, ?_, ?_, ?_⟩, hfr⟩
  · exact h0
  · rw [h1, msk_cpy]
  · rw [h2, msk_cpy]
  · rw [h3, msk_cpy]
  · rw [h4, msk_cpy]

/-- numbers told one by one: a row of n, k of them told -/
def nbG (g : ca_G) (a n : Nat) (f : Nat → Int32) (k : Nat) : Prop := g a = .inr (2, [.ref (a + 1), .int (nI k)]) ∧ g (a + 1) = .inl (n, f)
theorem nbG.fr {g g' : ca_G} {a n k lo hi : Nat} {f : Nat → Int32} (h : nbG g a n f k) (fr : frG g g' lo hi) (hd : a + 2 ≤ lo ∨ hi ≤ a) : nbG g' a n f k := ⟨(fr a (by omega)).trans h.1, (fr (a + 1) (by omega)).trans h.2⟩
def atM (f : Nat → Int32) (k j : Nat) : Int32 := if j < k then f j else -9

set_option maxRecDepth 100000 in
set_option maxHeartbeats 4000000 in
theorem c_X3_isFull (l : Launch) (N : Nat) (g : ca_G) (a n k : Nat) (f : Nat → Int32) (hh : nbG g a n f k) (ha : a + 2 ≤ N) (hn : n < 1000) (hk : k ≤ n) : ca_Ct l yX3_isFull cX3_isFull 1 (some .boolean) 0 0 0 N 1000000 [.ref a] g (ca_pi (if k < n then 0 else 1) g) := by
  refine ca_intro (by decide) (Nat.le_of_ble_eq_true rfl) (fun X hX hN => ?_)
  show X 0 [_] [] N 1000000 g
  obtain ⟨h0, h1⟩ := id hh
  refine ca_aload_n hX (q := 1) 0 rfl rfl rfl dX3_isFull_0 ?_
  refine ca_getf hX (q := 4) cl_X3 1 (by decide) w_fl_X3_21 (by omega) h0 rfl rfl dX3_isFull_1 ?_
  refine ca_aload_n hX (q := 5) 0 rfl rfl rfl dX3_isFull_4 ?_
  refine ca_getf hX (q := 8) cl_X3 0 (by decide) w_fl_X3_15 (by omega) h0 rfl rfl dX3_isFull_5 ?_
  refine ca_alen hX (q := 9) (by omega) h1 (rfl : Int32.ofNat n = nI n) rfl dX3_isFull_8 ?_
  refine ca_icmp_lt hX (q := 12) 16 rfl rfl dX3_isFull_9 (fun c9 => ?_) (fun c9 => ?_)
  · refine ca_iconst hX (q := 17) k_iconst_0 rfl dX3_isFull_16 ?_
    refine ca_zret hX rfl rfl rfl rfl rfl dX3_isFull_17 ?_
    exact ⟨by rw [if_pos ((nI_ltI (by omega) (by omega)).mp c9)], rfl⟩
  · refine ca_iconst hX (q := 13) k_iconst_1 rfl dX3_isFull_12 ?_
    refine ca_goto hX 17 rfl dX3_isFull_13 ?_
    refine ca_zret hX rfl rfl rfl rfl rfl dX3_isFull_17 ?_
    exact ⟨by rw [if_neg (fun z => c9 ((nI_ltI (by omega) (by omega)).mpr z))], rfl⟩

set_option maxRecDepth 100000 in
set_option maxHeartbeats 4000000 in
theorem c_X3_add (l : Launch) (N : Nat) (g : ca_G) (a n k : Nat) (f : Nat → Int32) (hh : nbG g a n f k) (ha : a + 2 ≤ N) (hn : n < 1000) (hk : k < n) (x : Int32) : ca_Ct l yX3_add cX3_add 2 (some .int) 0 0 0 N 1000000 [.ref a, .int x] g (fun rr g' => rr = some (.int (nI (k + 1))) ∧ nbG g' a n (upd f k x) (k + 1) ∧ frG g g' a (a + 2)) := by
  refine ca_intro (by decide) (Nat.le_of_ble_eq_true rfl) (fun X hX hN => ?_)
  show X 0 [_, _] [] N 1000000 g
  obtain ⟨h0, h1⟩ := id hh
  have hfr : ∀ j, (j < a ∨ a + 2 ≤ j) → g j = g j := fun _ _ => rfl
  refine ca_aload_n hX (q := 1) 0 rfl rfl rfl dX3_add_0 ?_
  refine ca_getf hX (q := 4) cl_X3 1 (by decide) w_fl_X3_21 (by omega) h0 rfl rfl dX3_add_1 ?_
  refine ca_if_lt hX (q := 7) 39 rfl rfl dX3_add_4 (fun z => absurd z (nI_pos (by omega))) (fun _ => ?_)
  refine ca_aload_n hX (q := 8) 0 rfl rfl rfl dX3_add_7 ?_
  refine ca_getf hX (q := 11) cl_X3 1 (by decide) w_fl_X3_21 (by omega) h0 rfl rfl dX3_add_8 ?_
  refine ca_aload_n hX (q := 12) 0 rfl rfl rfl dX3_add_11 ?_
  refine ca_getf hX (q := 15) cl_X3 0 (by decide) w_fl_X3_15 (by omega) h0 rfl rfl dX3_add_12 ?_
  refine ca_alen hX (q := 16) (by omega) h1 (rfl : Int32.ofNat n = nI n) rfl dX3_add_15 ?_
  refine ca_icmp_ge hX (q := 19) 39 rfl rfl dX3_add_16 (fun z => absurd z (nI_ge (by omega) (by omega))) (fun _ => ?_)
  refine ca_aload_n hX (q := 20) 0 rfl rfl rfl dX3_add_19 ?_
  refine ca_getf hX (q := 23) cl_X3 0 (by decide) w_fl_X3_15 (by omega) h0 rfl rfl dX3_add_20 ?_
  refine ca_aload_n hX (q := 24) 0 rfl rfl rfl dX3_add_23 ?_
  refine ca_getf hX (q := 27) cl_X3 1 (by decide) w_fl_X3_21 (by omega) h0 rfl rfl dX3_add_24 ?_
  refine ca_iload_n hX (q := 28) 1 rfl rfl rfl dX3_add_27 ?_
  refine ca_iaS hX (q := 29) (k := k) (by omega) hN (Nat.le_refl _) h1 (by omega) rfl hk rfl dX3_add_28 (fun g hE hF => ?_)
  have h0 := (hF a (by omega)).trans h0
  have h1 := hE
  have hfr := fun j (hj : j < a ∨ a + 2 ≤ j) => (hF j (by omega)).trans (hfr j hj)
  refine ca_aload_n hX (q := 30) 0 rfl rfl rfl dX3_add_29 ?_
  refine ca_dup hX (q := 31) rfl rfl dX3_add_30 ?_
  refine ca_getf hX (q := 34) cl_X3 1 (by decide) w_fl_X3_21 (by omega) h0 rfl rfl dX3_add_31 ?_
  refine ca_iconst hX (q := 35) k_iconst_1 rfl dX3_add_34 ?_
  refine ca_iadd hX (q := 36) rfl dX3_add_35 ?_
  refine ca_puti hX (q := 39) (fs' := [_, _]) cl_X3 1 (by decide) w_fl_X3_21 rfl rfl (by omega) hN h0 (Nat.le_of_ble_eq_true rfl) rfl rfl dX3_add_36 (fun g hE hF => ?_)
  have h0 := hE
  have h1 := (hF (a + 1) (by omega)).trans h1
  have hfr := fun j (hj : j < a ∨ a + 2 ≤ j) => (hF j (by omega)).trans (hfr j hj)
  refine ca_aload_n hX (q := 40) 0 rfl rfl rfl dX3_add_39 ?_
  refine ca_getf hX (q := 43) cl_X3 1 (by decide) w_fl_X3_21 (by omega) h0 rfl rfl dX3_add_40 ?_
  refine ca_iret hX rfl rfl rfl rfl dX3_add_43 ?_
  rw [nI_1] at h0 ⊢
  exact ⟨rfl, ⟨h0, h1⟩, hfr⟩

set_option maxRecDepth 100000 in
set_option maxHeartbeats 4000000 in
theorem c_X3_at (l : Launch) (N : Nat) (g : ca_G) (a n k : Nat) (f : Nat → Int32) (hh : nbG g a n f k) (ha : a + 2 ≤ N) (hn : n < 1000) (hk : k ≤ n) (j : Nat) (hj : j < 100000) : ca_Ct l yX3_at cX3_at 2 (some .int) 0 0 0 N 1000000 [.ref a, .int (nI j)] g (ca_pi (atM f k j) g) := by
  refine ca_intro (by decide) (Nat.le_of_ble_eq_true rfl) (fun X hX hN => ?_)
  show X 0 [_, _] [] N 1000000 g
  obtain ⟨h0, h1⟩ := id hh
  refine ca_iload_n hX (q := 1) 1 rfl rfl rfl dX3_at_0 ?_
  refine ca_if_lt hX (q := 4) 30 rfl rfl dX3_at_1 (fun z => absurd z (nI_pos (by omega))) (fun _ => ?_)
  refine ca_iload_n hX (q := 5) 1 rfl rfl rfl dX3_at_4 ?_
  refine ca_aload_n hX (q := 6) 0 rfl rfl rfl dX3_at_5 ?_
  refine ca_getf hX (q := 9) cl_X3 1 (by decide) w_fl_X3_21 (by omega) h0 rfl rfl dX3_at_6 ?_
  refine ca_icmp_ge hX (q := 12) 30 rfl rfl dX3_at_9 (fun c9 => ?_) (fun c9 => ?_)
  · refine ca_bipush hX (q := 32) k_bipush_m9 rfl dX3_at_30 ?_
    refine ca_iret hX rfl rfl rfl rfl dX3_at_32 ?_
    exact ⟨by rw [atM, if_neg (by have := nI_hi c9 (by omega) (by omega); omega)], rfl⟩
  · refine ca_iload_n hX (q := 13) 1 rfl rfl rfl dX3_at_12 ?_
    refine ca_aload_n hX (q := 14) 0 rfl rfl rfl dX3_at_13 ?_
    refine ca_getf hX (q := 17) cl_X3 0 (by decide) w_fl_X3_15 (by omega) h0 rfl rfl dX3_at_14 ?_
    refine ca_alen hX (q := 18) (by omega) h1 (rfl : Int32.ofNat n = nI n) rfl dX3_at_17 ?_
    refine ca_icmp_ge hX (q := 21) 30 rfl rfl dX3_at_18 (fun z => absurd z (nI_ge (by have := nI_lo c9 (by omega) (by omega); omega) (by omega))) (fun _ => ?_)
    refine ca_aload_n hX (q := 22) 0 rfl rfl rfl dX3_at_21 ?_
    refine ca_getf hX (q := 25) cl_X3 0 (by decide) w_fl_X3_15 (by omega) h0 rfl rfl dX3_at_22 ?_
    refine ca_iload_n hX (q := 26) 1 rfl rfl rfl dX3_at_25 ?_
    refine ca_iaN hX (q := 27) (k := j) (by omega) h1 (by omega) rfl (by have := nI_lo c9 (by omega) (by omega); omega) rfl dX3_at_26 ?_
    refine ca_goto hX 32 rfl dX3_at_27 ?_
    refine ca_iret hX rfl rfl rfl rfl dX3_at_32 ?_
    exact ⟨by rw [atM, if_pos (by have := nI_lo c9 (by omega) (by omega); omega)], rfl⟩

set_option maxRecDepth 100000 in
set_option maxHeartbeats 4000000 in
theorem c_X3_forget (l : Launch) (N : Nat) (g : ca_G) (a n k : Nat) (f : Nat → Int32) (hh : nbG g a n f k) (ha : a + 2 ≤ N) (hn : n < 1000) (hk : k ≤ n) : ca_Ct l yX3_forget cX3_forget 1 none 0 0 0 N 1000000 [.ref a] g (fun rr g' => rr = none ∧ nbG g' a n (f) 0 ∧ frG g g' a (a + 2)) := by
  refine ca_intro (by decide) (Nat.le_of_ble_eq_true rfl) (fun X hX hN => ?_)
  show X 0 [_] [] N 1000000 g
  obtain ⟨h0, h1⟩ := id hh
  have hfr : ∀ j, (j < a ∨ a + 2 ≤ j) → g j = g j := fun _ _ => rfl
  refine ca_aload_n hX (q := 1) 0 rfl rfl rfl dX3_forget_0 ?_
  refine ca_iconst hX (q := 2) k_iconst_0 rfl dX3_forget_1 ?_
  refine ca_puti hX (q := 5) (fs' := [_, _]) cl_X3 1 (by decide) w_fl_X3_21 rfl rfl (by omega) hN h0 (Nat.le_of_ble_eq_true rfl) rfl rfl dX3_forget_2 (fun g hE hF => ?_)
  have h0 := hE
  have h1 := (hF (a + 1) (by omega)).trans h1
  have hfr := fun j (hj : j < a ∨ a + 2 ≤ j) => (hF j (by omega)).trans (hfr j hj)
  refine ca_vret hX rfl rfl rfl rfl dX3_forget_5 ?_
  exact ⟨rfl, ⟨h0, h1⟩, hfr⟩
end
