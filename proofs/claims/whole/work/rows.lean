section
-- ===== PART A: goes FIRST, ahead of the names: the tables' words, and 'selects' of the private methods out of them =====
/-- a private method of a class that the tables say can be made, by its rows of tables_1 -/
def lw_okq (q : MethodName × Nat) : Prop := (q.1.cls ≠ "java/lang/invoke/MethodHandle" ∧ q.1.cls ≠ "java/lang/invoke/VarHandle") ∧ Cond.instantiable q.1.cls q.2 ∈ tables_1 ∧ Cond.privateMethod q.1 ∈ tables_1 ∧ Cond.instanceMethod q.1 ∈ tables_1
theorem lw_p0 : lw_okq (⟨"FoldedKeys", "readText", "()I"⟩, 5) := ⟨⟨by decide +kernel, by decide +kernel⟩, List.mem_of_getElem? (i := 17) (by decide +kernel), List.mem_of_getElem? (i := 161) (by decide +kernel), List.mem_of_getElem? (i := 162) (by decide +kernel)⟩
theorem lw_p1 : lw_okq (⟨"FoldedKeys$Text", "take", "(ILFoldedKeys$Corridor;)Z"⟩, 4) := ⟨⟨by decide +kernel, by decide +kernel⟩, List.mem_of_getElem? (i := 116) (by decide +kernel), List.mem_of_getElem? (i := 181) (by decide +kernel), List.mem_of_getElem? (i := 182) (by decide +kernel)⟩
theorem lw_p2 : lw_okq (⟨"FoldedKeys$Text", "takeKey", "(ILFoldedKeys$Corridor;)Z"⟩, 4) := ⟨⟨by decide +kernel, by decide +kernel⟩, List.mem_of_getElem? (i := 116) (by decide +kernel), List.mem_of_getElem? (i := 185) (by decide +kernel), List.mem_of_getElem? (i := 186) (by decide +kernel)⟩
theorem lw_p3 : lw_okq (⟨"FoldedKeys$Text", "takeLadder", "(LFoldedKeys$Corridor;)Z"⟩, 4) := ⟨⟨by decide +kernel, by decide +kernel⟩, List.mem_of_getElem? (i := 116) (by decide +kernel), List.mem_of_getElem? (i := 206) (by decide +kernel), List.mem_of_getElem? (i := 207) (by decide +kernel)⟩
theorem lw_p4 : lw_okq (⟨"FoldedKeys$Text", "takeDoor", "(ILFoldedKeys$Corridor;)Z"⟩, 4) := ⟨⟨by decide +kernel, by decide +kernel⟩, List.mem_of_getElem? (i := 116) (by decide +kernel), List.mem_of_getElem? (i := 217) (by decide +kernel), List.mem_of_getElem? (i := 218) (by decide +kernel)⟩
theorem lw_p5 : lw_okq (⟨"FoldedKeys$Search", "forget", "()V"⟩, 6) := ⟨⟨by decide +kernel, by decide +kernel⟩, List.mem_of_getElem? (i := 89) (by decide +kernel), List.mem_of_getElem? (i := 236) (by decide +kernel), List.mem_of_getElem? (i := 237) (by decide +kernel)⟩
theorem lw_p6 : lw_okq (⟨"FoldedKeys$Search", "add", "(IIII)V"⟩, 6) := ⟨⟨by decide +kernel, by decide +kernel⟩, List.mem_of_getElem? (i := 89) (by decide +kernel), List.mem_of_getElem? (i := 240) (by decide +kernel), List.mem_of_getElem? (i := 241) (by decide +kernel)⟩
theorem lw_p7 : lw_okq (⟨"FoldedKeys$Corridor", "targetOf", "(II)I"⟩, 9) := ⟨⟨by decide +kernel, by decide +kernel⟩, List.mem_of_getElem? (i := 25) (by decide +kernel), List.mem_of_getElem? (i := 266) (by decide +kernel), List.mem_of_getElem? (i := 267) (by decide +kernel)⟩
theorem lw_p8 : lw_okq (⟨"FoldedKeys$Corridor", "byLadder", "(II)I"⟩, 9) := ⟨⟨by decide +kernel, by decide +kernel⟩, List.mem_of_getElem? (i := 25) (by decide +kernel), List.mem_of_getElem? (i := 278) (by decide +kernel), List.mem_of_getElem? (i := 279) (by decide +kernel)⟩
theorem lw_p9 : lw_okq (⟨"FoldedKeys$Corridor", "lockOnWay", "(II)I"⟩, 9) := ⟨⟨by decide +kernel, by decide +kernel⟩, List.mem_of_getElem? (i := 25) (by decide +kernel), List.mem_of_getElem? (i := 286) (by decide +kernel), List.mem_of_getElem? (i := 287) (by decide +kernel)⟩
theorem lw_p10 : lw_okq (⟨"FoldedKeys", "digestOfLooks", "(J)J"⟩, 5) := ⟨⟨by decide +kernel, by decide +kernel⟩, List.mem_of_getElem? (i := 17) (by decide +kernel), List.mem_of_getElem? (i := 314) (by decide +kernel), List.mem_of_getElem? (i := 315) (by decide +kernel)⟩
theorem lw_p11 : lw_okq (⟨"FoldedKeys", "numberInAll", "(I)I"⟩, 5) := ⟨⟨by decide +kernel, by decide +kernel⟩, List.mem_of_getElem? (i := 17) (by decide +kernel), List.mem_of_getElem? (i := 318) (by decide +kernel), List.mem_of_getElem? (i := 319) (by decide +kernel)⟩
theorem lw_p12 : lw_okq (⟨"FoldedKeys", "numberOfWalker", "(I)I"⟩, 5) := ⟨⟨by decide +kernel, by decide +kernel⟩, List.mem_of_getElem? (i := 17) (by decide +kernel), List.mem_of_getElem? (i := 339) (by decide +kernel), List.mem_of_getElem? (i := 340) (by decide +kernel)⟩
theorem lw_p13 : lw_okq (⟨"FoldedKeys", "numberOfCell", "(II)I"⟩, 5) := ⟨⟨by decide +kernel, by decide +kernel⟩, List.mem_of_getElem? (i := 17) (by decide +kernel), List.mem_of_getElem? (i := 345) (by decide +kernel), List.mem_of_getElem? (i := 346) (by decide +kernel)⟩
theorem lw_p14 : lw_okq (⟨"FoldedKeys$Search", "entryAt", "(I)I"⟩, 6) := ⟨⟨by decide +kernel, by decide +kernel⟩, List.mem_of_getElem? (i := 89) (by decide +kernel), List.mem_of_getElem? (i := 371) (by decide +kernel), List.mem_of_getElem? (i := 372) (by decide +kernel)⟩
theorem lw_p15 : lw_okq (⟨"FoldedKeys", "reachedWithoutKey", "(I)I"⟩, 5) := ⟨⟨by decide +kernel, by decide +kernel⟩, List.mem_of_getElem? (i := 17) (by decide +kernel), List.mem_of_getElem? (i := 381) (by decide +kernel), List.mem_of_getElem? (i := 382) (by decide +kernel)⟩
def lw_privs_1 : List (MethodName × Nat) := [(⟨"FoldedKeys", "readText", "()I"⟩, 5), (⟨"FoldedKeys$Text", "take", "(ILFoldedKeys$Corridor;)Z"⟩, 4), (⟨"FoldedKeys$Text", "takeKey", "(ILFoldedKeys$Corridor;)Z"⟩, 4), (⟨"FoldedKeys$Text", "takeLadder", "(LFoldedKeys$Corridor;)Z"⟩, 4), (⟨"FoldedKeys$Text", "takeDoor", "(ILFoldedKeys$Corridor;)Z"⟩, 4), (⟨"FoldedKeys$Search", "forget", "()V"⟩, 6), (⟨"FoldedKeys$Search", "add", "(IIII)V"⟩, 6), (⟨"FoldedKeys$Corridor", "targetOf", "(II)I"⟩, 9), (⟨"FoldedKeys$Corridor", "byLadder", "(II)I"⟩, 9), (⟨"FoldedKeys$Corridor", "lockOnWay", "(II)I"⟩, 9), (⟨"FoldedKeys", "digestOfLooks", "(J)J"⟩, 5), (⟨"FoldedKeys", "numberInAll", "(I)I"⟩, 5), (⟨"FoldedKeys", "numberOfWalker", "(I)I"⟩, 5), (⟨"FoldedKeys", "numberOfCell", "(II)I"⟩, 5), (⟨"FoldedKeys$Search", "entryAt", "(I)I"⟩, 6), (⟨"FoldedKeys", "reachedWithoutKey", "(I)I"⟩, 5)]
theorem lw_r1 : ∀ q ∈ lw_privs_1, lw_okq q := List.forall_mem_cons.mpr ⟨lw_p0, List.forall_mem_cons.mpr ⟨lw_p1, List.forall_mem_cons.mpr ⟨lw_p2, List.forall_mem_cons.mpr ⟨lw_p3, List.forall_mem_cons.mpr ⟨lw_p4, List.forall_mem_cons.mpr ⟨lw_p5, List.forall_mem_cons.mpr ⟨lw_p6, List.forall_mem_cons.mpr ⟨lw_p7, List.forall_mem_cons.mpr ⟨lw_p8, List.forall_mem_cons.mpr ⟨lw_p9, List.forall_mem_cons.mpr ⟨lw_p10, List.forall_mem_cons.mpr ⟨lw_p11, List.forall_mem_cons.mpr ⟨lw_p12, List.forall_mem_cons.mpr ⟨lw_p13, List.forall_mem_cons.mpr ⟨lw_p14, List.forall_mem_cons.mpr ⟨lw_p15, fun _ h => absurd h List.not_mem_nil⟩⟩⟩⟩⟩⟩⟩⟩⟩⟩⟩⟩⟩⟩⟩⟩
theorem lw_p16 : lw_okq (⟨"FoldedKeys", "reachedWithDoor", "(II)I"⟩, 5) := ⟨⟨by decide +kernel, by decide +kernel⟩, List.mem_of_getElem? (i := 17) (by decide +kernel), List.mem_of_getElem? (i := 386) (by decide +kernel), List.mem_of_getElem? (i := 387) (by decide +kernel)⟩
theorem lw_p17 : lw_okq (⟨"java/lang/Throwable", "fillInStackTrace", "(I)Ljava/lang/Throwable;"⟩, 6) := ⟨⟨by decide +kernel, by decide +kernel⟩, List.mem_of_getElem? (i := 445) (by decide +kernel), List.mem_of_getElem? (i := 443) (by decide +kernel), List.mem_of_getElem? (i := 444) (by decide +kernel)⟩
theorem lw_p18 : lw_okq (⟨"FoldedKeys$Saves", "slotAt", "(I)LFoldedKeys$Corridor;"⟩, 3) := ⟨⟨by decide +kernel, by decide +kernel⟩, List.mem_of_getElem? (i := 69) (by decide +kernel), List.mem_of_getElem? (i := 498) (by decide +kernel), List.mem_of_getElem? (i := 499) (by decide +kernel)⟩
theorem lw_p19 : lw_okq (⟨"FoldedKeysModel", "fails", "(I)I"⟩, 18) := ⟨⟨by decide +kernel, by decide +kernel⟩, List.mem_of_getElem? (i := 666) (by decide +kernel), List.mem_of_getElem? (i := 735) (by decide +kernel), List.mem_of_getElem? (i := 736) (by decide +kernel)⟩
theorem lw_p20 : lw_okq (⟨"FoldedKeysModel", "saves", "()V"⟩, 18) := ⟨⟨by decide +kernel, by decide +kernel⟩, List.mem_of_getElem? (i := 666) (by decide +kernel), List.mem_of_getElem? (i := 749) (by decide +kernel), List.mem_of_getElem? (i := 750) (by decide +kernel)⟩
theorem lw_p21 : lw_okq (⟨"FoldedKeysModel", "changes", "(II)I"⟩, 18) := ⟨⟨by decide +kernel, by decide +kernel⟩, List.mem_of_getElem? (i := 666) (by decide +kernel), List.mem_of_getElem? (i := 753) (by decide +kernel), List.mem_of_getElem? (i := 754) (by decide +kernel)⟩
theorem lw_p22 : lw_okq (⟨"FoldedKeysModel", "keys", "()I"⟩, 18) := ⟨⟨by decide +kernel, by decide +kernel⟩, List.mem_of_getElem? (i := 666) (by decide +kernel), List.mem_of_getElem? (i := 764) (by decide +kernel), List.mem_of_getElem? (i := 765) (by decide +kernel)⟩
theorem lw_p23 : lw_okq (⟨"FoldedKeysModel", "laysNow", "()V"⟩, 18) := ⟨⟨by decide +kernel, by decide +kernel⟩, List.mem_of_getElem? (i := 666) (by decide +kernel), List.mem_of_getElem? (i := 806) (by decide +kernel), List.mem_of_getElem? (i := 807) (by decide +kernel)⟩
theorem lw_p24 : lw_okq (⟨"FoldedKeysModel", "lays", "([I)V"⟩, 18) := ⟨⟨by decide +kernel, by decide +kernel⟩, List.mem_of_getElem? (i := 666) (by decide +kernel), List.mem_of_getElem? (i := 810) (by decide +kernel), List.mem_of_getElem? (i := 811) (by decide +kernel)⟩
theorem lw_p25 : lw_okq (⟨"FoldedKeysModel", "begins", "([I)I"⟩, 18) := ⟨⟨by decide +kernel, by decide +kernel⟩, List.mem_of_getElem? (i := 666) (by decide +kernel), List.mem_of_getElem? (i := 814) (by decide +kernel), List.mem_of_getElem? (i := 815) (by decide +kernel)⟩
theorem lw_p26 : lw_okq (⟨"FoldedKeysModel", "behind", "([III)I"⟩, 18) := ⟨⟨by decide +kernel, by decide +kernel⟩, List.mem_of_getElem? (i := 666) (by decide +kernel), List.mem_of_getElem? (i := 818) (by decide +kernel), List.mem_of_getElem? (i := 819) (by decide +kernel)⟩
theorem lw_p27 : lw_okq (⟨"FoldedKeysModel", "changed", "(III)I"⟩, 18) := ⟨⟨by decide +kernel, by decide +kernel⟩, List.mem_of_getElem? (i := 666) (by decide +kernel), List.mem_of_getElem? (i := 822) (by decide +kernel), List.mem_of_getElem? (i := 823) (by decide +kernel)⟩
theorem lw_p28 : lw_okq (⟨"FoldedKeysModel", "steps", "(I)I"⟩, 18) := ⟨⟨by decide +kernel, by decide +kernel⟩, List.mem_of_getElem? (i := 666) (by decide +kernel), List.mem_of_getElem? (i := 826) (by decide +kernel), List.mem_of_getElem? (i := 827) (by decide +kernel)⟩
theorem lw_p29 : lw_okq (⟨"FoldedKeysModel", "stepAt", "(II)I"⟩, 18) := ⟨⟨by decide +kernel, by decide +kernel⟩, List.mem_of_getElem? (i := 666) (by decide +kernel), List.mem_of_getElem? (i := 830) (by decide +kernel), List.mem_of_getElem? (i := 831) (by decide +kernel)⟩
theorem lw_p30 : lw_okq (⟨"FoldedKeysModel", "isText", "()Z"⟩, 18) := ⟨⟨by decide +kernel, by decide +kernel⟩, List.mem_of_getElem? (i := 666) (by decide +kernel), List.mem_of_getElem? (i := 846) (by decide +kernel), List.mem_of_getElem? (i := 847) (by decide +kernel)⟩
theorem lw_p31 : lw_okq (⟨"FoldedKeysModel", "isAt", "(II)Z"⟩, 18) := ⟨⟨by decide +kernel, by decide +kernel⟩, List.mem_of_getElem? (i := 666) (by decide +kernel), List.mem_of_getElem? (i := 850) (by decide +kernel), List.mem_of_getElem? (i := 851) (by decide +kernel)⟩
def lw_privs_2 : List (MethodName × Nat) := [(⟨"FoldedKeys", "reachedWithDoor", "(II)I"⟩, 5), (⟨"java/lang/Throwable", "fillInStackTrace", "(I)Ljava/lang/Throwable;"⟩, 6), (⟨"FoldedKeys$Saves", "slotAt", "(I)LFoldedKeys$Corridor;"⟩, 3), (⟨"FoldedKeysModel", "fails", "(I)I"⟩, 18), (⟨"FoldedKeysModel", "saves", "()V"⟩, 18), (⟨"FoldedKeysModel", "changes", "(II)I"⟩, 18), (⟨"FoldedKeysModel", "keys", "()I"⟩, 18), (⟨"FoldedKeysModel", "laysNow", "()V"⟩, 18), (⟨"FoldedKeysModel", "lays", "([I)V"⟩, 18), (⟨"FoldedKeysModel", "begins", "([I)I"⟩, 18), (⟨"FoldedKeysModel", "behind", "([III)I"⟩, 18), (⟨"FoldedKeysModel", "changed", "(III)I"⟩, 18), (⟨"FoldedKeysModel", "steps", "(I)I"⟩, 18), (⟨"FoldedKeysModel", "stepAt", "(II)I"⟩, 18), (⟨"FoldedKeysModel", "isText", "()Z"⟩, 18), (⟨"FoldedKeysModel", "isAt", "(II)Z"⟩, 18)]
theorem lw_r2 : ∀ q ∈ lw_privs_2, lw_okq q := List.forall_mem_cons.mpr ⟨lw_p16, List.forall_mem_cons.mpr ⟨lw_p17, List.forall_mem_cons.mpr ⟨lw_p18, List.forall_mem_cons.mpr ⟨lw_p19, List.forall_mem_cons.mpr ⟨lw_p20, List.forall_mem_cons.mpr ⟨lw_p21, List.forall_mem_cons.mpr ⟨lw_p22, List.forall_mem_cons.mpr ⟨lw_p23, List.forall_mem_cons.mpr ⟨lw_p24, List.forall_mem_cons.mpr ⟨lw_p25, List.forall_mem_cons.mpr ⟨lw_p26, List.forall_mem_cons.mpr ⟨lw_p27, List.forall_mem_cons.mpr ⟨lw_p28, List.forall_mem_cons.mpr ⟨lw_p29, List.forall_mem_cons.mpr ⟨lw_p30, List.forall_mem_cons.mpr ⟨lw_p31, fun _ h => absurd h List.not_mem_nil⟩⟩⟩⟩⟩⟩⟩⟩⟩⟩⟩⟩⟩⟩⟩⟩
theorem lw_p32 : lw_okq (⟨"FoldedKeysModel", "ofCell", "(II)I"⟩, 18) := ⟨⟨by decide +kernel, by decide +kernel⟩, List.mem_of_getElem? (i := 666) (by decide +kernel), List.mem_of_getElem? (i := 862) (by decide +kernel), List.mem_of_getElem? (i := 863) (by decide +kernel)⟩
theorem lw_p33 : lw_okq (⟨"FoldedKeysModel", "planned", "(II)I"⟩, 18) := ⟨⟨by decide +kernel, by decide +kernel⟩, List.mem_of_getElem? (i := 666) (by decide +kernel), List.mem_of_getElem? (i := 874) (by decide +kernel), List.mem_of_getElem? (i := 875) (by decide +kernel)⟩
theorem lw_p34 : lw_okq (⟨"FoldedKeysModel", "counted", "(I)I"⟩, 18) := ⟨⟨by decide +kernel, by decide +kernel⟩, List.mem_of_getElem? (i := 666) (by decide +kernel), List.mem_of_getElem? (i := 882) (by decide +kernel), List.mem_of_getElem? (i := 883) (by decide +kernel)⟩
theorem lw_p35 : lw_okq (⟨"FoldedKeysModel", "doors", "()I"⟩, 18) := ⟨⟨by decide +kernel, by decide +kernel⟩, List.mem_of_getElem? (i := 666) (by decide +kernel), List.mem_of_getElem? (i := 886) (by decide +kernel), List.mem_of_getElem? (i := 887) (by decide +kernel)⟩
theorem lw_p36 : lw_okq (⟨"FoldedKeysModel", "ladders", "()I"⟩, 18) := ⟨⟨by decide +kernel, by decide +kernel⟩, List.mem_of_getElem? (i := 666) (by decide +kernel), List.mem_of_getElem? (i := 890) (by decide +kernel), List.mem_of_getElem? (i := 891) (by decide +kernel)⟩
theorem lw_p37 : lw_okq (⟨"FoldedKeysModel", "reachable", "()I"⟩, 18) := ⟨⟨by decide +kernel, by decide +kernel⟩, List.mem_of_getElem? (i := 666) (by decide +kernel), List.mem_of_getElem? (i := 894) (by decide +kernel), List.mem_of_getElem? (i := 895) (by decide +kernel)⟩
theorem lw_p38 : lw_okq (⟨"FoldedKeysModel", "longest", "()I"⟩, 18) := ⟨⟨by decide +kernel, by decide +kernel⟩, List.mem_of_getElem? (i := 666) (by decide +kernel), List.mem_of_getElem? (i := 898) (by decide +kernel), List.mem_of_getElem? (i := 899) (by decide +kernel)⟩
theorem lw_p39 : lw_okq (⟨"FoldedKeysModel", "with", "(II)I"⟩, 18) := ⟨⟨by decide +kernel, by decide +kernel⟩, List.mem_of_getElem? (i := 666) (by decide +kernel), List.mem_of_getElem? (i := 910) (by decide +kernel), List.mem_of_getElem? (i := 911) (by decide +kernel)⟩
theorem lw_p40 : lw_okq (⟨"FoldedKeysModel", "best", "()I"⟩, 18) := ⟨⟨by decide +kernel, by decide +kernel⟩, List.mem_of_getElem? (i := 666) (by decide +kernel), List.mem_of_getElem? (i := 922) (by decide +kernel), List.mem_of_getElem? (i := 923) (by decide +kernel)⟩
theorem lw_p41 : lw_okq (⟨"FoldedKeysModel", "share", "()D"⟩, 18) := ⟨⟨by decide +kernel, by decide +kernel⟩, List.mem_of_getElem? (i := 666) (by decide +kernel), List.mem_of_getElem? (i := 930) (by decide +kernel), List.mem_of_getElem? (i := 931) (by decide +kernel)⟩
def lw_privs_3 : List (MethodName × Nat) := [(⟨"FoldedKeysModel", "ofCell", "(II)I"⟩, 18), (⟨"FoldedKeysModel", "planned", "(II)I"⟩, 18), (⟨"FoldedKeysModel", "counted", "(I)I"⟩, 18), (⟨"FoldedKeysModel", "doors", "()I"⟩, 18), (⟨"FoldedKeysModel", "ladders", "()I"⟩, 18), (⟨"FoldedKeysModel", "reachable", "()I"⟩, 18), (⟨"FoldedKeysModel", "longest", "()I"⟩, 18), (⟨"FoldedKeysModel", "with", "(II)I"⟩, 18), (⟨"FoldedKeysModel", "best", "()I"⟩, 18), (⟨"FoldedKeysModel", "share", "()D"⟩, 18)]
theorem lw_r3 : ∀ q ∈ lw_privs_3, lw_okq q := List.forall_mem_cons.mpr ⟨lw_p32, List.forall_mem_cons.mpr ⟨lw_p33, List.forall_mem_cons.mpr ⟨lw_p34, List.forall_mem_cons.mpr ⟨lw_p35, List.forall_mem_cons.mpr ⟨lw_p36, List.forall_mem_cons.mpr ⟨lw_p37, List.forall_mem_cons.mpr ⟨lw_p38, List.forall_mem_cons.mpr ⟨lw_p39, List.forall_mem_cons.mpr ⟨lw_p40, List.forall_mem_cons.mpr ⟨lw_p41, fun _ h => absurd h List.not_mem_nil⟩⟩⟩⟩⟩⟩⟩⟩⟩⟩
def lw_privs : List (MethodName × Nat) := lw_privs_1 ++ (lw_privs_2 ++ (lw_privs_3))
def lw_tbl : List Cond := k2_sels lw_privs ++ tables_1
theorem lw_privs_ok : ∀ q ∈ lw_privs, lw_okq q := by
  show ∀ q ∈ lw_privs_1 ++ (lw_privs_2 ++ (lw_privs_3)), lw_okq q
  exact List.forall_mem_append.mpr ⟨lw_r1, List.forall_mem_append.mpr ⟨lw_r2, lw_r3⟩⟩
/-- the streams that the claim lets the run draw from -/
abbrev lw_cs : List Choice := [Jvm.Choice.named "NaN.bits"]
theorem lw_bits : nanBits ∈ lw_cs := by first | decide | exact List.mem_cons_self | simp [lw_cs, nanBits]
/-! ===== BEGIN words of one list among another's, by their places ===== -/
theorem goodIn_r {big : List Cond} (ws : List Cond) (ps : List Nat) (hp : ws = ps.filterMap (fun i => big[i]?)) (h : ws.all goodWord = true) : GoodIn big ws := by
  intro w hw
  have h1 := List.all_eq_true.mp h w hw
  rw [hp] at hw
  obtain ⟨i, -, hi⟩ := List.mem_filterMap.mp hw
  have hm : w ∈ big := by first | exact List.mem_of_getElem? hi | exact List.getElem?_mem hi
  exact ⟨hm, good_of_word h1⟩
theorem goodIn_app {big a b : List Cond} (ha : GoodIn big a) (hb : GoodIn big b) : GoodIn big (a ++ b) := fun w h => (List.mem_append.mp h).elim (ha w) (hb w)
theorem goodIn_ca {big a b : List Cond} {c : Cond} (ha : GoodIn big (c :: a)) (hb : GoodIn big b) : GoodIn big (c :: (a ++ b)) := fun w h => (List.mem_cons.mp h).elim (fun e => ha w (List.mem_cons.mpr (Or.inl e))) (fun h => (List.mem_append.mp h).elim (fun h => ha w (List.mem_cons.mpr (Or.inr h))) (hb w))
theorem goodIn_sub {big ws : List Cond} (hm : ∀ w ∈ ws, w ∈ big) (h : ws.all goodWord = true) : GoodIn big ws := fun w hw => ⟨hm w hw, good_of_word (List.all_eq_true.mp h w hw)⟩
/-! ===== END ===== -/

/-! ===== BEGIN exceptions that leave a method, and their catching by the caller (launches without stack traces) ===== -/
section VXA
/-! The laws vx_back, vx_callV, vx_callS, vx_callSW, vx_throw0, vx_throwS follow proofs of the library, with one case more: JvmDerived/Free/Laws.lean (Back.of_free), Shelf42/LK1.lean (callV, callS), Shelf/KitTraced.lean (throwNew0V, throwNewS). -/
/-- where a method has thrown q: the class by its name, the cell, what was written, the world -/
def vx_T (XC : String → State → State → Prop) (st : State) (q : Addr) (t : State) (mc ms : Nat) (free : Addr → Prop) : Prop :=
  ∃ (E : String) (ce : Cell) (L : List Loc), XC E st t ∧ t.heap[q]? = some ce ∧ ce.vm = .none ∧ st.vm.findClass E = some ce.cls ∧ st.WarmedH t.vm ∧ st.sameButNew ({ t with vm := st.vm } : State) L mc ms ∧ ∀ z ∈ L, free z.base
def vx_Q (Qc : Array Value → State → Outcome → State → Prop) (XC : String → State → State → Prop) (mc ms : Nat) (free : Addr → Prop) : Array Value → State → Outcome → State → Prop := fun a st o t =>
  (Qc a st o t ∧ ∃ L, FrameEnd st o t L mc ms ∧ ∀ q ∈ L, free q.base) ∨ ∃ q, o = .threw q ∧ vx_T XC st q t mc ms free
/-- a callee that returns or throws -/
def vx_Met (l : Launch) (y : MethodName) (ws : List Cond) (rm : Room) (Pc : Array Value → State → Prop) (Qc : Array Value → State → Outcome → State → Prop) (XC : String → State → State → Prop) (mc ms : Nat) (free : Addr → Prop) : Prop :=
  MetFree l y (headSpec ws rm) Pc (fun _ _ _ _ _ => True) (vx_Q Qc XC mc ms free)
def vx_Post (XC : String → State → State → Prop) (mc ms : Nat) (free : Addr → Prop) : Pt → Array Value → Addr → Pt → Prop := fun A a q B =>
  ∃ (g : JFrame) (mk : MethodId) (t : State) (L : List Loc) (E : String) (ce : Cell), B.U.heap = t.heap ∧ B.U.vm = t.vm ∧ XC E (A.U.calling g mk a) t ∧ t.heap[q]? = some ce ∧ ce.vm = .none ∧ A.U.vm.findClass E = some ce.cls ∧ B.locs = A.locs ++ L ∧ (∀ z ∈ L, free z.base) ∧ B.cells = A.cells + mc ∧ B.slots = A.slots + ms
def vx_Back (l : Launch) (R : Room) (p : Program) (e : Env) (below : List Frame) (s : State) (sargs : Array Value) (y : MethodName) (len W9 : Nat)
    (Pre : Pt → Array Value → Prop) (Post : Pt → Array Value → Option Value → Pt → Prop) (PostX : Pt → Array Value → Addr → Pt → Prop) : Prop :=
  ∀ (m : MethodId) (meth : Method) (c : Code) (A : Pt) (g : JFrame) (ig : Instr) (mk : MethodId) (a : Array Value),
    Stand p l e R s m sargs below meth c A.U A.locs A.cells A.slots → g.method = m → g.locals.size = c.maxLocals → decode c.code g.pc = .ok (ig, len) →
    2 * g.monitorRoom + (g.stack.map fun v => v.category).sum ≤ W9 → A.U.methodNamed? y = some mk → Pre A a →
    (∃ (v : Option Value) (B : Pt), Stand p l e R s m sargs below meth c B.U B.locs B.cells B.slots ∧ Post A a v B ∧
      Steps p.tables e below (doInvoke e (A.U.setTop g) [] mk a).1 (B.U.setTop { g with pc := g.pc + len, stack := v.toList ++ g.stack })) ∨
    (∃ (q : Addr) (B : Pt), Stand p l e R s m sargs below meth c B.U B.locs B.cells B.slots ∧ PostX A a q B ∧
      Steps p.tables e below (doInvoke e (A.U.setTop g) [] mk a).1 ((B.U.setTop g).pushFrame (.throwing q)))
section Payer
variable {l : Launch} {R : Room} {p : Program} {e : Env} {below : List Frame} {s : State} {sargs : Array Value} {y : MethodName} {len W9 : Nat}
theorem vx_back {ws : List Cond} {rm : Room} {Pc : Array Value → State → Prop} {Qc : Array Value → State → Outcome → State → Prop} {XC : String → State → State → Prop} {mc ms : Nat} {free : Addr → Prop} {bytes : ByteArray} {maxL : Nat} {ret : Option FieldType}
    (hM : vx_Met l y ws rm Pc Qc XC mc ms free) (hblind : FrameBlind Pc) (hrc : rm.cells = mc) (hrs : rm.slots = ms)
    (hframes : rm.frames + 1 ≤ R.frames) (hlocals : W9 + (maxL + 11) + rm.locals ≤ R.locals)
    (hws : ∀ w ∈ ws, ∀ a' U, s.WarmedH U.vm → w.before a' U = true) (hcode : Cond.code y bytes maxL ret ∈ ws) (hinit : ∀ a' U, s.WarmedH U.vm → (Cond.initialized y.cls).before a' U = true) :
    vx_Back l R p e below s sargs y len W9 (PreOf R mc ms Pc) (PostOf Qc mc ms free) (vx_Post XC mc ms free) := by
  intro m meth c A g ig mk a X hg hsize hdg hW hn hp
  have h1 : (headSpec ws rm).pre.before a A.U = true := atoms_intro fun w hw => hws w hw _ _ X.warmed
  have h2 : (Cond.code y bytes maxL ret).before a A.U = true := hws _ hcode _ _ X.warmed
  have h3 : (Cond.initialized y.cls).before a A.U = true := hinit _ _ X.warmed
  have h4 : A.cells + (headSpec ws rm).room.cells ≤ R.cells := by rw [show (headSpec ws rm).room.cells = mc from hrc]; exact hp.1
  have h5 : A.slots + (headSpec ws rm).room.slots ≤ R.slots := by rw [show (headSpec ws rm).room.slots = ms from hrs]; exact hp.2.1
  have hPc : Pc a (A.U.calling g mk a) := hblind _ _ _ _ hp.2.2
  obtain ⟨U, Ls, c0, s0⟩ := A
  dsimp only [Pt.U, Pt.locs, Pt.cells, Pt.slots] at h1 h2 h3 h4 h5 X hn hPc ⊢
  obtain ⟨methY, cY, hmY, hcY, -, hlY, -, -, -, -⟩ := Cond.code_spec hn h2
  obtain ⟨kY, hkY, -⟩ := className_of_methodNamed hn
  have hinitY : kY.init = .initialized := Cond.initialized_spec (findClass_of_methodNamed hn) hkY h3
  have h : At U g.method c below := by rw [hg]; exact X.here
  have hlocals9 : W9 + (maxL + 11) + (headSpec ws rm).room.locals ≤ R.locals := hlocals
  have happ : (headSpec ws rm).appliesLoose y e.platform (U.calling g mk a) = true :=
    Spec.appliesLoose_calling (g := g) h hdg hn hkY hinitY
      (X.room_calling (g := g) (R' := (headSpec ws rm).room) hsize hmY hcY hframes (by rw [hlY]; omega) h4 h5) h1
  obtain ⟨mid, hmid⟩ := h.above
  have hfr : (U.setTop g).frames = (.java g :: mid) ++ below := by rw [State.frames_setTop' g h.top, hmid]; rfl
  obtain ⟨o, s₂, hsteps, -, hend, hq⟩ := Steps.callFree hM p X.admits X.cas X.clock (acts := []) hfr happ hPc trivial
  have hq' : vx_Q Qc XC mc ms free a (U.calling g mk a) o s₂ := hq
  rw [State.frames_setTop' g h.top] at hend
  obtain ⟨g₀, hg0⟩ := Option.isSome_iff_exists.mp h.top
  obtain ⟨r, hr⟩ := State.topJava?_eq_some.mp hg0
  have hr' : (({ U with heap := s₂.heap, slotsUsed := s₂.slotsUsed } : State).setVm s₂.vm).frames = .java g₀ :: r := hr
  rcases hq' with ⟨hqc, L, hfe, hL⟩ | ⟨q, rfl, E, ce, L, hx, hce, hcv, hcl, hW₂, hsm, hL⟩
  · obtain ⟨⟨v, rfl⟩, hW₂, e2, q2, q3, q4, q5, q6⟩ := id hfe
    have e3 : s₂ = ({ (U.calling g mk a).setFrames s₂.frames with heap := s₂.heap, slotsUsed := s₂.slotsUsed } : State).setVm s₂.vm := by
      have : s₂ = ({ s₂ with vm := (U.calling g mk a).vm } : State).setVm s₂.vm := rfl
      rw [e2] at this
      exact this
    obtain ⟨c₂, i₂, len₂, hc₂, hd₂, hf₂⟩ := hend
    have hW' : U.WarmedH s₂.vm := hW₂
    have hcc : c₂ = c := by
      have h1 : s₂.code? g.method = U.code? g.method := by
        rw [State.code?_eq, State.code?_eq, hW'.alike.method?]
      exact Option.some.inj (hc₂.symm.trans (h1.trans h.code))
    subst hcc
    have hlen : len₂ = len := by rw [hdg] at hd₂; cases hd₂; rfl
    subst hlen
    have hs₂ : s₂ = (({ U with heap := s₂.heap, slotsUsed := s₂.slotsUsed } : State).setVm s₂.vm).setTop { g with pc := g.pc + len₂, stack := v.toList ++ g.stack } := by
      refine e3.trans ?_
      rw [hf₂, State.calling_eq h.top, State.setFrames_setFrames, State.setTop_of_frames _ hr', hr]
      rfl
    have hsame : U.sameButNew ({ U with heap := s₂.heap, slotsUsed := s₂.slotsUsed } : State) L mc ms := by
      refine ⟨?_, q2, q3, q4, q5, q6⟩
      obtain ⟨t, ht, -⟩ := State.frames_cons hr
      show ({ U with heap := s₂.heap, slotsUsed := s₂.slotsUsed } : State) = { U.setFrames U.frames with heap := s₂.heap, slotsUsed := s₂.slotsUsed }
      rw [State.setFrames_self ht]
    subst hg
    refine Or.inl ⟨v, ⟨(({ U with heap := s₂.heap, slotsUsed := s₂.slotsUsed } : State).setVm s₂.vm), Ls ++ L, c0 + mc, s0 + ms⟩,
      ⟨X.admits, X.cas, X.clock, X.frames, X.room, X.hears, X.method, X.code, (X.here.setHeapUsed s₂.heap s₂.slotsUsed).setVm hW'.alike, X.tail, State.WarmedH.trans X.warmed hW', X.limits, X.bytes, X.same.trans (hsame.setVm s.vm)⟩,
      ⟨g, mk, s₂, L, rfl, rfl, hqc, rfl, hL, rfl, rfl⟩, ?_⟩
    show Steps p.tables e below _ ((({ U with heap := s₂.heap, slotsUsed := s₂.slotsUsed } : State).setVm s₂.vm).setTop { g with pc := g.pc + len₂, stack := v.toList ++ g.stack })
    rw [← hs₂]
    exact hsteps
  · obtain ⟨e2, q2, q3, q4, q5, q6⟩ := id hsm
    have e3 : s₂ = ({ (U.calling g mk a).setFrames s₂.frames with heap := s₂.heap, slotsUsed := s₂.slotsUsed } : State).setVm s₂.vm := by
      have : s₂ = ({ s₂ with vm := (U.calling g mk a).vm } : State).setVm s₂.vm := rfl
      rw [e2] at this
      exact this
    have hf₂ : s₂.frames = .throwing q :: .java g :: U.frames.tail := hend
    have hW' : U.WarmedH s₂.vm := hW₂
    have hs₂ : s₂ = ((({ U with heap := s₂.heap, slotsUsed := s₂.slotsUsed } : State).setVm s₂.vm).setTop g).pushFrame (.throwing q) := by
      refine e3.trans ?_
      rw [hf₂, State.calling_eq h.top, State.setFrames_setFrames, State.pushFrame, State.frames_setTop _ hr', State.setTop_of_frames _ hr', State.setFrames_setFrames, hr]
      rfl
    have hsame : U.sameButNew ({ U with heap := s₂.heap, slotsUsed := s₂.slotsUsed } : State) L mc ms := by
      refine ⟨?_, q2, q3, q4, q5, q6⟩
      obtain ⟨t, ht, -⟩ := State.frames_cons hr
      show ({ U with heap := s₂.heap, slotsUsed := s₂.slotsUsed } : State) = { U.setFrames U.frames with heap := s₂.heap, slotsUsed := s₂.slotsUsed }
      rw [State.setFrames_self ht]
    subst hg
    refine Or.inr ⟨q, ⟨(({ U with heap := s₂.heap, slotsUsed := s₂.slotsUsed } : State).setVm s₂.vm), Ls ++ L, c0 + mc, s0 + ms⟩,
      ⟨X.admits, X.cas, X.clock, X.frames, X.room, X.hears, X.method, X.code, (X.here.setHeapUsed s₂.heap s₂.slotsUsed).setVm hW'.alike, X.tail, State.WarmedH.trans X.warmed hW', X.limits, X.bytes, X.same.trans (hsame.setVm s.vm)⟩,
      ⟨g, mk, s₂, L, E, ce, rfl, rfl, hx, hce, hcv, hcl, rfl, hL, rfl, rfl⟩, ?_⟩
    show Steps p.tables e below _ (((({ U with heap := s₂.heap, slotsUsed := s₂.slotsUsed } : State).setVm s₂.vm).setTop g).pushFrame (.throwing q))
    rw [← hs₂]
    exact hsteps
end Payer
section Calls
variable {p : Program} {l : Launch} {e : Env} {R : Room} {s : State} {m : MethodId} {args : Array Value} {below : List Frame} {meth : Method} {c : Code} {T : State} {locs : List Loc} {cells slots : Nat}
theorem vx_callV (X : Stand p l e R s m args below meth c T locs cells slots) (hexec : p.tables.exec = Jvm.exec) {own C : String} {index : Nat} {y : MethodName} {bytes : ByteArray} {maxL : Nat} {ret : Option FieldType}
    (hown : s.vm.findClass own = some m.cls) (hlink : (Cond.methodLink own index y).before args s = true) (hinst : (Cond.instanceMethod y).before args s = true) (hsel : (Cond.selects C y y).before args s = true)
    (hcode : (Cond.code y bytes maxL ret).before args s = true) (hy : y.cls ≠ "java/lang/invoke/MethodHandle" ∧ y.cls ≠ "java/lang/invoke/VarHandle")
    {W9 : Nat} {Pre : Pt → Array Value → Prop} {Post : Pt → Array Value → Option Value → Pt → Prop} {PostX : Pt → Array Value → Addr → Pt → Prop} (hK : vx_Back l R p e below s args y 3 W9 Pre Post PostX)
    {b : Addr} {cellB : Cell} (hcell : T.heap[b]? = some cellB) (hobj : cellB.vm.isStatics = false) (hcls : s.vm.findClass C = some cellB.cls)
    {g : JFrame} (hg : g.method = m) (hsize : g.locals.size = c.maxLocals) {argsL rest : List Value} (hlen : ∀ sig, parseMethodDescriptor y.desc = some sig → argsL.length = sig.parameters.length)
    (hstack : g.stack = argsL.reverse ++ .ref b :: rest) (hW : 2 * g.monitorRoom + (rest.map fun v => v.category).sum ≤ W9) (hdg : decode c.code g.pc = .ok (.invokevirtual index, 3))
    (hpre : ∀ vm₁, s.WarmedH vm₁ → Pre ⟨T.setVm vm₁, locs, cells, slots⟩ (Value.ref b :: argsL).toArray) :
    (∃ (v : Option Value) (vm₁ : Vm) (B : Pt), s.WarmedH vm₁ ∧ Stand p l e R s m args below meth c B.U B.locs B.cells B.slots ∧ Post ⟨T.setVm vm₁, locs, cells, slots⟩ (Value.ref b :: argsL).toArray v B ∧
      ∀ target, Steps p.tables e below (B.U.setTop { g with pc := g.pc + 3, stack := v.toList ++ rest }) target → Steps p.tables e below (T.setTop g) target) ∨
    (∃ (q : Addr) (vm₁ : Vm) (B : Pt), s.WarmedH vm₁ ∧ Stand p l e R s m args below meth c B.U B.locs B.cells B.slots ∧ PostX ⟨T.setVm vm₁, locs, cells, slots⟩ (Value.ref b :: argsL).toArray q B ∧
      Steps p.tables e below (T.setTop g) ((B.U.setTop { g with stack := rest }).pushFrame (.throwing q))) := by
  obtain ⟨mk, methM, hnamed, hmethM, hstM, habM⟩ := Cond.instanceMethod_spec hinst
  obtain ⟨methM', cM, hmethM', -, -, -, -, -, -, hsigM⟩ := Cond.code_spec hnamed hcode
  cases hmethM.symm.trans hmethM'
  obtain ⟨c2, r2, m2, q1, q2, q3, q4, kP, hkP, hkPi⟩ := Cond.selects_spec hsel
  cases hcls.symm.trans q1
  cases (State.methodFound?_of_named hnamed hy).symm.trans q2
  cases hnamed.symm.trans q3
  have hselP : selectMethod e.platform s.vm cellB.cls mk = .method mk := by rw [Launch.admits_selectMethod X.admits]; exact q4
  obtain ⟨vm₁, X₁, hstep₁⟩ := X.invokevirtual hexec hown hlink hnamed hmethM hstM hkP hkPi hy (a := b) (cell := cellB) hcell
    (fun z h => by rw [h] at hobj; cases hobj) hselP hmethM habM hkP hkPi (g := g) hg (argsL := argsL) (rest := rest) (hlen _ hsigM) hstack hdg
  rcases hK m meth c ⟨T.setVm vm₁, locs, cells, slots⟩ { g with stack := rest } (.invokevirtual index) mk (Value.ref b :: argsL).toArray X₁ hg hsize hdg hW (X₁.named hnamed) (hpre vm₁ X₁.warmed) with ⟨v, B, X', hpost, hsteps⟩ | ⟨q, B, X', hpost, hsteps⟩
  · exact Or.inl ⟨v, vm₁, B, X₁.warmed, X', hpost, fun target h => hstep₁ _ fun acts => by rw [doInvoke_state]; exact hsteps.trans h⟩
  · exact Or.inr ⟨q, vm₁, B, X₁.warmed, X', hpost, hstep₁ _ fun acts => by rw [doInvoke_state]; exact hsteps⟩
theorem vx_callS (X : Stand p l e R s m args below meth c T locs cells slots) (hexec : p.tables.exec = Jvm.exec) {own : String} {index : Nat} {y : MethodName} {bytes : ByteArray} {maxL : Nat} {ret : Option FieldType}
    (hown : s.vm.findClass own = some m.cls) (hlink : (Cond.methodLink own index y).before args s = true) (hstat : (Cond.static y).before args s = true) (hinit : (Cond.initialized y.cls).before args s = true)
    (hcode : (Cond.code y bytes maxL ret).before args s = true) (hy : y.cls ≠ "java/lang/invoke/MethodHandle" ∧ y.cls ≠ "java/lang/invoke/VarHandle")
    {W9 : Nat} {Pre : Pt → Array Value → Prop} {Post : Pt → Array Value → Option Value → Pt → Prop} {PostX : Pt → Array Value → Addr → Pt → Prop} (hK : vx_Back l R p e below s args y 3 W9 Pre Post PostX)
    {g : JFrame} (hg : g.method = m) (hsize : g.locals.size = c.maxLocals) {argsL rest : List Value} (hlen : ∀ sig, parseMethodDescriptor y.desc = some sig → argsL.length = sig.parameters.length)
    (hstack : g.stack = argsL.reverse ++ rest) (hW : 2 * g.monitorRoom + (rest.map fun v => v.category).sum ≤ W9) (hdg : decode c.code g.pc = .ok (.invokestatic index, 3))
    (hpre : ∀ vm₁, s.WarmedH vm₁ → Pre ⟨T.setVm vm₁, locs, cells, slots⟩ argsL.toArray) :
    (∃ (v : Option Value) (vm₁ : Vm) (B : Pt), s.WarmedH vm₁ ∧ Stand p l e R s m args below meth c B.U B.locs B.cells B.slots ∧ Post ⟨T.setVm vm₁, locs, cells, slots⟩ argsL.toArray v B ∧
      ∀ target, Steps p.tables e below (B.U.setTop { g with pc := g.pc + 3, stack := v.toList ++ rest }) target → Steps p.tables e below (T.setTop g) target) ∨
    (∃ (q : Addr) (vm₁ : Vm) (B : Pt), s.WarmedH vm₁ ∧ Stand p l e R s m args below meth c B.U B.locs B.cells B.slots ∧ PostX ⟨T.setVm vm₁, locs, cells, slots⟩ argsL.toArray q B ∧
      Steps p.tables e below (T.setTop g) ((B.U.setTop { g with stack := rest }).pushFrame (.throwing q))) := by
  obtain ⟨mk, hnamed⟩ := Cond.code_named hcode
  obtain ⟨methM, cM, hmethM, -, -, -, -, -, -, hsigM⟩ := Cond.code_spec hnamed hcode
  have hstatic : methM.isStatic = true := Cond.static_spec hnamed hmethM hstat
  obtain ⟨kP, hkP, -⟩ := className_of_methodNamed hnamed
  have hinitP : kP.init = .initialized := Cond.initialized_spec (findClass_of_methodNamed hnamed) hkP hinit
  obtain ⟨vm₁, X₁, hstep₁⟩ := X.invokestatic hexec hown hlink hnamed hmethM hstatic hkP hinitP hy (g := g) hg (argsL := argsL) (rest := rest) (hlen _ hsigM) hstack hdg
  rcases hK m meth c ⟨T.setVm vm₁, locs, cells, slots⟩ { g with stack := rest } (.invokestatic index) mk argsL.toArray X₁ hg hsize hdg hW (X₁.named hnamed) (hpre vm₁ X₁.warmed) with ⟨v, B, X', hpost, hsteps⟩ | ⟨q, B, X', hpost, hsteps⟩
  · exact Or.inl ⟨v, vm₁, B, X₁.warmed, X', hpost, fun target h => hstep₁ _ fun acts => by rw [doInvoke_state]; exact hsteps.trans h⟩
  · exact Or.inr ⟨q, vm₁, B, X₁.warmed, X', hpost, hstep₁ _ fun acts => by rw [doInvoke_state]; exact hsteps⟩
end Calls
theorem vx_cls {s : State} {T : State} {vm₁ : Vm} {E : String} {k : ClassId} (hW : s.WarmedH vm₁) (h : (T.setVm vm₁).vm.findClass E = some k) : s.vm.findClass E = some k := by
  have h1 : vm₁.findClass E = some k := h
  rw [hW.alike.findClass] at h1
  exact h1
/-- the method's frame g, with q thrown over it -/
def vx_W (p : Program) (l : Launch) (e : Env) (R : Room) (s : State) (m : MethodId) (args : Array Value) (below : List Frame) (meth : Method) (c : Code) (H : Heap) (locs : List Loc) (cells slots : Nat) (Q : State → Prop) (g : JFrame) (q : Addr) : Prop :=
  ∀ T : State, T.heap = H → Stand p l e R s m args below meth c T locs cells slots → ∃ t, Steps p.tables e below ((T.setTop g).pushFrame (.throwing q)) t ∧ Q t
def vx_Run (p : Program) (l : Launch) (e : Env) (R : Room) (s : State) (m : MethodId) (args : Array Value) (below : List Frame) (meth : Method) (c : Code) (H : Heap) (locs : List Loc) (cells slots mc ms : Nat) (g : JFrame) (rest : List Value) (Qa : State → Outcome → State → Prop) (XC : String → State → State → Prop) (free : Addr → Prop) : Prop :=
  ∀ T : State, T.heap = H → Stand p l e R s m args below meth c T locs cells slots →
    (∃ (v : Option Value) (st₀ t T' : State) (L : List Loc), st₀.heap = H ∧ Stand p l e R s m args below meth c T' (locs ++ L) (cells + mc) (slots + ms) ∧ (∀ q ∈ L, free q.base) ∧ T'.heap = t.heap ∧ T'.vm = t.vm ∧ Qa st₀ (.returned v) t ∧
      Goes p e below T g T' { g with pc := g.pc + 3, stack := v.toList ++ rest }) ∨
    (∃ (q : Addr) (st₀ t T' : State) (L : List Loc) (E : String) (ce : Cell), st₀.heap = H ∧ Stand p l e R s m args below meth c T' (locs ++ L) (cells + mc) (slots + ms) ∧ (∀ z ∈ L, free z.base) ∧ T'.heap = t.heap ∧ T'.vm = t.vm ∧ XC E st₀ t ∧ t.heap[q]? = some ce ∧ ce.vm = .none ∧ s.vm.findClass E = some ce.cls ∧
      Steps p.tables e below (T.setTop g) ((T'.setTop { g with stack := rest }).pushFrame (.throwing q)))
def vx_X {S : Type} (px : S → Prop) (B : String → S → State → Prop) (A : Nat → Prop) : String → State → State → Prop := fun E st t => ∃ u : S, px u ∧ B E u t ∧ va_F A st t
section Runs
variable {p : Program} {l : Launch} {e : Env} {R : Room} {s : State} {m : MethodId} {args : Array Value} {below : List Frame} {meth : Method} {c : Code} {H : Heap} {locs : List Loc} {cells slots : Nat}
variable {y : MethodName} {bytes cc : ByteArray} {maxL nL mc ms n index : Nat} {ret : Option FieldType} {ws : List Cond} {rm : Room} {Pc : Array Value → State → Prop} {Qc : Array Value → State → Outcome → State → Prop} {XC : String → State → State → Prop} {free : Addr → Prop} {Ts : List Cond} {own C : String} {b : Addr} {As rest : List Value} {g : JFrame}
theorem vx_callBack (cb : CallB R s args own index y bytes maxL ret ws rm mc ms n) (hM : vx_Met l y ws rm Pc Qc XC mc ms free) (hbl : FrameBlind Pc) : vx_Back l R p e below s args y 3 8 (PreOf R mc ms Pc) (PostOf Qc mc ms free) (vx_Post XC mc ms free) := by
  obtain ⟨hrc, hrs, hfr, hlo, hws, hcw, -, hini, -⟩ := cb
  exact vx_back (bytes := bytes) (maxL := maxL) (ret := ret) hM hbl hrc hrs hfr hlo hws hcw (fun a' U hW => word_at hW (Or.inl (by first | rfl | simp [Cond.onTables, Cond.keeps, Cond.steady])) hini)
theorem vx_runV (S : CallFix p m c cc nL s args Ts own) (hM : vx_Met l y ws rm Pc Qc XC mc ms free) (cw : CallW R s args own C index y bytes maxL ret ws rm mc ms n) (hp : PreV s H C b Pc As)
    (hg : g.method = m) (hn : As.length = n) (hsize : g.locals.size = nL) (hstack : g.stack = As.reverse ++ .ref b :: rest) (hW : 2 * g.monitorRoom + (rest.map fun v => v.category).sum ≤ 8) (hdg : decode cc g.pc = .ok (.invokevirtual index, 3)) (hf : cells + mc ≤ R.cells ∧ slots + ms ≤ R.slots) :
    vx_Run p l e R s m args below meth c H locs cells slots mc ms g rest (Qc (Value.ref b :: As).toArray) XC free := by
  have hK : vx_Back l R p e below s args y 3 8 (PreOf R mc ms Pc) (PostOf Qc mc ms free) (vx_Post XC mc ms free) := vx_callBack cw.1 hM hp.1
  obtain ⟨⟨-, -, -, -, -, -, hcode, -, hy, hlen, hl⟩, hin, hse⟩ := cw
  obtain ⟨hx, hb, hml, ho, -⟩ := S
  obtain ⟨-, ⟨cellB, hcB, hoB, hclB⟩, hPc⟩ := hp
  intro T hT X
  rcases vx_callV X hx (C := C) (bytes := bytes) (maxL := maxL) (ret := ret) ho hl hin hse hcode hy hK (by rw [hT]; exact hcB) hoB hclB hg (hsize.trans hml.symm) (argsL := As) (rest := rest) (fun sig h => hn.trans (hlen sig h)) hstack hW (by rw [hb]; exact hdg)
    (fun vm₁ hW₁ => ⟨hf.1, hf.2, hPc (T.setVm vm₁) hT hW₁⟩) with ⟨v, vm₁, ⟨U', l2, c2, s2⟩, hW₁, X', ⟨g', mk, t, L, e1, e2, hq, h1, hL, h2, h3⟩, st⟩ | ⟨q, vm₁, ⟨U', l2, c2, s2⟩, hW₁, X', ⟨g', mk, t, L, E, ce, e1, e2, hq, hce, hcv, hcl, h1, hL, h2, h3⟩, st⟩
  · dsimp only [Pt.U, Pt.locs, Pt.cells, Pt.slots] at X' e1 e2 h1 h2 h3 st
    subst h1; subst h2; subst h3
    exact Or.inl ⟨v, (T.setVm vm₁).calling g' mk (Value.ref b :: As).toArray, t, U', L, hT, X', hL, e1, e2, hq, st⟩
  · dsimp only [Pt.U, Pt.locs, Pt.cells, Pt.slots] at X' e1 e2 h1 h2 h3 st hcl
    subst h1; subst h2; subst h3
    exact Or.inr ⟨q, (T.setVm vm₁).calling g' mk (Value.ref b :: As).toArray, t, U', L, E, ce, hT, X', hL, e1, e2, hq, hce, hcv, vx_cls hW₁ hcl, st⟩
theorem vx_runS (S : CallFix p m c cc nL s args Ts own) (hM : vx_Met l y ws rm Pc Qc XC mc ms free) (cw : CallB R s args own index y bytes maxL ret ws rm mc ms n ∧ (Cond.static y).before args s = true) (hp : PreS s H Pc As)
    (hg : g.method = m) (hn : As.length = n) (hsize : g.locals.size = nL) (hstack : g.stack = As.reverse ++ rest) (hW : 2 * g.monitorRoom + (rest.map fun v => v.category).sum ≤ 8) (hdg : decode cc g.pc = .ok (.invokestatic index, 3)) (hf : cells + mc ≤ R.cells ∧ slots + ms ≤ R.slots) :
    vx_Run p l e R s m args below meth c H locs cells slots mc ms g rest (Qc As.toArray) XC free := by
  have hK : vx_Back l R p e below s args y 3 8 (PreOf R mc ms Pc) (PostOf Qc mc ms free) (vx_Post XC mc ms free) := vx_callBack cw.1 hM hp.1
  obtain ⟨⟨-, -, -, -, -, -, hcode, hini, hy, hlen, hl⟩, hstt⟩ := cw
  obtain ⟨hx, hb, hml, ho, -⟩ := S
  intro T hT X
  rcases vx_callS X hx (bytes := bytes) (maxL := maxL) (ret := ret) ho hl hstt hini hcode hy hK hg (hsize.trans hml.symm) (argsL := As) (rest := rest) (fun sig h => hn.trans (hlen sig h)) hstack hW (by rw [hb]; exact hdg)
    (fun vm₁ hW₁ => ⟨hf.1, hf.2, hp.2 (T.setVm vm₁) hT hW₁⟩) with ⟨v, vm₁, ⟨U', l2, c2, s2⟩, hW₁, X', ⟨g', mk, t, L, e1, e2, hq, h1, hL, h2, h3⟩, st⟩ | ⟨q, vm₁, ⟨U', l2, c2, s2⟩, hW₁, X', ⟨g', mk, t, L, E, ce, e1, e2, hq, hce, hcv, hcl, h1, hL, h2, h3⟩, st⟩
  · dsimp only [Pt.U, Pt.locs, Pt.cells, Pt.slots] at X' e1 e2 h1 h2 h3 st
    subst h1; subst h2; subst h3
    exact Or.inl ⟨v, (T.setVm vm₁).calling g' mk As.toArray, t, U', L, hT, X', hL, e1, e2, hq, st⟩
  · dsimp only [Pt.U, Pt.locs, Pt.cells, Pt.slots] at X' e1 e2 h1 h2 h3 st hcl
    subst h1; subst h2; subst h3
    exact Or.inr ⟨q, (T.setVm vm₁).calling g' mk As.toArray, t, U', L, E, ce, hT, X', hL, e1, e2, hq, hce, hcv, vx_cls hW₁ hcl, st⟩
end Runs
section Rows
variable {p : Program} {l : Launch} {e : Env} {R : Room} {s : State} {m : MethodId} {args : Array Value} {below : List Frame} {meth : Method} {c : Code} {H : Heap} {locs : List Loc} {cells slots : Nat} {Q : State → Prop}
variable {mc ms : Nat} {free : Addr → Prop} {A0 A1 : Nat → Prop} {H0 : Heap} {a : Array Value} {pc : Nat} {ls : Array Slot} {st0 rest : List Value}
theorem vx_keep {st₀ t T' : State} {L : List Loc} (h0 : st₀.heap = H) (e1 : T'.heap = t.heap) (hS : va_S A0 H0 H locs) (hA : ∀ q, q < H.size → A1 q → A0 q) (hf : ∀ q, free q → A0 q) (hL : ∀ q ∈ L, free q.base) (hF : va_F A1 st₀ t) :
    H.size ≤ T'.heap.size ∧ (∀ q : Nat, q < H.size → ¬ A1 q → T'.heap[q]? = H[q]?) ∧ va_S A0 H0 T'.heap (locs ++ L) := by
  obtain ⟨hz, hk⟩ := hF
  rw [h0] at hz hk
  exact ⟨by rw [e1]; exact hz, fun q h1 h2 => by rw [e1]; exact hk q h1 h2,
    ⟨Nat.le_trans hS.1 (by rw [e1]; exact hz), fun q h1 h2 => by rw [e1, hk q (Nat.lt_of_lt_of_le h1 hS.1) (fun z => h2 (hA q (Nat.lt_of_lt_of_le h1 hS.1) z))]; exact hS.2.1 q h1 h2, fun q hq => by
      rcases List.mem_append.mp hq with h | h
      · exact hS.2.2 q h
      · exact hf _ (hL q h)⟩⟩
theorem vx_calli {S SX : Type} {post : Int32 → S → Prop} {px : SX → Prop} {B : S → State → Prop} {BX : String → SX → State → Prop} {AX : Nat → Prop} (hr : vx_Run p l e R s m args below meth c H locs cells slots mc ms (F0 m pc ls st0) rest (va_Qi post B A1 a) (vx_X px BX AX) free) (hS : va_S A0 H0 H locs) (hA : ∀ q, q < H.size → A1 q → A0 q) (hf : ∀ q, free q → A0 q) (hAX : ∀ q, q < H.size → AX q → A0 q)
    (kx : ∀ (E : String) (ce : Cell) (q9 : Addr) (u : SX) (t : State) (H1 : Heap) (locs1 : List Loc), t.heap = H1 → s.vm.Alike t.vm → px u → BX E u t → H.size ≤ H1.size → (∀ q : Nat, q < H.size → ¬ AX q → H1[q]? = H[q]?) → va_S A0 H0 H1 locs1 → H1[q9]? = some ce → ce.vm = .none → s.vm.findClass E = some ce.cls → vx_W p l e R s m args below meth c H1 locs1 (cells + mc) (slots + ms) Q (F0 m pc ls rest) q9)
    (kk : ∀ (r : Int32) (u : S) (t : State) (H1 : Heap) (locs1 : List Loc), t.heap = H1 → s.vm.Alike t.vm → post r u → B u t → H.size ≤ H1.size → (∀ q : Nat, q < H.size → ¬ A1 q → H1[q]? = H[q]?) → va_S A0 H0 H1 locs1 → W p l e R s m args below meth c H1 locs1 (cells + mc) (slots + ms) Q (F0 m (pc + 3) ls (.int r :: rest))) : W p l e R s m args below meth c H locs cells slots Q (F0 m pc ls st0) := by
  intro T hT X
  rcases hr T hT X with ⟨v, st₀, t, T', L, h0, X', hL, e1, e2, ⟨⟨r, u, hv, hp, hb⟩, hF⟩, st⟩ | ⟨q, st₀, t, T', L, E, ce, h0, X', hL, e1, e2, ⟨u, hp, hb, hF⟩, hce, hcv, hcl, st⟩
  · cases hv
    obtain ⟨k1, k2, k3⟩ := vx_keep h0 e1 hS hA hf hL hF
    obtain ⟨t2, a1, b1⟩ := kk r u t T'.heap (locs ++ L) e1.symm (by rw [← e2]; exact X'.warmed.alike) hp hb k1 k2 k3 T' rfl X'
    exact ⟨t2, st t2 a1, b1⟩
  · obtain ⟨k1, k2, k3⟩ := vx_keep h0 e1 hS hAX hf hL hF
    obtain ⟨t2, a1, b1⟩ := kx E ce q u t T'.heap (locs ++ L) e1.symm (by rw [← e2]; exact X'.warmed.alike) hp hb k1 k2 k3 (by rw [e1]; exact hce) hcv hcl T' rfl X'
    exact ⟨t2, st.trans a1, b1⟩
theorem vx_calll {S SX : Type} {post : Int64 → S → Prop} {px : SX → Prop} {B : S → State → Prop} {BX : String → SX → State → Prop} {AX : Nat → Prop} (hr : vx_Run p l e R s m args below meth c H locs cells slots mc ms (F0 m pc ls st0) rest (va_Ql post B A1 a) (vx_X px BX AX) free) (hS : va_S A0 H0 H locs) (hA : ∀ q, q < H.size → A1 q → A0 q) (hf : ∀ q, free q → A0 q) (hAX : ∀ q, q < H.size → AX q → A0 q)
    (kx : ∀ (E : String) (ce : Cell) (q9 : Addr) (u : SX) (t : State) (H1 : Heap) (locs1 : List Loc), t.heap = H1 → s.vm.Alike t.vm → px u → BX E u t → H.size ≤ H1.size → (∀ q : Nat, q < H.size → ¬ AX q → H1[q]? = H[q]?) → va_S A0 H0 H1 locs1 → H1[q9]? = some ce → ce.vm = .none → s.vm.findClass E = some ce.cls → vx_W p l e R s m args below meth c H1 locs1 (cells + mc) (slots + ms) Q (F0 m pc ls rest) q9)
    (kk : ∀ (r : Int64) (u : S) (t : State) (H1 : Heap) (locs1 : List Loc), t.heap = H1 → s.vm.Alike t.vm → post r u → B u t → H.size ≤ H1.size → (∀ q : Nat, q < H.size → ¬ A1 q → H1[q]? = H[q]?) → va_S A0 H0 H1 locs1 → W p l e R s m args below meth c H1 locs1 (cells + mc) (slots + ms) Q (F0 m (pc + 3) ls (.long r :: rest))) : W p l e R s m args below meth c H locs cells slots Q (F0 m pc ls st0) := by
  intro T hT X
  rcases hr T hT X with ⟨v, st₀, t, T', L, h0, X', hL, e1, e2, ⟨⟨r, u, hv, hp, hb⟩, hF⟩, st⟩ | ⟨q, st₀, t, T', L, E, ce, h0, X', hL, e1, e2, ⟨u, hp, hb, hF⟩, hce, hcv, hcl, st⟩
  · cases hv
    obtain ⟨k1, k2, k3⟩ := vx_keep h0 e1 hS hA hf hL hF
    obtain ⟨t2, a1, b1⟩ := kk r u t T'.heap (locs ++ L) e1.symm (by rw [← e2]; exact X'.warmed.alike) hp hb k1 k2 k3 T' rfl X'
    exact ⟨t2, st t2 a1, b1⟩
  · obtain ⟨k1, k2, k3⟩ := vx_keep h0 e1 hS hAX hf hL hF
    obtain ⟨t2, a1, b1⟩ := kx E ce q u t T'.heap (locs ++ L) e1.symm (by rw [← e2]; exact X'.warmed.alike) hp hb k1 k2 k3 (by rw [e1]; exact hce) hcv hcl T' rfl X'
    exact ⟨t2, st.trans a1, b1⟩
theorem vx_callf {S SX : Type} {post : UInt32 → S → Prop} {px : SX → Prop} {B : S → State → Prop} {BX : String → SX → State → Prop} {AX : Nat → Prop} (hr : vx_Run p l e R s m args below meth c H locs cells slots mc ms (F0 m pc ls st0) rest (va_Qf post B A1 a) (vx_X px BX AX) free) (hS : va_S A0 H0 H locs) (hA : ∀ q, q < H.size → A1 q → A0 q) (hf : ∀ q, free q → A0 q) (hAX : ∀ q, q < H.size → AX q → A0 q)
    (kx : ∀ (E : String) (ce : Cell) (q9 : Addr) (u : SX) (t : State) (H1 : Heap) (locs1 : List Loc), t.heap = H1 → s.vm.Alike t.vm → px u → BX E u t → H.size ≤ H1.size → (∀ q : Nat, q < H.size → ¬ AX q → H1[q]? = H[q]?) → va_S A0 H0 H1 locs1 → H1[q9]? = some ce → ce.vm = .none → s.vm.findClass E = some ce.cls → vx_W p l e R s m args below meth c H1 locs1 (cells + mc) (slots + ms) Q (F0 m pc ls rest) q9)
    (kk : ∀ (r : UInt32) (u : S) (t : State) (H1 : Heap) (locs1 : List Loc), t.heap = H1 → s.vm.Alike t.vm → post r u → B u t → H.size ≤ H1.size → (∀ q : Nat, q < H.size → ¬ A1 q → H1[q]? = H[q]?) → va_S A0 H0 H1 locs1 → W p l e R s m args below meth c H1 locs1 (cells + mc) (slots + ms) Q (F0 m (pc + 3) ls (.float r :: rest))) : W p l e R s m args below meth c H locs cells slots Q (F0 m pc ls st0) := by
  intro T hT X
  rcases hr T hT X with ⟨v, st₀, t, T', L, h0, X', hL, e1, e2, ⟨⟨r, u, hv, hp, hb⟩, hF⟩, st⟩ | ⟨q, st₀, t, T', L, E, ce, h0, X', hL, e1, e2, ⟨u, hp, hb, hF⟩, hce, hcv, hcl, st⟩
  · cases hv
    obtain ⟨k1, k2, k3⟩ := vx_keep h0 e1 hS hA hf hL hF
    obtain ⟨t2, a1, b1⟩ := kk r u t T'.heap (locs ++ L) e1.symm (by rw [← e2]; exact X'.warmed.alike) hp hb k1 k2 k3 T' rfl X'
    exact ⟨t2, st t2 a1, b1⟩
  · obtain ⟨k1, k2, k3⟩ := vx_keep h0 e1 hS hAX hf hL hF
    obtain ⟨t2, a1, b1⟩ := kx E ce q u t T'.heap (locs ++ L) e1.symm (by rw [← e2]; exact X'.warmed.alike) hp hb k1 k2 k3 (by rw [e1]; exact hce) hcv hcl T' rfl X'
    exact ⟨t2, st.trans a1, b1⟩
theorem vx_calld {S SX : Type} {post : UInt64 → S → Prop} {px : SX → Prop} {B : S → State → Prop} {BX : String → SX → State → Prop} {AX : Nat → Prop} (hr : vx_Run p l e R s m args below meth c H locs cells slots mc ms (F0 m pc ls st0) rest (va_Qd post B A1 a) (vx_X px BX AX) free) (hS : va_S A0 H0 H locs) (hA : ∀ q, q < H.size → A1 q → A0 q) (hf : ∀ q, free q → A0 q) (hAX : ∀ q, q < H.size → AX q → A0 q)
    (kx : ∀ (E : String) (ce : Cell) (q9 : Addr) (u : SX) (t : State) (H1 : Heap) (locs1 : List Loc), t.heap = H1 → s.vm.Alike t.vm → px u → BX E u t → H.size ≤ H1.size → (∀ q : Nat, q < H.size → ¬ AX q → H1[q]? = H[q]?) → va_S A0 H0 H1 locs1 → H1[q9]? = some ce → ce.vm = .none → s.vm.findClass E = some ce.cls → vx_W p l e R s m args below meth c H1 locs1 (cells + mc) (slots + ms) Q (F0 m pc ls rest) q9)
    (kk : ∀ (r : UInt64) (u : S) (t : State) (H1 : Heap) (locs1 : List Loc), t.heap = H1 → s.vm.Alike t.vm → post r u → B u t → H.size ≤ H1.size → (∀ q : Nat, q < H.size → ¬ A1 q → H1[q]? = H[q]?) → va_S A0 H0 H1 locs1 → W p l e R s m args below meth c H1 locs1 (cells + mc) (slots + ms) Q (F0 m (pc + 3) ls (.double r :: rest))) : W p l e R s m args below meth c H locs cells slots Q (F0 m pc ls st0) := by
  intro T hT X
  rcases hr T hT X with ⟨v, st₀, t, T', L, h0, X', hL, e1, e2, ⟨⟨r, u, hv, hp, hb⟩, hF⟩, st⟩ | ⟨q, st₀, t, T', L, E, ce, h0, X', hL, e1, e2, ⟨u, hp, hb, hF⟩, hce, hcv, hcl, st⟩
  · cases hv
    obtain ⟨k1, k2, k3⟩ := vx_keep h0 e1 hS hA hf hL hF
    obtain ⟨t2, a1, b1⟩ := kk r u t T'.heap (locs ++ L) e1.symm (by rw [← e2]; exact X'.warmed.alike) hp hb k1 k2 k3 T' rfl X'
    exact ⟨t2, st t2 a1, b1⟩
  · obtain ⟨k1, k2, k3⟩ := vx_keep h0 e1 hS hAX hf hL hF
    obtain ⟨t2, a1, b1⟩ := kx E ce q u t T'.heap (locs ++ L) e1.symm (by rw [← e2]; exact X'.warmed.alike) hp hb k1 k2 k3 (by rw [e1]; exact hce) hcv hcl T' rfl X'
    exact ⟨t2, st.trans a1, b1⟩
theorem vx_callv {S SX : Type} {post : S → Prop} {px : SX → Prop} {B : S → State → Prop} {BX : String → SX → State → Prop} {AX : Nat → Prop} (hr : vx_Run p l e R s m args below meth c H locs cells slots mc ms (F0 m pc ls st0) rest (va_Qv post B A1 a) (vx_X px BX AX) free) (hS : va_S A0 H0 H locs) (hA : ∀ q, q < H.size → A1 q → A0 q) (hf : ∀ q, free q → A0 q) (hAX : ∀ q, q < H.size → AX q → A0 q)
    (kx : ∀ (E : String) (ce : Cell) (q9 : Addr) (u : SX) (t : State) (H1 : Heap) (locs1 : List Loc), t.heap = H1 → s.vm.Alike t.vm → px u → BX E u t → H.size ≤ H1.size → (∀ q : Nat, q < H.size → ¬ AX q → H1[q]? = H[q]?) → va_S A0 H0 H1 locs1 → H1[q9]? = some ce → ce.vm = .none → s.vm.findClass E = some ce.cls → vx_W p l e R s m args below meth c H1 locs1 (cells + mc) (slots + ms) Q (F0 m pc ls rest) q9)
    (kk : ∀ (u : S) (t : State) (H1 : Heap) (locs1 : List Loc), t.heap = H1 → s.vm.Alike t.vm → post u → B u t → H.size ≤ H1.size → (∀ q : Nat, q < H.size → ¬ A1 q → H1[q]? = H[q]?) → va_S A0 H0 H1 locs1 → W p l e R s m args below meth c H1 locs1 (cells + mc) (slots + ms) Q (F0 m (pc + 3) ls (rest))) : W p l e R s m args below meth c H locs cells slots Q (F0 m pc ls st0) := by
  intro T hT X
  rcases hr T hT X with ⟨v, st₀, t, T', L, h0, X', hL, e1, e2, ⟨⟨u, hv, hp, hb⟩, hF⟩, st⟩ | ⟨q, st₀, t, T', L, E, ce, h0, X', hL, e1, e2, ⟨u, hp, hb, hF⟩, hce, hcv, hcl, st⟩
  · cases hv
    obtain ⟨k1, k2, k3⟩ := vx_keep h0 e1 hS hA hf hL hF
    obtain ⟨t2, a1, b1⟩ := kk u t T'.heap (locs ++ L) e1.symm (by rw [← e2]; exact X'.warmed.alike) hp hb k1 k2 k3 T' rfl X'
    exact ⟨t2, st t2 a1, b1⟩
  · obtain ⟨k1, k2, k3⟩ := vx_keep h0 e1 hS hAX hf hL hF
    obtain ⟨t2, a1, b1⟩ := kx E ce q u t T'.heap (locs ++ L) e1.symm (by rw [← e2]; exact X'.warmed.alike) hp hb k1 k2 k3 (by rw [e1]; exact hce) hcv hcl T' rfl X'
    exact ⟨t2, st.trans a1, b1⟩
/-- caught by the row x of this method's table; the rows ahead don't take it -/
theorem vx_catch {own name : String} {E : String} {ce : Cell} {q : Addr} (hown : s.vm.findClass own = some m.cls) (pre : List ExceptionTableEntry) (x : ExceptionTableEntry) (suf : List ExceptionTableEntry) (hsplit : c.exceptionTable.toList = pre ++ x :: suf)
    (hpass : ∀ z ∈ pre, covers z pc = false ∨ (z.catchType ≠ 0 ∧ ∃ nm : String, (Cond.classLink own z.catchType nm).before args s = true ∧ va_Nc E nm s)) (hx : covers x pc = true) (h0 : x.catchType ≠ 0)
    (hlink : (Cond.classLink own x.catchType name).before args s = true) (hcast : (Cond.castable E name).before args s = true) (hcell : H[q]? = some ce) (hv : ce.vm = .none) (hcl : s.vm.findClass E = some ce.cls)
    (kk : W p l e R s m args below meth c H locs cells slots Q (F0 m x.handlerPc ls [.ref q])) : vx_W p l e R s m args below meth c H locs cells slots Q (F0 m pc ls rest) q := by
  intro T hT X
  have hpl : e.platform.magicAccessors = ({} : Platform).magicAccessors := by rw [X.admits.platform]
  obtain ⟨c3, c4, hc3, hc4, hasg⟩ := Cond.castable_spec hcast
  cases Option.some.inj (hc3.symm.trans hcl)
  obtain ⟨c5, hc5, hcl5⟩ := Cond.classLink_spec hown hlink e.platform hpl
  cases Option.some.inj (hc4.symm.trans hc5)
  obtain ⟨vm', X', st⟩ := X.thenCaughtThrough q (g := F0 m pc ls rest) rfl (Steps.refl _) (by rw [hT]; exact hcell) (by rw [hv]; rfl) (by obtain ⟨k9, h9, -⟩ := Vm.findClass_spec hcl; exact ⟨k9, h9⟩) pre x suf hsplit
    (fun z hz => by
      rcases hpass z hz with h | ⟨hz0, nm, hl1, hn1⟩
      · exact Or.inl h
      · obtain ⟨c6, hc6, hcl6⟩ := Cond.classLink_spec hown hl1 e.platform hpl
        obtain ⟨a8, b8, h1, h2, h3⟩ := hn1
        cases Option.some.inj (h1.symm.trans hcl)
        cases Option.some.inj (h2.symm.trans hc6)
        exact Or.inr ⟨hz0, _, hcl6, h3⟩) hx (Or.inr ⟨h0, c4, hcl5, hasg⟩)
  obtain ⟨t, a1, b1⟩ := kk (T.setVm vm') hT X'
  exact ⟨t, st.trans a1, b1⟩
end Rows
section Ends
variable {p : Program} {l : Launch} {e : Env} {R : Room} {s : State} {m : MethodId} {args : Array Value} {below : List Frame} {meth : Method} {c : Code} {H : Heap} {locs : List Loc} {cells slots : Nat} {Q : State → Prop}
variable {mc ms : Nat} {free : Addr → Prop} {A0 A1 : Nat → Prop} {H0 : Heap} {a : Array Value} {ls : Array Slot} {st0 rest : List Value}
variable {Qc : Array Value → State → Outcome → State → Prop} {XC : String → State → State → Prop}
/-- what a body that may throw owes at its end -/
def vx_MQ (below : List Frame) (Qc : Array Value → State → Outcome → State → Prop) (XC : String → State → State → Prop) (a : Array Value) (s : State) (mc ms : Nat) (free : Addr → Prop) : State → Prop := fun t =>
  ∃ o, t.status = .running ∧ Ended t below o ∧ vx_Q Qc XC mc ms free a s o t
theorem vx_ret {g : JFrame} {mc ms : Nat} (k : W p l e R s m args below meth c H locs cells slots (MQ below Qc args s mc ms free) g) : W p l e R s m args below meth c H locs cells slots (vx_MQ below Qc XC args s mc ms free) g := by
  intro T hT X
  obtain ⟨t, a1, o, b1, b2, b3, b4⟩ := k T hT X
  exact ⟨t, a1, o, b1, b2, Or.inl ⟨b3, b4⟩⟩
/-- not caught here: it goes on to the caller -/
theorem vx_widen {g : JFrame} {q : Addr} {k n : Nat} (h1 : cells ≤ k) (h2 : slots ≤ n) (kk : vx_W p l e R s m args below meth c H locs k n Q g q) : vx_W p l e R s m args below meth c H locs cells slots Q g q := fun T hT X => kk T hT (stand_widen X h1 h2)
theorem vx_out {pc : Nat} {E : String} {ce : Cell} {q : Addr} {mc ms : Nat} (hout : ∀ x ∈ c.exceptionTable.toList, covers x pc = false) (hlocks : meth.locks = false) (hcell : H[q]? = some ce) (hv : ce.vm = .none) (hcl : s.vm.findClass E = some ce.cls)
    (hx : ∀ t : State, t.heap = H → s.vm.Alike t.vm → XC E s t) (hf : ∀ z ∈ locs, free z.base) (hc : cells ≤ mc) (hs : slots ≤ ms) :
    vx_W p l e R s m args below meth c H locs cells slots (vx_MQ below Qc XC args s mc ms free) (F0 m pc ls rest) q := by
  intro T hT X
  obtain ⟨st1, hrun, hend, hW, hsm⟩ := X.leaveThrown q (g := F0 m pc ls rest) rfl rfl rfl hout hlocks
  have hcell9 : (T.setFrames (.throwing q :: below)).heap[q]? = some ce := by
    show T.heap[q]? = some ce
    rw [hT]; exact hcell
  exact ⟨_, st1, .threw q, hrun, hend, Or.inr ⟨q, rfl, E, ce, locs, hx _ hT hW.alike, hcell9, hv, hcl, hW, hsm.mono hc hs, hf⟩⟩
theorem vx_frame {U : State} {k n : Nat} (h : s.sameButNew ({ U with vm := s.vm } : State) locs k n) : s.heap.size ≤ U.heap.size ∧ ∀ q : Nat, q < s.heap.size → (∀ z ∈ locs, z.base ≠ q) → U.heap[q]? = s.heap[q]? := by
  obtain ⟨-, h2, -, -, -, h6⟩ := h
  refine ⟨h2, fun q hq hz => ?_⟩
  obtain ⟨c9, e1, e2, e3, e4⟩ := h6 q _ (Array.getElem?_eq_getElem hq)
  have hs : c9.slots = (s.heap[q]).slots := Array.ext_getElem? fun i => e4 i fun hm => hz _ hm rfl
  have h9 : c9 = s.heap[q] := by
    rw [hs] at e2
    exact e2
  have e5 : U.heap[q]? = some c9 := e1
  rw [e5, h9, Array.getElem?_eq_getElem hq]
/-- the words of a throw but the four that speak of the heap -/
def vx_no (w : Cond) : Bool := decide (w ≠ .isRef (.static Bundle.tN "UNASSIGNED_STACK" Bundle.steD)) && decide (w ≠ .isRef (.static Bundle.tN "SUPPRESSED_SENTINEL" Bundle.listD)) && decide (w ≠ .laysStatic Bundle.tN "UNASSIGNED_STACK" Bundle.steD) && decide (w ≠ .laysStatic Bundle.tN "SUPPRESSED_SENTINEL" Bundle.listD)
def vx_at0 (own : String) (ic : Nat) (X : String) (names : List String) : List Cond := (Bundle.ownAtoms0 own ic X names).filter vx_no
def vx_atS (own : String) (ic : Nat) (X : String) (names : List String) : List Cond := (Bundle.ownAtoms own ic X names).filter vx_no
/-- a word that the tables alone decide, or a good one -/
def vx_ot (w : Cond) : Bool := w.onTables || goodWord w
theorem vx_ot_at {args a' : Array Value} {s U : State} {w : Cond} (hW : s.WarmedH U.vm) (hvm : s.vm = U.vm) (hg : vx_ot w = true) (h : w.before args s = true) : w.before a' U = true := by
  simp only [vx_ot, Bool.or_eq_true] at hg
  rcases hg with hg | hg
  · exact va_tabs hg hvm h
  · exact word_at hW (good_of_word hg) h
/-- a list's words: the good ones out of the method's own list, the others by premises of their own -/
theorem vx_hat {args : Array Value} {s : State} {L B : List Cond} (h1 : ∀ w ∈ L.filter goodWord, w.before args s = true) (h2 : ∀ w ∈ L.filter (fun w => !goodWord w), w ∈ B) (h3 : ∀ w ∈ B, w.before args s = true) : ∀ w ∈ L, w.before args s = true := by
  intro w hw
  by_cases g : goodWord w = true
  · exact h1 w (List.mem_filter.mpr ⟨hw, g⟩)
  · refine h3 w (h2 w (List.mem_filter.mpr ⟨hw, ?_⟩))
    show (!goodWord w) = true
    cases hgw : goodWord w
    · rfl
    · exact absurd hgw g
theorem vx_c {args : Array Value} {s : State} {w : Cond} {B : List Cond} (h : w.before args s = true) (t : ∀ w ∈ B, w.before args s = true) : ∀ w' ∈ w :: B, w'.before args s = true := fun w' h' => (List.mem_cons.mp h').elim (fun e => by rw [e]; exact h) (t w')
theorem vx_n {args : Array Value} {s : State} : ∀ w ∈ ([] : List Cond), w.before args s = true := fun _ h => nomatch h
theorem vx_own {args : Array Value} {s : State} {L : List Cond} (h1 : ∀ w ∈ L.filter vx_no, w.before args s = true)
    (hU : (Cond.isRef (.static Bundle.tN "UNASSIGNED_STACK" Bundle.steD)).before args s = true) (hN : (Cond.isRef (.static Bundle.tN "SUPPRESSED_SENTINEL" Bundle.listD)).before args s = true)
    (lU : (Cond.laysStatic Bundle.tN "UNASSIGNED_STACK" Bundle.steD).before args s = true) (lN : (Cond.laysStatic Bundle.tN "SUPPRESSED_SENTINEL" Bundle.listD).before args s = true) : ∀ w ∈ L, w.before args s = true := by
  intro w hw
  by_cases e1 : w = .isRef (.static Bundle.tN "UNASSIGNED_STACK" Bundle.steD)
  · rw [e1]; exact hU
  · by_cases e2 : w = .isRef (.static Bundle.tN "SUPPRESSED_SENTINEL" Bundle.listD)
    · rw [e2]; exact hN
    · by_cases e3 : w = .laysStatic Bundle.tN "UNASSIGNED_STACK" Bundle.steD
      · rw [e3]; exact lU
      · by_cases e4 : w = .laysStatic Bundle.tN "SUPPRESSED_SENTINEL" Bundle.listD
        · rw [e4]; exact lN
        · exact h1 w (List.mem_filter.mpr ⟨hw, by unfold vx_no; rw [decide_eq_true e1, decide_eq_true e2, decide_eq_true e3, decide_eq_true e4]; rfl⟩)
/-- where a static field lies, its class's statics cell in H -/
def vx_L (C n d : String) (A : Nat → Prop) (U : State) (H : Heap) : Prop := ∃ (c : ClassId) (k : Class) (i : Nat) (f : Field) (a : Nat) (cell : Cell), U.vm.findClass C = some c ∧ U.fieldFound? C n d = some (c, k, i, f) ∧ f.isStatic = true ∧ k.statics = some a ∧ H[a]? = some cell ∧ cell.vm.isStatics = true ∧ cell.cls = c ∧ f.slot < cell.slots.size ∧ k.staticTypes[f.slot]? = some f.type ∧ ¬ A a
theorem vx_L.moved {C n d : String} {A : Nat → Prop} {u U : State} {H : Heap} (hvm : u.vm.Alike U.vm) (h : vx_L C n d A u H) : vx_L C n d A U H := by
  obtain ⟨c, k, i, f, a, cell, h1, h2, h3, h4, h5, h6, h7, h8, h9, h10⟩ := h
  obtain ⟨k', hi', he⟩ := State.fieldFound?_setVm hvm h2
  exact ⟨c, k', i, f, a, cell, by rw [hvm.findClass]; exact h1, hi', h3, by rw [he]; exact h4, h5, h6, h7, h8, by rw [he]; exact h9, h10⟩
theorem vx_L.kept {C n d : String} {A : Nat → Prop} {U : State} {H H1 : Heap} (h : vx_L C n d A U H) (hq : ∀ a : Nat, a < H.size → ¬ A a → H1[a]? = H[a]?) : vx_L C n d A U H1 := by
  obtain ⟨c, k, i, f, a, cell, h1, h2, h3, h4, h5, h6, h7, h8, h9, h10⟩ := h
  exact ⟨c, k, i, f, a, cell, h1, h2, h3, h4, by rw [hq a (Array.getElem?_eq_some_iff.mp h5).1 h10]; exact h5, h6, h7, h8, h9, h10⟩
theorem vx_L.narrow {C n d : String} {A B : Nat → Prop} {U : State} {H : Heap} (h : vx_L C n d A U H) (hAB : ∀ q, B q → A q) : vx_L C n d B U H := by
  obtain ⟨c, k, i, f, a, cell, h1, h2, h3, h4, h5, h6, h7, h8, h9, h10⟩ := h
  exact ⟨c, k, i, f, a, cell, h1, h2, h3, h4, h5, h6, h7, h8, h9, fun z => h10 (hAB _ z)⟩
theorem vx_L.word {C n d : String} {A : Nat → Prop} {s : State} {args : Array Value} (h : vx_L C n d A s s.heap) : (Cond.laysStatic C n d).before args s = true := by
  obtain ⟨c, k, i, f, a, cell, h1, h2, h3, h4, h5, h6, h7, h8, h9, -⟩ := h
  show (Cond.laysStatic C n d).holds args s none s [] = true
  exact Cond.laysStatic_of h1 h2 h3 h4 h5 h6 h7 h8 h9
/-- .. and what it holds: null or some reference -/
def vx_Zq (C n d : String) (A : Nat → Prop) (U : State) (H : Heap) : Prop := va_Zq C n d A U H ∧ vx_L C n d A U H
theorem vx_Zq.moved {C n d : String} {A : Nat → Prop} {u U : State} {H : Heap} (hvm : u.vm.Alike U.vm) (h : vx_Zq C n d A u H) : vx_Zq C n d A U H := ⟨va_Zq.moved hvm h.1, vx_L.moved hvm h.2⟩
theorem vx_Zq.kept {C n d : String} {A : Nat → Prop} {U : State} {H H1 : Heap} (h : vx_Zq C n d A U H) (hq : ∀ a : Nat, a < H.size → ¬ A a → H1[a]? = H[a]?) : vx_Zq C n d A U H1 := ⟨va_Zq.kept h.1 hq, vx_L.kept h.2 hq⟩
theorem vx_Zq.narrow {C n d : String} {A B : Nat → Prop} {U : State} {H : Heap} (h : vx_Zq C n d A U H) (hAB : ∀ q, B q → A q) : vx_Zq C n d B U H := ⟨va_Zq.narrow h.1 hAB, vx_L.narrow h.2 hAB⟩
theorem vx_Zqof {args : Array Value} {s : State} {C n d : String} {A : Nat → Prop} (hl : (Cond.laysStatic C n d).before args s = true) (hini : (Cond.initialized C).before args s = true) (h : (Cond.isRef (.static C n d)).before args s = true) (hA : ∀ a : Nat, a < s.heap.size → ¬ A a) : vx_Zq C n d A s s.heap := by
  refine ⟨va_Zqof hl hini h hA, ?_⟩
  obtain ⟨c, k, i, f, a, cell, h1, h2, h3, h4, h5, h6, h7, h8, h9⟩ := Cond.laysStatic_spec hl
  exact ⟨c, k, i, f, a, cell, h1, h2, h3, h4, h5, h6, h7, h8, h9, hA a (Array.getElem?_eq_some_iff.mp h5).1⟩
theorem vx_isRef {C n d : String} {v : Value} {A : Nat → Prop} {s : State} {args : Array Value} (h : va_Z C n d v A s s.heap) (hv : v.isRef = true) : (Cond.isRef (.static C n d)).before args s = true := by
  obtain ⟨cf, kf, fi, f, a, cell, h1, h2, h3, h4, h5, h6, h7, -⟩ := h
  have he : (Term.static C n d).eval args s none [] s = some v := by
    simp [Term.eval, State.fieldNamed?, h1, h2, h4, h5, h6, h7]
  simp only [Cond.before, Cond.holds, Cond.value, he]
  cases v <;> simp_all [Value.isRef]
theorem vx_isRefq {C n d : String} {A : Nat → Prop} {s : State} {args : Array Value} (h : va_Zq C n d A s s.heap) : (Cond.isRef (.static C n d)).before args s = true := by
  rcases h with h | ⟨t, h⟩
  · exact vx_isRef h rfl
  · exact vx_isRef h rfl
/-- the same frame, seen from here: as if the method were called anew in this heap -/
theorem vx_rebase {T : State} (X : Stand p l e R s m args below meth c T locs cells slots) {R' : Room} (hf : R'.frames ≤ R.frames) (hl : R'.locals ≤ R.locals) (hc : cells + R'.cells ≤ R.cells) (hs : slots + R'.slots ≤ R.slots) :
    Stand p l e R' ((T.setVm s.vm).setFrames (.invoking m args :: below)) m args below meth c T [] 0 0 := by
  have htop : (T.setVm s.vm).topJava?.isSome := X.here.top
  have hF : ((T.setVm s.vm).setFrames (.invoking m args :: below)).frames = .invoking m args :: below := State.frames_setFrames _ (State.cur_lt_of_top htop)
  obtain ⟨g₀, hg0⟩ := Option.isSome_iff_exists.mp htop
  obtain ⟨r, hr⟩ := State.topJava?_eq_some.mp hg0
  have hl9 : e.platform.stackLimits (T.setVm s.vm).me = e.platform.stackLimits s.me := X.limits
  have hb9 : (T.setVm s.vm).me.stackBytes = s.me.stackBytes := X.bytes
  refine ⟨X.admits, X.cas, X.clock, hF, ?_, X.hears, X.method, X.code, X.here, X.tail, X.warmed, ?_, ?_, ?_⟩
  · have h := X.room
    have hU : ((T.setVm s.vm).setFrames (.invoking m args :: below)).localsInUse = s.localsInUse := by
      rw [State.localsInUse_invoking hF (meth := meth) (c := c) X.method X.code, State.localsInUse_invoking X.frames X.method X.code]
    simp only [State.hasRoom, Bool.and_eq_true, decide_eq_true_eq] at h ⊢
    obtain ⟨⟨⟨⟨h1, h2, h3, h4, h5, h6⟩, h7⟩, h8⟩, h9⟩ := h
    rw [X.frames, List.length_cons] at h2 h3
    have q1 := X.heapSize
    have q2 := X.used
    simp only [hF, hU, List.length_cons, State.stackLimits_setFrames, State.stackBytes_setFrames, hl9, hb9]
    refine ⟨⟨⟨⟨by omega, by omega, by omega, by omega, by omega, h6⟩, ?_⟩, ?_⟩, X.book⟩
    · show T.heap.size + R'.cells ≤ e.platform.maxCells
      omega
    · show T.slotsUsed + R'.slots ≤ e.platform.maxSlots
      omega
  · rw [State.stackLimits_setFrames]; rfl
  · rw [State.stackBytes_setFrames]; rfl
  · refine ⟨?_, Nat.le_refl _, Nat.le_refl _, ?_, ?_, fun a c9 h9 => ⟨c9, h9, rfl, rfl, fun _ _ => rfl⟩⟩
    · obtain ⟨t, ht, -⟩ := State.frames_cons hr
      show T.setVm s.vm = { ((T.setVm s.vm).setFrames (.invoking m args :: below)).setFrames (T.setVm s.vm).frames with heap := T.heap, slotsUsed := T.slotsUsed }
      rw [State.setFrames_setFrames, State.setFrames_self ht]
      rfl
    · show T.slotsUsed = T.slotsUsed + ((T.heap.toList.drop T.heap.size).map (·.slots.size)).sum
      rw [List.drop_eq_nil_of_le (Nat.le_of_eq Array.length_toList)]
      rfl
    · show ((T.heap.toList.drop T.heap.size).map (·.slots.size)).sum ≤ 0
      rw [List.drop_eq_nil_of_le (Nat.le_of_eq Array.length_toList)]
      exact Nat.le_refl _
/-- 'throw new E()': new; dup; invokespecial; athrow -/
theorem vx_throw0 {cc : ByteArray} {pc : Nat} (hexec : p.tables.exec = Jvm.exec) (hb : c.code = cc) (hl : l.stackTraces = false) {own cls : String} {names : List String} {ik ic mc ms : Nat} {A : Nat → Prop}
    (hown : s.vm.findClass own = some m.cls) (hcls : Bundle.fit cls = true) (hnames : ∀ n ∈ names, Bundle.fit n = true)
    (hk : (Cond.classLink own ik cls).before args s = true) (hini : (Cond.initialized cls).before args s = true) (hat : ∀ w ∈ vx_at0 own ic cls names, w.before args s = true)
    (hgood : ∀ w ∈ Cond.classLink own ik cls :: Cond.initialized cls :: vx_at0 own ic cls names, vx_ot w = true)
    (hU : vx_Zq Bundle.tN "UNASSIGNED_STACK" Bundle.steD A s s.heap) (hN : vx_Zq Bundle.tN "SUPPRESSED_SENTINEL" Bundle.listD A s s.heap) (hS : va_S A s.heap H locs) (hsize : ls.size = c.maxLocals)
    (d0 : decode cc pc = .ok (.new ik, 3)) (d3 : decode cc (pc + 3) = .ok (.dup, 1)) (d4 : decode cc (pc + 4) = .ok (.invokespecial ic, 3)) (d7 : decode cc (pc + 7) = .ok (.athrow, 1))
    (hout : ∀ x ∈ c.exceptionTable.toList, covers x (pc + 7) = false)
    (hRframes : names.length + 3 < R.frames) (hRlocals : (rest.map fun v => v.category).sum + (13 * (names.length + 1) + 42) ≤ R.locals) (hRcells : cells + 1 ≤ R.cells) (hRslots : slots + 6 ≤ R.slots) (hlocks : meth.locks = false)
    (hx : ∀ t : State, s.vm.Alike t.vm → H.size ≤ t.heap.size → (∀ q : Nat, q < H.size → t.heap[q]? = H[q]?) → XC cls s t)
    (hf : ∀ z ∈ locs, free z.base) (hc : cells + 1 ≤ mc) (hs : slots + 6 ≤ ms) :
    W p l e R s m args below meth c H locs cells slots (vx_MQ below Qc XC args s mc ms free) (F0 m pc ls rest) := by
  intro T hT X
  have htr : e.platform.stackTraces = false := (show e.platform.stackTraces = l.stackTraces by rw [X.admits.platform]).trans hl
  have Y := vx_rebase X (R' := { frames := R.frames, locals := R.locals, cells := 1, slots := 6 }) (Nat.le_refl _) (Nat.le_refl _) hRcells hRslots
  obtain ⟨s', hA⟩ : ∃ z, z = (T.setVm s.vm).setFrames (.invoking m args :: below) := ⟨_, rfl⟩
  rw [← hA] at Y
  have hvm : s'.vm = s.vm := by rw [hA]; rfl
  have hhp : s'.heap = H := by rw [hA]; exact hT
  have hW0 : s.WarmedH s'.vm := by rw [hvm]; exact State.WarmedH.refl s
  have hat' : ∀ w ∈ vx_at0 own ic cls names, w.before args s' = true := fun w hw => vx_ot_at hW0 hvm.symm (hgood w (List.mem_cons_of_mem _ (List.mem_cons_of_mem _ hw))) (hat w hw)
  have hk' : (Cond.classLink own ik cls).before args s' = true := vx_ot_at hW0 hvm.symm (hgood _ List.mem_cons_self) hk
  have hini' : (Cond.initialized cls).before args s' = true := vx_ot_at hW0 hvm.symm (hgood _ (List.mem_cons_of_mem _ List.mem_cons_self)) hini
  have hU' : vx_Zq Bundle.tN "UNASSIGNED_STACK" Bundle.steD A s' s'.heap := by rw [hhp]; exact vx_Zq.moved hW0.alike (hU.kept hS.2.1)
  have hN' : vx_Zq Bundle.tN "SUPPRESSED_SENTINEL" Bundle.listD A s' s'.heap := by rw [hhp]; exact vx_Zq.moved hW0.alike (hN.kept hS.2.1)
  have h : ∀ w ∈ Bundle.ownAtoms0 own ic cls names, w.before args s' = true := vx_own hat' (vx_isRefq hU'.1) (vx_isRefq hN'.1) hU'.2.word hN'.2.word
  have hown' : s'.vm.findClass own = some m.cls := by rw [hvm]; exact hown
  have hins : (Cond.instantiable cls 6).before args s' = true := h _ (by simp [Bundle.ownAtoms0])
  obtain ⟨vm₁, cX, kX, hfX, hkX, -, -, X₁, st1⟩ := Y.newCold hexec (own := own) (C := cls) (index := ik) (n := 6) hown' hk' hins hini'
    (g := F0 m pc ls rest) rfl (by rw [hb]; exact d0) (Nat.le_refl _) (Nat.le_refl _)
  generalize hT1 : (T.setVm vm₁).pushCell { cls := cX, slots := kX.instanceTypes.map defaultValue, vm := .none } = T1 at X₁ st1
  have hcat : (Value.ref T.heap.size).category = 1 := rfl
  have hcellA : T1.heap[T.heap.size]? = some (freshCell cX kX) := by rw [← hT1]; exact State.heap_pushCell_size _ _
  have d3' : decode c.code (pc + 3) = .ok (.dup, 1) := by rw [hb]; exact d3
  obtain ⟨U, hsteps, hrun, hend, hW, hsame, ce, hce, hO⟩ := X₁.ctorThrow0 hexec htr (own := own) (cls := cls) (names := names) (ic := ic) hown' hcls hnames h (fun x hx => nomatch hx) hfX hkX hcellA (by rw [hhp, hT]; exact Nat.le_refl _)
    (g := { method := m, pc := pc + 4, locals := ls, stack := .ref T.heap.size :: .ref T.heap.size :: rest, locked := none }) rfl hsize rfl rfl (rest := rest) rfl
    (by rw [hb]; exact d4) (by rw [hb]; exact d7) hout hRframes (by simp only [List.map_cons, List.sum_cons, hcat]; omega) hlocks
  obtain ⟨f1, f2⟩ := vx_frame hsame
  rw [hhp] at f1 f2
  have hWs : s.WarmedH U.vm := State.WarmedH.trans hW0 hW
  have hcl : s.vm.findClass cls = some ce.cls := by
    have h9 := hO.cls
    rw [hvm] at h9
    exact h9
  have hall : s.sameButNew ({ U with vm := s.vm } : State) locs mc ms := by
    subst hA
    obtain ⟨e1, e2⟩ := hsame
    rw [State.setFrames_setFrames] at e1
    have h2 : (T.setVm s.vm).sameButNew ({ U with vm := s.vm } : State) [] (0 + 1) (0 + 6) := ⟨e1, e2⟩
    have h3 := X.same.trans h2
    rw [List.append_nil] at h3
    exact h3.mono hc hs
  refine ⟨U, ?_, .threw T.heap.size, hrun, hend, Or.inr ⟨T.heap.size, rfl, cls, ce, locs, hx U hWs.alike f1 (fun q hq => f2 q hq (fun z hz => nomatch hz)), hce, hO.vm, hcl, hWs, hall, hf⟩⟩
  refine st1 _ ?_
  show Steps p.tables e below (T1.setTop { method := m, pc := pc + 3, locals := ls, stack := .ref T.heap.size :: rest, locked := none }) _
  jvm_step X₁.here [X₁.here.top, hexec, d3', Value.category]
  exact hsteps
/-- 'throw new E("text")': new; dup; ldc; invokespecial; athrow -/
theorem vx_throwS {cc : ByteArray} {pc : Nat} (hexec : p.tables.exec = Jvm.exec) (hb : c.code = cc) (hl : l.stackTraces = false) {own cls text : String} {names : List String} {ik is ic mc ms sa : Nat} {A : Nat → Prop}
    (hown : s.vm.findClass own = some m.cls) (hcls : Bundle.fit cls = true) (hnames : ∀ n ∈ names, Bundle.fit n = true)
    (hk : (Cond.classLink own ik cls).before args s = true) (hini : (Cond.initialized cls).before args s = true) (hstr : vk_R own is text sa s) (hat : ∀ w ∈ vx_atS own ic cls names, w.before args s = true)
    (hgood : ∀ w ∈ Cond.classLink own ik cls :: Cond.initialized cls :: vx_atS own ic cls names, vx_ot w = true)
    (hU : vx_Zq Bundle.tN "UNASSIGNED_STACK" Bundle.steD A s s.heap) (hN : vx_Zq Bundle.tN "SUPPRESSED_SENTINEL" Bundle.listD A s s.heap) (hS : va_S A s.heap H locs) (hsize : ls.size = c.maxLocals)
    (d0 : decode cc pc = .ok (.new ik, 3)) (d3 : decode cc (pc + 3) = .ok (.dup, 1)) (d4 : decode cc (pc + 4) = .ok (.ldc is, 2)) (d6 : decode cc (pc + 6) = .ok (.invokespecial ic, 3)) (d9 : decode cc (pc + 9) = .ok (.athrow, 1))
    (hout : ∀ x ∈ c.exceptionTable.toList, covers x (pc + 9) = false)
    (hRframes : names.length + 3 < R.frames) (hRlocals : (rest.map fun v => v.category).sum + (13 * (names.length + 1) + 43) ≤ R.locals) (hRcells : cells + 1 ≤ R.cells) (hRslots : slots + 6 ≤ R.slots) (hlocks : meth.locks = false)
    (hx : ∀ t : State, s.vm.Alike t.vm → H.size ≤ t.heap.size → (∀ q : Nat, q < H.size → t.heap[q]? = H[q]?) → XC cls s t)
    (hf : ∀ z ∈ locs, free z.base) (hc : cells + 1 ≤ mc) (hs : slots + 6 ≤ ms) :
    W p l e R s m args below meth c H locs cells slots (vx_MQ below Qc XC args s mc ms free) (F0 m pc ls rest) := by
  intro T hT X
  have htr : e.platform.stackTraces = false := (show e.platform.stackTraces = l.stackTraces by rw [X.admits.platform]).trans hl
  have Y := vx_rebase X (R' := { frames := R.frames, locals := R.locals, cells := 1, slots := 6 }) (Nat.le_refl _) (Nat.le_refl _) hRcells hRslots
  obtain ⟨s', hA⟩ : ∃ z, z = (T.setVm s.vm).setFrames (.invoking m args :: below) := ⟨_, rfl⟩
  rw [← hA] at Y
  have hvm : s'.vm = s.vm := by rw [hA]; rfl
  have hhp : s'.heap = H := by rw [hA]; exact hT
  have hW0 : s.WarmedH s'.vm := by rw [hvm]; exact State.WarmedH.refl s
  have hat' : ∀ w ∈ vx_atS own ic cls names, w.before args s' = true := fun w hw => vx_ot_at hW0 hvm.symm (hgood w (List.mem_cons_of_mem _ (List.mem_cons_of_mem _ hw))) (hat w hw)
  have hk' : (Cond.classLink own ik cls).before args s' = true := vx_ot_at hW0 hvm.symm (hgood _ List.mem_cons_self) hk
  have hini' : (Cond.initialized cls).before args s' = true := vx_ot_at hW0 hvm.symm (hgood _ (List.mem_cons_of_mem _ List.mem_cons_self)) hini
  have hU' : vx_Zq Bundle.tN "UNASSIGNED_STACK" Bundle.steD A s' s'.heap := by rw [hhp]; exact vx_Zq.moved hW0.alike (hU.kept hS.2.1)
  have hN' : vx_Zq Bundle.tN "SUPPRESSED_SENTINEL" Bundle.listD A s' s'.heap := by rw [hhp]; exact vx_Zq.moved hW0.alike (hN.kept hS.2.1)
  have h : ∀ w ∈ Bundle.ownAtoms own ic cls names, w.before args s' = true := vx_own hat' (vx_isRefq hU'.1) (vx_isRefq hN'.1) hU'.2.word hN'.2.word
  have hown' : s'.vm.findClass own = some m.cls := by rw [hvm]; exact hown
  have hins : (Cond.instantiable cls 6).before args s' = true := h _ (by simp [Bundle.ownAtoms])
  obtain ⟨vm₁, cX, kX, hfX, hkX, -, -, X₁, st1⟩ := Y.newCold hexec (own := own) (C := cls) (index := ik) (n := 6) hown' hk' hins hini'
    (g := F0 m pc ls rest) rfl (by rw [hb]; exact d0) (Nat.le_refl _) (Nat.le_refl _)
  generalize hT1 : (T.setVm vm₁).pushCell { cls := cX, slots := kX.instanceTypes.map defaultValue, vm := .none } = T1 at X₁ st1
  have hcat : (Value.ref T.heap.size).category = 1 := rfl
  have hcellA : T1.heap[T.heap.size]? = some (freshCell cX kX) := by rw [← hT1]; exact State.heap_pushCell_size _ _
  have d3' : decode c.code (pc + 3) = .ok (.dup, 1) := by rw [hb]; exact d3
  have d4' : decode c.code (pc + 4) = .ok (.ldc is, 2) := by rw [hb]; exact d4
  have hstr' : vk_R own is text sa s' := vk_R.warm hW0 hstr
  obtain ⟨U, hsteps, hrun, hend, hW, hsame, ce, hce, hO⟩ := X₁.ctorThrowS hexec htr (own := own) (cls := cls) (names := names) (ic := ic) hown' hcls hnames h (fun x hx => nomatch hx) hfX hkX hcellA (by rw [hhp, hT]; exact Nat.le_refl _) (msg := .ref sa) rfl
    (g := { method := m, pc := pc + 6, locals := ls, stack := .ref sa :: .ref T.heap.size :: .ref T.heap.size :: rest, locked := none }) rfl hsize rfl rfl (rest := rest) rfl
    (by rw [hb]; exact d6) (by rw [hb]; exact d9) hout hRframes (by simp only [List.map_cons, List.sum_cons, hcat]; omega) hlocks
  obtain ⟨f1, f2⟩ := vx_frame hsame
  rw [hhp] at f1 f2
  have hWs : s.WarmedH U.vm := State.WarmedH.trans hW0 hW
  have hcl : s.vm.findClass cls = some ce.cls := by
    have h9 := hO.cls
    rw [hvm] at h9
    exact h9
  have hall : s.sameButNew ({ U with vm := s.vm } : State) locs mc ms := by
    subst hA
    obtain ⟨e1, e2⟩ := hsame
    rw [State.setFrames_setFrames] at e1
    have h2 : (T.setVm s.vm).sameButNew ({ U with vm := s.vm } : State) [] (0 + 1) (0 + 6) := ⟨e1, e2⟩
    have h3 := X.same.trans h2
    rw [List.append_nil] at h3
    exact h3.mono hc hs
  refine ⟨U, ?_, .threw T.heap.size, hrun, hend, Or.inr ⟨T.heap.size, rfl, cls, ce, locs, hx U hWs.alike f1 (fun q hq => f2 q hq (fun z hz => nomatch hz)), hce, hO.vm, hcl, hWs, hall, hf⟩⟩
  refine st1 _ ?_
  show Steps p.tables e below (T1.setTop { method := m, pc := pc + 3, locals := ls, stack := .ref T.heap.size :: rest, locked := none }) _
  jvm_step X₁.here [X₁.here.top, hexec, d3', Value.category]
  exact X₁.ldcString hexec (own := own) (text := text) (index := is) (a := sa) hown' hstr'.1 hstr'.2
    (g := { method := m, pc := pc + 4, locals := ls, stack := .ref T.heap.size :: .ref T.heap.size :: rest, locked := none }) rfl d4' _ hsteps
/-- 'throw new E("text")', the text by a wide index -/
theorem vx_throwSW {cc : ByteArray} {pc : Nat} (hexec : p.tables.exec = Jvm.exec) (hb : c.code = cc) (hl : l.stackTraces = false) {own cls text : String} {names : List String} {ik is ic mc ms sa : Nat} {A : Nat → Prop}
    (hown : s.vm.findClass own = some m.cls) (hcls : Bundle.fit cls = true) (hnames : ∀ n ∈ names, Bundle.fit n = true)
    (hk : (Cond.classLink own ik cls).before args s = true) (hini : (Cond.initialized cls).before args s = true) (hstr : vk_R own is text sa s) (hat : ∀ w ∈ vx_atS own ic cls names, w.before args s = true)
    (hgood : ∀ w ∈ Cond.classLink own ik cls :: Cond.initialized cls :: vx_atS own ic cls names, vx_ot w = true)
    (hU : vx_Zq Bundle.tN "UNASSIGNED_STACK" Bundle.steD A s s.heap) (hN : vx_Zq Bundle.tN "SUPPRESSED_SENTINEL" Bundle.listD A s s.heap) (hS : va_S A s.heap H locs) (hsize : ls.size = c.maxLocals)
    (d0 : decode cc pc = .ok (.new ik, 3)) (d3 : decode cc (pc + 3) = .ok (.dup, 1)) (d4 : decode cc (pc + 4) = .ok (.ldc_w is, 3)) (d7 : decode cc (pc + 7) = .ok (.invokespecial ic, 3)) (d10 : decode cc (pc + 10) = .ok (.athrow, 1))
    (hout : ∀ x ∈ c.exceptionTable.toList, covers x (pc + 10) = false)
    (hRframes : names.length + 3 < R.frames) (hRlocals : (rest.map fun v => v.category).sum + (13 * (names.length + 1) + 43) ≤ R.locals) (hRcells : cells + 1 ≤ R.cells) (hRslots : slots + 6 ≤ R.slots) (hlocks : meth.locks = false)
    (hx : ∀ t : State, s.vm.Alike t.vm → H.size ≤ t.heap.size → (∀ q : Nat, q < H.size → t.heap[q]? = H[q]?) → XC cls s t)
    (hf : ∀ z ∈ locs, free z.base) (hc : cells + 1 ≤ mc) (hs : slots + 6 ≤ ms) :
    W p l e R s m args below meth c H locs cells slots (vx_MQ below Qc XC args s mc ms free) (F0 m pc ls rest) := by
  intro T hT X
  have htr : e.platform.stackTraces = false := (show e.platform.stackTraces = l.stackTraces by rw [X.admits.platform]).trans hl
  have Y := vx_rebase X (R' := { frames := R.frames, locals := R.locals, cells := 1, slots := 6 }) (Nat.le_refl _) (Nat.le_refl _) hRcells hRslots
  obtain ⟨s', hA⟩ : ∃ z, z = (T.setVm s.vm).setFrames (.invoking m args :: below) := ⟨_, rfl⟩
  rw [← hA] at Y
  have hvm : s'.vm = s.vm := by rw [hA]; rfl
  have hhp : s'.heap = H := by rw [hA]; exact hT
  have hW0 : s.WarmedH s'.vm := by rw [hvm]; exact State.WarmedH.refl s
  have hat' : ∀ w ∈ vx_atS own ic cls names, w.before args s' = true := fun w hw => vx_ot_at hW0 hvm.symm (hgood w (List.mem_cons_of_mem _ (List.mem_cons_of_mem _ hw))) (hat w hw)
  have hk' : (Cond.classLink own ik cls).before args s' = true := vx_ot_at hW0 hvm.symm (hgood _ List.mem_cons_self) hk
  have hini' : (Cond.initialized cls).before args s' = true := vx_ot_at hW0 hvm.symm (hgood _ (List.mem_cons_of_mem _ List.mem_cons_self)) hini
  have hU' : vx_Zq Bundle.tN "UNASSIGNED_STACK" Bundle.steD A s' s'.heap := by rw [hhp]; exact vx_Zq.moved hW0.alike (hU.kept hS.2.1)
  have hN' : vx_Zq Bundle.tN "SUPPRESSED_SENTINEL" Bundle.listD A s' s'.heap := by rw [hhp]; exact vx_Zq.moved hW0.alike (hN.kept hS.2.1)
  have h : ∀ w ∈ Bundle.ownAtoms own ic cls names, w.before args s' = true := vx_own hat' (vx_isRefq hU'.1) (vx_isRefq hN'.1) hU'.2.word hN'.2.word
  have hown' : s'.vm.findClass own = some m.cls := by rw [hvm]; exact hown
  have hins : (Cond.instantiable cls 6).before args s' = true := h _ (by simp [Bundle.ownAtoms])
  obtain ⟨vm₁, cX, kX, hfX, hkX, -, -, X₁, st1⟩ := Y.newCold hexec (own := own) (C := cls) (index := ik) (n := 6) hown' hk' hins hini'
    (g := F0 m pc ls rest) rfl (by rw [hb]; exact d0) (Nat.le_refl _) (Nat.le_refl _)
  generalize hT1 : (T.setVm vm₁).pushCell { cls := cX, slots := kX.instanceTypes.map defaultValue, vm := .none } = T1 at X₁ st1
  have hcat : (Value.ref T.heap.size).category = 1 := rfl
  have hcellA : T1.heap[T.heap.size]? = some (freshCell cX kX) := by rw [← hT1]; exact State.heap_pushCell_size _ _
  have d3' : decode c.code (pc + 3) = .ok (.dup, 1) := by rw [hb]; exact d3
  have d4' : decode c.code (pc + 4) = .ok (.ldc_w is, 3) := by rw [hb]; exact d4
  have hstr' : vk_R own is text sa s' := vk_R.warm hW0 hstr
  obtain ⟨U, hsteps, hrun, hend, hW, hsame, ce, hce, hO⟩ := X₁.ctorThrowS hexec htr (own := own) (cls := cls) (names := names) (ic := ic) hown' hcls hnames h (fun x hx => nomatch hx) hfX hkX hcellA (by rw [hhp, hT]; exact Nat.le_refl _) (msg := .ref sa) rfl
    (g := { method := m, pc := pc + 7, locals := ls, stack := .ref sa :: .ref T.heap.size :: .ref T.heap.size :: rest, locked := none }) rfl hsize rfl rfl (rest := rest) rfl
    (by rw [hb]; exact d7) (by rw [hb]; exact d10) hout hRframes (by simp only [List.map_cons, List.sum_cons, hcat]; omega) hlocks
  obtain ⟨f1, f2⟩ := vx_frame hsame
  rw [hhp] at f1 f2
  have hWs : s.WarmedH U.vm := State.WarmedH.trans hW0 hW
  have hcl : s.vm.findClass cls = some ce.cls := by
    have h9 := hO.cls
    rw [hvm] at h9
    exact h9
  have hall : s.sameButNew ({ U with vm := s.vm } : State) locs mc ms := by
    subst hA
    obtain ⟨e1, e2⟩ := hsame
    rw [State.setFrames_setFrames] at e1
    have h2 : (T.setVm s.vm).sameButNew ({ U with vm := s.vm } : State) [] (0 + 1) (0 + 6) := ⟨e1, e2⟩
    have h3 := X.same.trans h2
    rw [List.append_nil] at h3
    exact h3.mono hc hs
  refine ⟨U, ?_, .threw T.heap.size, hrun, hend, Or.inr ⟨T.heap.size, rfl, cls, ce, locs, hx U hWs.alike f1 (fun q hq => f2 q hq (fun z hz => nomatch hz)), hce, hO.vm, hcl, hWs, hall, hf⟩⟩
  refine st1 _ ?_
  show Steps p.tables e below (T1.setTop { method := m, pc := pc + 3, locals := ls, stack := .ref T.heap.size :: rest, locked := none }) _
  jvm_step X₁.here [X₁.here.top, hexec, d3', Value.category]
  exact X₁.ldcStringW hexec (own := own) (text := text) (index := is) (a := sa) hown' hstr'.1 hstr'.2
    (g := { method := m, pc := pc + 4, locals := ls, stack := .ref T.heap.size :: .ref T.heap.size :: rest, locked := none }) rfl d4' _ hsteps
end Ends
section Bodies
variable {l : Launch}
theorem vx_ofW {y : MethodName} {ws ws' : List Cond} {rm : Room} {Pc : Array Value → State → Prop} {Qc : Array Value → State → Outcome → State → Prop} {XC : String → State → State → Prop} {mc ms : Nat} {free : Addr → Prop} {cc : ByteArray} {maxL : Nat} {ret : Option FieldType}
    (hy : plainName y.cls = true) (hw : ws = Cond.code y cc maxL ret :: ws')
    (body : ∀ p e s m args below meth c s₁, BodyLoose p l y (headSpec ws rm) cc maxL ret e s m args below meth c s₁ → c.maxLocals = maxL → (∀ x ∈ c.exceptionTable.toList, False) → Pc args s →
      W p l e (headSpec ws rm).room s m args below meth c s.heap [] 0 0 (vx_MQ below Qc XC args s mc ms free) (entryFrame m args maxL)) : vx_Met l y ws rm Pc Qc XC mc ms free := by
  refine MetFree.of_bodyS (code := cc) (maxLocals := maxL) (ret := ret) hy ?_ ?_
  · intro args s m h hn
    obtain ⟨meth, c, h1, h2, h3, h4, h5, h6, -, -⟩ := Cond.code_spec hn (atoms_spec (ws := ws) h _ (by rw [hw]; exact List.mem_cons_self))
    exact ⟨meth, c, h1, h2, h3, h4, h5, h6⟩
  · intro p e s m args below meth c s₁ B hml hP _
    have hh0 : s₁.heap = s.heap := by rw [B.state]; rfl
    have ht : ∀ x ∈ c.exceptionTable.toList, False := by
      obtain ⟨meth9, c9, h1, h2, -, -, -, -, h7, -⟩ := Cond.code_spec B.named (atoms_spec (ws := ws) B.pre _ (by rw [hw]; exact List.mem_cons_self))
      cases Option.some.inj (h1.symm.trans B.method)
      cases Option.some.inj (h2.symm.trans (Stand.of_body B).code)
      intro x hx
      rw [Array.isEmpty_iff.mp h7] at hx
      cases hx
    obtain ⟨t, a1, o, b1, b2, b3⟩ := body p e s m args below meth c s₁ B hml ht hP s₁ hh0 (Stand.of_body B)
    exact ⟨t, o, a1, b1, b2, b3⟩
/-- the table of a body with handlers -/
theorem vx_table {p : Program} {x y : MethodName} {S : Spec} {cc bytes : ByteArray} {maxL maxL' : Nat} {ret ret' : Option FieldType} {e : Env} {s s₁ : State} {m : MethodId} {args : Array Value} {below : List Frame} {meth : Method} {c : Code} {hh : List (Nat × Nat × Nat × Nat)}
    (B : BodyLoose p l y S cc maxL ret e s m args below meth c s₁) (h : (Cond.codeWith y bytes maxL' ret' hh).before args s = true) : c.exceptionTable.toList = tableOf hh := by
  obtain ⟨m9, meth9, c9, hn9, h1, h2, -, -, h6, -⟩ := Cond.codeWith_spec h
  cases Option.some.inj (hn9.symm.trans B.named)
  cases Option.some.inj (h1.symm.trans B.method)
  cases Option.some.inj (h2.symm.trans (Stand.of_body B).code)
  rw [← h6, table_eq]
end Bodies
end VXA
/-! ===== END ===== -/
/-! ===== BEGIN a static call of a method with an exception table ===== -/
section VXS
variable {p : Program} {l : Launch} {e : Env} {R : Room} {s : State} {m : MethodId} {args : Array Value} {below : List Frame} {meth : Method} {c : Code} {T : State} {H : Heap} {locs : List Loc} {cells slots : Nat}
abbrev vx_CSW (R : Room) (s : State) (args : Array Value) (own : String) (index : Nat) (y : MethodName) (bytes : ByteArray) (maxL : Nat) (ret : Option FieldType) (hh : List (Nat × Nat × Nat × Nat)) (ws : List Cond) (rm : Room) (mc ms n : Nat) : Prop :=
  (rm.cells = mc ∧ rm.slots = ms ∧ rm.frames + 1 ≤ R.frames ∧ 8 + (maxL + 11) + rm.locals ≤ R.locals ∧ (∀ w ∈ ws, ∀ (a' : Array Value) (U : State), s.WarmedH U.vm → w.before a' U = true) ∧ Cond.codeWith y bytes maxL ret hh ∈ ws) ∧
  (Cond.codeWith y bytes maxL ret hh).before args s = true ∧ (Cond.initialized y.cls).before args s = true ∧ (y.cls ≠ "java/lang/invoke/MethodHandle" ∧ y.cls ≠ "java/lang/invoke/VarHandle") ∧
  (∀ sig, parseMethodDescriptor y.desc = some sig → n = sig.parameters.length) ∧ (Cond.methodLink own index y).before args s = true ∧ (Cond.static y).before args s = true
theorem vx_cwSW {own : String} {index maxL mc ms : Nat} {y : MethodName} {bytes : ByteArray} {ret : Option FieldType} {hh : List (Nat × Nat × Nat × Nat)} {Ts ws ws' : List Cond} {rm : Room} (n : Nat) (ht : ∀ w ∈ Ts, w.before args s = true) (hT : GoodIn Ts (va_wsS own index y ws)) (hw : ws = Cond.codeWith y bytes maxL ret hh :: ws') (hrc : rm.cells = mc) (hrs : rm.slots = ms)
    (hd : y.cls ≠ "java/lang/invoke/MethodHandle" ∧ y.cls ≠ "java/lang/invoke/VarHandle" ∧ (parseMethodDescriptor y.desc).map (fun d => d.parameters.length) = some n) (hR : rm.frames + 1 ≤ R.frames ∧ 8 + (maxL + 11) + rm.locals ≤ R.locals) :
    vx_CSW R s args own index y bytes maxL ret hh ws rm mc ms n := by
  have ok : ∀ w ∈ va_wsS own index y ws, w.before args s = true := fun w h => ht w (hT w h).1
  have hG : GoodIn Ts ws := fun w h => hT w (by unfold va_wsS; exact List.mem_append_right _ h)
  have hc : Cond.codeWith y bytes maxL ret hh ∈ ws := by rw [hw]; exact List.mem_cons_self
  refine ⟨⟨hrc, hrs, hR.1, hR.2, pay_in ht hG, hc⟩, ht _ (hG _ hc).1, ok _ (by simp [va_wsS]), ⟨hd.1, hd.2.1⟩, fun sig h => ?_, ok _ (by simp [va_wsS]), ok _ (by simp [va_wsS])⟩
  have h2 := hd.2.2
  rw [h] at h2
  exact (Option.some.inj h2).symm
theorem vx_callSW (X : Stand p l e R s m args below meth c T locs cells slots) (hexec : p.tables.exec = Jvm.exec) {own : String} {index : Nat} {y : MethodName} {bytes : ByteArray} {maxL : Nat} {ret : Option FieldType} {hh : List (Nat × Nat × Nat × Nat)}
    (hown : s.vm.findClass own = some m.cls) (hlink : (Cond.methodLink own index y).before args s = true) (hstat : (Cond.static y).before args s = true) (hinit : (Cond.initialized y.cls).before args s = true)
    (hcode : (Cond.codeWith y bytes maxL ret hh).before args s = true) (hy : y.cls ≠ "java/lang/invoke/MethodHandle" ∧ y.cls ≠ "java/lang/invoke/VarHandle")
    {W9 : Nat} {Pre : Pt → Array Value → Prop} {Post : Pt → Array Value → Option Value → Pt → Prop} (hK : Back l R p e below s args y 3 W9 Pre Post)
    {g : JFrame} (hg : g.method = m) (hsize : g.locals.size = c.maxLocals) {argsL rest : List Value} (hlen : ∀ sig, parseMethodDescriptor y.desc = some sig → argsL.length = sig.parameters.length)
    (hstack : g.stack = argsL.reverse ++ rest) (hW : 2 * g.monitorRoom + (rest.map fun v => v.category).sum ≤ W9) (hdg : decode c.code g.pc = .ok (.invokestatic index, 3))
    (hpre : ∀ vm₁, s.WarmedH vm₁ → Pre ⟨T.setVm vm₁, locs, cells, slots⟩ argsL.toArray) :
    ∃ (v : Option Value) (vm₁ : Vm) (B : Pt), s.WarmedH vm₁ ∧ Stand p l e R s m args below meth c B.U B.locs B.cells B.slots ∧ Post ⟨T.setVm vm₁, locs, cells, slots⟩ argsL.toArray v B ∧
      ∀ target, Steps p.tables e below (B.U.setTop { g with pc := g.pc + 3, stack := v.toList ++ rest }) target → Steps p.tables e below (T.setTop g) target := by
  obtain ⟨mk, methM, cM, hnamed, hmethM, -, -, -, -, -, -, hsigM⟩ := Cond.codeWith_spec hcode
  have hstatic : methM.isStatic = true := Cond.static_spec hnamed hmethM hstat
  obtain ⟨kP, hkP, -⟩ := className_of_methodNamed hnamed
  have hinitP : kP.init = .initialized := Cond.initialized_spec (findClass_of_methodNamed hnamed) hkP hinit
  obtain ⟨vm₁, X₁, hstep₁⟩ := X.invokestatic hexec hown hlink hnamed hmethM hstatic hkP hinitP hy (g := g) hg (argsL := argsL) (rest := rest) (hlen _ hsigM) hstack hdg
  obtain ⟨v, B, X', hpost, hsteps⟩ := hK m meth c ⟨T.setVm vm₁, locs, cells, slots⟩ { g with stack := rest } (.invokestatic index) mk argsL.toArray X₁ hg hsize hdg hW (X₁.named hnamed) (hpre vm₁ X₁.warmed)
  exact ⟨v, vm₁, B, X₁.warmed, X', hpost, fun target h => hstep₁ _ fun acts => by rw [doInvoke_state]; exact hsteps.trans h⟩
theorem vx_runSW {y : MethodName} {bytes cc : ByteArray} {maxL nL mc ms n index : Nat} {ret : Option FieldType} {hh : List (Nat × Nat × Nat × Nat)} {ws : List Cond} {rm : Room} {Pc : Array Value → State → Prop} {Qc : Array Value → State → Outcome → State → Prop} {free : Addr → Prop} {Ts : List Cond} {own : String} {As rest : List Value} {g : JFrame}
    (S : CallFix p m c cc nL s args Ts own) (hM : Met l y ws rm Pc Qc mc ms free) (cw : vx_CSW R s args own index y bytes maxL ret hh ws rm mc ms n) (hp : PreS s H Pc As)
    (hg : g.method = m) (hn : As.length = n) (hsize : g.locals.size = nL) (hstack : g.stack = As.reverse ++ rest) (hW : 2 * g.monitorRoom + (rest.map fun v => v.category).sum ≤ 8) (hdg : decode cc g.pc = .ok (.invokestatic index, 3)) (hf : cells + mc ≤ R.cells ∧ slots + ms ≤ R.slots) :
    va_Run p l e R s m args below meth c H locs cells slots mc ms g rest (Qc As.toArray) (free) := by
  obtain ⟨⟨hrc, hrs, hfr, hlo, hws, hcw⟩, hcode, hini, hy, hlen, hl, hstt⟩ := cw
  have hK : Back l R p e below s args y 3 8 (PreOf R mc ms Pc) (PostOf Qc mc ms free) := va_backW (hh := hh) (bytes := bytes) (maxL := maxL) (ret := ret) hM hp.1 hrc hrs hfr hlo hws hcw (fun a' U hW => word_at hW (Or.inl (by first | rfl | simp [Cond.onTables, Cond.keeps, Cond.steady])) hini)
  obtain ⟨hx, hb, hml, ho, -⟩ := S
  intro T hT X
  obtain ⟨v, vm₁, ⟨U', l2, c2, s2⟩, hW₁, X', ⟨g', mk, t, L, e1, e2, hq, h1, hL, h2, h3⟩, st⟩ := vx_callSW X hx (hh := hh) (bytes := bytes) (maxL := maxL) (ret := ret) ho hl hstt hini hcode hy hK hg (hsize.trans hml.symm) (argsL := As) (rest := rest) (fun sig h => hn.trans (hlen sig h)) hstack hW (by rw [hb]; exact hdg)
    (fun vm₁ hW₁ => ⟨hf.1, hf.2, hp.2 (T.setVm vm₁) hT hW₁⟩)
  dsimp only [Pt.U, Pt.locs, Pt.cells, Pt.slots] at X' e1 e2 h1 h2 h3 st
  subst h1; subst h2; subst h3
  exact ⟨v, (T.setVm vm₁).calling g' mk As.toArray, t, U', L, hT, X', hL, e1, e2, hq, st⟩
/-- not caught here, past rows that name other classes: it goes on to the caller -/
theorem vx_outP {p : Program} {l : Launch} {e : Env} {R : Room} {s : State} {m : MethodId} {args : Array Value} {below : List Frame} {meth : Method} {c : Code} {H : Heap} {locs : List Loc} {cells slots : Nat} {free : Addr → Prop} {ls : Array Slot} {rest : List Value} {Qc : Array Value → State → Outcome → State → Prop} {XC : String → State → State → Prop}
    {pc : Nat} {own E : String} {ce : Cell} {q : Addr} {mc ms : Nat} (hown : s.vm.findClass own = some m.cls) (hlocks : meth.locks = false)
    (hpass : ∀ z ∈ c.exceptionTable.toList, covers z pc = false ∨ (z.catchType ≠ 0 ∧ ∃ nm : String, (Cond.classLink own z.catchType nm).before args s = true ∧ va_Nc E nm s)) (hcell : H[q]? = some ce) (hv : ce.vm = .none) (hcl : s.vm.findClass E = some ce.cls)
    (hx : ∀ t : State, t.heap = H → s.vm.Alike t.vm → XC E s t) (hf : ∀ z ∈ locs, free z.base) (hc : cells ≤ mc) (hs : slots ≤ ms) :
    vx_W p l e R s m args below meth c H locs cells slots (vx_MQ below Qc XC args s mc ms free) (F0 m pc ls rest) q := by
  intro T hT X
  have hpl : e.platform.magicAccessors = ({} : Platform).magicAccessors := by rw [X.admits.platform]
  obtain ⟨vm', hW', X', st⟩ := X.outThrough hlocks q (g := F0 m pc ls rest) rfl rfl rfl (cell := ce) (by rw [hT]; exact hcell) (by rw [hv]; rfl)
    (by obtain ⟨k9, h9, -⟩ := Vm.findClass_spec hcl; exact ⟨k9, h9⟩) (fun z hz => by
      rcases hpass z hz with h | ⟨hz0, nm, hl1, hn1⟩
      · exact Or.inl h
      · obtain ⟨c6, hc6, hcl6⟩ := Cond.classLink_spec hown hl1 e.platform hpl
        obtain ⟨a8, b8, h1, h2, h3⟩ := hn1
        cases Option.some.inj (h1.symm.trans hcl)
        cases Option.some.inj (h2.symm.trans hc6)
        exact Or.inr ⟨hz0, _, hcl6, h3⟩)
  obtain ⟨g₀, hfr⟩ := X'.frames_eq
  have hcell9 : ((T.setVm vm').setFrames (.throwing q :: below)).heap[q]? = some ce := by
    show T.heap[q]? = some ce
    rw [hT]; exact hcell
  have hend : Ended ((T.setVm vm').setFrames (.throwing q :: below)) below (.threw q) := State.frames_setFrames _ (State.cur_lt_of_frames hfr)
  refine ⟨(T.setVm vm').setFrames (.throwing q :: below), ?_, .threw q, X'.here.running, hend, Or.inr ⟨q, rfl, E, ce, locs, hx _ hT (X'.ends _).1.alike, hcell9, hv, hcl, (X'.ends _).1, (X'.ends _).2.mono hc hs, hf⟩⟩
  rw [X.pushThrowing_eq]
  exact st
/-- a thing of a world lies in the heap -/
theorem vx_lt {D : va_G} {cl : List vw_C} {ws : va_W} {H1 : Heap} (h : va_P D cl ws H1) {k : Nat} {q : Nat × va_E} (hk : ws[k]? = some q) : q.1 < H1.size := (h k q hk).lt
end VXS
/-! ===== END ===== -/
/-! ===== BEGIN methods with a table of their own: called by a name, returning or throwing ===== -/
section VXH
/-! vx_backW, vx_callVX, vx_callSX, vx_callVW, vx_runVW, vx_runVX, vx_runSX, vx_ofWH follow the same proofs as their sisters above (Free/Laws.lean, Shelf42/LK1.lean); vx_outP calls Shelf42/NT130.lean (outThrough). -/
section
variable {l : Launch} {R : Room} {p : Program} {e : Env} {below : List Frame} {s : State} {sargs : Array Value} {y : MethodName} {len W9 : Nat}
theorem vx_backW {ws : List Cond} {rm : Room} {Pc : Array Value → State → Prop} {Qc : Array Value → State → Outcome → State → Prop} {XC : String → State → State → Prop} {mc ms : Nat} {free : Addr → Prop} {bytes : ByteArray} {maxL : Nat} {ret : Option FieldType} {hh : List (Nat × Nat × Nat × Nat)}
    (hM : vx_Met l y ws rm Pc Qc XC mc ms free) (hblind : FrameBlind Pc) (hrc : rm.cells = mc) (hrs : rm.slots = ms)
    (hframes : rm.frames + 1 ≤ R.frames) (hlocals : W9 + (maxL + 11) + rm.locals ≤ R.locals)
    (hws : ∀ w ∈ ws, ∀ a' U, s.WarmedH U.vm → w.before a' U = true) (hcode : Cond.codeWith y bytes maxL ret hh ∈ ws) (hinit : ∀ a' U, s.WarmedH U.vm → (Cond.initialized y.cls).before a' U = true) :
    vx_Back l R p e below s sargs y len W9 (PreOf R mc ms Pc) (PostOf Qc mc ms free) (vx_Post XC mc ms free) := by
  intro m meth c A g ig mk a X hg hsize hdg hW hn hp
  have h1 : (headSpec ws rm).pre.before a A.U = true := atoms_intro fun w hw => hws w hw _ _ X.warmed
  have h2 : (Cond.codeWith y bytes maxL ret hh).before a A.U = true := hws _ hcode _ _ X.warmed
  have h3 : (Cond.initialized y.cls).before a A.U = true := hinit _ _ X.warmed
  have h4 : A.cells + (headSpec ws rm).room.cells ≤ R.cells := by rw [show (headSpec ws rm).room.cells = mc from hrc]; exact hp.1
  have h5 : A.slots + (headSpec ws rm).room.slots ≤ R.slots := by rw [show (headSpec ws rm).room.slots = ms from hrs]; exact hp.2.1
  have hPc : Pc a (A.U.calling g mk a) := hblind _ _ _ _ hp.2.2
  obtain ⟨U, Ls, c0, s0⟩ := A
  dsimp only [Pt.U, Pt.locs, Pt.cells, Pt.slots] at h1 h2 h3 h4 h5 X hn hPc ⊢
  obtain ⟨m9, methY, cY, hn9, hmY, hcY, -, hlY, -⟩ := Cond.codeWith_spec h2
  cases Option.some.inj (hn9.symm.trans hn)
  obtain ⟨kY, hkY, -⟩ := className_of_methodNamed hn
  have hinitY : kY.init = .initialized := Cond.initialized_spec (findClass_of_methodNamed hn) hkY h3
  have h : At U g.method c below := by rw [hg]; exact X.here
  have hlocals9 : W9 + (maxL + 11) + (headSpec ws rm).room.locals ≤ R.locals := hlocals
  have happ : (headSpec ws rm).appliesLoose y e.platform (U.calling g mk a) = true :=
    Spec.appliesLoose_calling (g := g) h hdg hn hkY hinitY
      (X.room_calling (g := g) (R' := (headSpec ws rm).room) hsize hmY hcY hframes (by rw [hlY]; omega) h4 h5) h1
  obtain ⟨mid, hmid⟩ := h.above
  have hfr : (U.setTop g).frames = (.java g :: mid) ++ below := by rw [State.frames_setTop' g h.top, hmid]; rfl
  obtain ⟨o, s₂, hsteps, -, hend, hq⟩ := Steps.callFree hM p X.admits X.cas X.clock (acts := []) hfr happ hPc trivial
  have hq' : vx_Q Qc XC mc ms free a (U.calling g mk a) o s₂ := hq
  rw [State.frames_setTop' g h.top] at hend
  obtain ⟨g₀, hg0⟩ := Option.isSome_iff_exists.mp h.top
  obtain ⟨r, hr⟩ := State.topJava?_eq_some.mp hg0
  have hr' : (({ U with heap := s₂.heap, slotsUsed := s₂.slotsUsed } : State).setVm s₂.vm).frames = .java g₀ :: r := hr
  rcases hq' with ⟨hqc, L, hfe, hL⟩ | ⟨q, rfl, E, ce, L, hx, hce, hcv, hcl, hW₂, hsm, hL⟩
  · obtain ⟨⟨v, rfl⟩, hW₂, e2, q2, q3, q4, q5, q6⟩ := id hfe
    have e3 : s₂ = ({ (U.calling g mk a).setFrames s₂.frames with heap := s₂.heap, slotsUsed := s₂.slotsUsed } : State).setVm s₂.vm := by
      have : s₂ = ({ s₂ with vm := (U.calling g mk a).vm } : State).setVm s₂.vm := rfl
      rw [e2] at this
      exact this
    obtain ⟨c₂, i₂, len₂, hc₂, hd₂, hf₂⟩ := hend
    have hW' : U.WarmedH s₂.vm := hW₂
    have hcc : c₂ = c := by
      have h1 : s₂.code? g.method = U.code? g.method := by
        rw [State.code?_eq, State.code?_eq, hW'.alike.method?]
      exact Option.some.inj (hc₂.symm.trans (h1.trans h.code))
    subst hcc
    have hlen : len₂ = len := by rw [hdg] at hd₂; cases hd₂; rfl
    subst hlen
    have hs₂ : s₂ = (({ U with heap := s₂.heap, slotsUsed := s₂.slotsUsed } : State).setVm s₂.vm).setTop { g with pc := g.pc + len₂, stack := v.toList ++ g.stack } := by
      refine e3.trans ?_
      rw [hf₂, State.calling_eq h.top, State.setFrames_setFrames, State.setTop_of_frames _ hr', hr]
      rfl
    have hsame : U.sameButNew ({ U with heap := s₂.heap, slotsUsed := s₂.slotsUsed } : State) L mc ms := by
      refine ⟨?_, q2, q3, q4, q5, q6⟩
      obtain ⟨t, ht, -⟩ := State.frames_cons hr
      show ({ U with heap := s₂.heap, slotsUsed := s₂.slotsUsed } : State) = { U.setFrames U.frames with heap := s₂.heap, slotsUsed := s₂.slotsUsed }
      rw [State.setFrames_self ht]
    subst hg
    refine Or.inl ⟨v, ⟨(({ U with heap := s₂.heap, slotsUsed := s₂.slotsUsed } : State).setVm s₂.vm), Ls ++ L, c0 + mc, s0 + ms⟩,
      ⟨X.admits, X.cas, X.clock, X.frames, X.room, X.hears, X.method, X.code, (X.here.setHeapUsed s₂.heap s₂.slotsUsed).setVm hW'.alike, X.tail, State.WarmedH.trans X.warmed hW', X.limits, X.bytes, X.same.trans (hsame.setVm s.vm)⟩,
      ⟨g, mk, s₂, L, rfl, rfl, hqc, rfl, hL, rfl, rfl⟩, ?_⟩
    show Steps p.tables e below _ ((({ U with heap := s₂.heap, slotsUsed := s₂.slotsUsed } : State).setVm s₂.vm).setTop { g with pc := g.pc + len₂, stack := v.toList ++ g.stack })
    rw [← hs₂]
    exact hsteps
  · obtain ⟨e2, q2, q3, q4, q5, q6⟩ := id hsm
    have e3 : s₂ = ({ (U.calling g mk a).setFrames s₂.frames with heap := s₂.heap, slotsUsed := s₂.slotsUsed } : State).setVm s₂.vm := by
      have : s₂ = ({ s₂ with vm := (U.calling g mk a).vm } : State).setVm s₂.vm := rfl
      rw [e2] at this
      exact this
    have hf₂ : s₂.frames = .throwing q :: .java g :: U.frames.tail := hend
    have hW' : U.WarmedH s₂.vm := hW₂
    have hs₂ : s₂ = ((({ U with heap := s₂.heap, slotsUsed := s₂.slotsUsed } : State).setVm s₂.vm).setTop g).pushFrame (.throwing q) := by
      refine e3.trans ?_
      rw [hf₂, State.calling_eq h.top, State.setFrames_setFrames, State.pushFrame, State.frames_setTop _ hr', State.setTop_of_frames _ hr', State.setFrames_setFrames, hr]
      rfl
    have hsame : U.sameButNew ({ U with heap := s₂.heap, slotsUsed := s₂.slotsUsed } : State) L mc ms := by
      refine ⟨?_, q2, q3, q4, q5, q6⟩
      obtain ⟨t, ht, -⟩ := State.frames_cons hr
      show ({ U with heap := s₂.heap, slotsUsed := s₂.slotsUsed } : State) = { U.setFrames U.frames with heap := s₂.heap, slotsUsed := s₂.slotsUsed }
      rw [State.setFrames_self ht]
    subst hg
    refine Or.inr ⟨q, ⟨(({ U with heap := s₂.heap, slotsUsed := s₂.slotsUsed } : State).setVm s₂.vm), Ls ++ L, c0 + mc, s0 + ms⟩,
      ⟨X.admits, X.cas, X.clock, X.frames, X.room, X.hears, X.method, X.code, (X.here.setHeapUsed s₂.heap s₂.slotsUsed).setVm hW'.alike, X.tail, State.WarmedH.trans X.warmed hW', X.limits, X.bytes, X.same.trans (hsame.setVm s.vm)⟩,
      ⟨g, mk, s₂, L, E, ce, rfl, rfl, hx, hce, hcv, hcl, rfl, hL, rfl, rfl⟩, ?_⟩
    show Steps p.tables e below _ (((({ U with heap := s₂.heap, slotsUsed := s₂.slotsUsed } : State).setVm s₂.vm).setTop g).pushFrame (.throwing q))
    rw [← hs₂]
    exact hsteps
end
variable {p : Program} {l : Launch} {e : Env} {R : Room} {s : State} {m : MethodId} {args : Array Value} {below : List Frame} {meth : Method} {c : Code} {T : State} {H : Heap} {locs : List Loc} {cells slots : Nat}
theorem vx_callVX (X : Stand p l e R s m args below meth c T locs cells slots) (hexec : p.tables.exec = Jvm.exec) {own C : String} {index : Nat} {y : MethodName} {bytes : ByteArray} {maxL : Nat} {ret : Option FieldType} {hh : List (Nat × Nat × Nat × Nat)}
    (hown : s.vm.findClass own = some m.cls) (hlink : (Cond.methodLink own index y).before args s = true) (hinst : (Cond.instanceMethod y).before args s = true) (hsel : (Cond.selects C y y).before args s = true)
    (hcode : (Cond.codeWith y bytes maxL ret hh).before args s = true) (hy : y.cls ≠ "java/lang/invoke/MethodHandle" ∧ y.cls ≠ "java/lang/invoke/VarHandle")
    {W9 : Nat} {Pre : Pt → Array Value → Prop} {Post : Pt → Array Value → Option Value → Pt → Prop} {PostX : Pt → Array Value → Addr → Pt → Prop} (hK : vx_Back l R p e below s args y 3 W9 Pre Post PostX)
    {b : Addr} {cellB : Cell} (hcell : T.heap[b]? = some cellB) (hobj : cellB.vm.isStatics = false) (hcls : s.vm.findClass C = some cellB.cls)
    {g : JFrame} (hg : g.method = m) (hsize : g.locals.size = c.maxLocals) {argsL rest : List Value} (hlen : ∀ sig, parseMethodDescriptor y.desc = some sig → argsL.length = sig.parameters.length)
    (hstack : g.stack = argsL.reverse ++ .ref b :: rest) (hW : 2 * g.monitorRoom + (rest.map fun v => v.category).sum ≤ W9) (hdg : decode c.code g.pc = .ok (.invokevirtual index, 3))
    (hpre : ∀ vm₁, s.WarmedH vm₁ → Pre ⟨T.setVm vm₁, locs, cells, slots⟩ (Value.ref b :: argsL).toArray) :
    (∃ (v : Option Value) (vm₁ : Vm) (B : Pt), s.WarmedH vm₁ ∧ Stand p l e R s m args below meth c B.U B.locs B.cells B.slots ∧ Post ⟨T.setVm vm₁, locs, cells, slots⟩ (Value.ref b :: argsL).toArray v B ∧
      ∀ target, Steps p.tables e below (B.U.setTop { g with pc := g.pc + 3, stack := v.toList ++ rest }) target → Steps p.tables e below (T.setTop g) target) ∨
    (∃ (q : Addr) (vm₁ : Vm) (B : Pt), s.WarmedH vm₁ ∧ Stand p l e R s m args below meth c B.U B.locs B.cells B.slots ∧ PostX ⟨T.setVm vm₁, locs, cells, slots⟩ (Value.ref b :: argsL).toArray q B ∧
      Steps p.tables e below (T.setTop g) ((B.U.setTop { g with stack := rest }).pushFrame (.throwing q))) := by
  obtain ⟨mk, methM, hnamed, hmethM, hstM, habM⟩ := Cond.instanceMethod_spec hinst
  obtain ⟨m8, methM', cM, hn8, hmethM', -, -, -, -, -, -, hsigM⟩ := Cond.codeWith_spec hcode
  cases Option.some.inj (hn8.symm.trans hnamed)
  cases hmethM.symm.trans hmethM'
  obtain ⟨c2, r2, m2, q1, q2, q3, q4, kP, hkP, hkPi⟩ := Cond.selects_spec hsel
  cases hcls.symm.trans q1
  cases (State.methodFound?_of_named hnamed hy).symm.trans q2
  cases hnamed.symm.trans q3
  have hselP : selectMethod e.platform s.vm cellB.cls mk = .method mk := by rw [Launch.admits_selectMethod X.admits]; exact q4
  obtain ⟨vm₁, X₁, hstep₁⟩ := X.invokevirtual hexec hown hlink hnamed hmethM hstM hkP hkPi hy (a := b) (cell := cellB) hcell
    (fun z h => by rw [h] at hobj; cases hobj) hselP hmethM habM hkP hkPi (g := g) hg (argsL := argsL) (rest := rest) (hlen _ hsigM) hstack hdg
  rcases hK m meth c ⟨T.setVm vm₁, locs, cells, slots⟩ { g with stack := rest } (.invokevirtual index) mk (Value.ref b :: argsL).toArray X₁ hg hsize hdg hW (X₁.named hnamed) (hpre vm₁ X₁.warmed) with ⟨v, B, X', hpost, hsteps⟩ | ⟨q, B, X', hpost, hsteps⟩
  · exact Or.inl ⟨v, vm₁, B, X₁.warmed, X', hpost, fun target h => hstep₁ _ fun acts => by rw [doInvoke_state]; exact hsteps.trans h⟩
  · exact Or.inr ⟨q, vm₁, B, X₁.warmed, X', hpost, hstep₁ _ fun acts => by rw [doInvoke_state]; exact hsteps⟩
theorem vx_callSX (X : Stand p l e R s m args below meth c T locs cells slots) (hexec : p.tables.exec = Jvm.exec) {own : String} {index : Nat} {y : MethodName} {bytes : ByteArray} {maxL : Nat} {ret : Option FieldType} {hh : List (Nat × Nat × Nat × Nat)}
    (hown : s.vm.findClass own = some m.cls) (hlink : (Cond.methodLink own index y).before args s = true) (hstat : (Cond.static y).before args s = true) (hinit : (Cond.initialized y.cls).before args s = true)
    (hcode : (Cond.codeWith y bytes maxL ret hh).before args s = true) (hy : y.cls ≠ "java/lang/invoke/MethodHandle" ∧ y.cls ≠ "java/lang/invoke/VarHandle")
    {W9 : Nat} {Pre : Pt → Array Value → Prop} {Post : Pt → Array Value → Option Value → Pt → Prop} {PostX : Pt → Array Value → Addr → Pt → Prop} (hK : vx_Back l R p e below s args y 3 W9 Pre Post PostX)
    {g : JFrame} (hg : g.method = m) (hsize : g.locals.size = c.maxLocals) {argsL rest : List Value} (hlen : ∀ sig, parseMethodDescriptor y.desc = some sig → argsL.length = sig.parameters.length)
    (hstack : g.stack = argsL.reverse ++ rest) (hW : 2 * g.monitorRoom + (rest.map fun v => v.category).sum ≤ W9) (hdg : decode c.code g.pc = .ok (.invokestatic index, 3))
    (hpre : ∀ vm₁, s.WarmedH vm₁ → Pre ⟨T.setVm vm₁, locs, cells, slots⟩ argsL.toArray) :
    (∃ (v : Option Value) (vm₁ : Vm) (B : Pt), s.WarmedH vm₁ ∧ Stand p l e R s m args below meth c B.U B.locs B.cells B.slots ∧ Post ⟨T.setVm vm₁, locs, cells, slots⟩ argsL.toArray v B ∧
      ∀ target, Steps p.tables e below (B.U.setTop { g with pc := g.pc + 3, stack := v.toList ++ rest }) target → Steps p.tables e below (T.setTop g) target) ∨
    (∃ (q : Addr) (vm₁ : Vm) (B : Pt), s.WarmedH vm₁ ∧ Stand p l e R s m args below meth c B.U B.locs B.cells B.slots ∧ PostX ⟨T.setVm vm₁, locs, cells, slots⟩ argsL.toArray q B ∧
      Steps p.tables e below (T.setTop g) ((B.U.setTop { g with stack := rest }).pushFrame (.throwing q))) := by
  obtain ⟨mk, methM, cM, hnamed, hmethM, -, -, -, -, -, -, hsigM⟩ := Cond.codeWith_spec hcode
  have hstatic : methM.isStatic = true := Cond.static_spec hnamed hmethM hstat
  obtain ⟨kP, hkP, -⟩ := className_of_methodNamed hnamed
  have hinitP : kP.init = .initialized := Cond.initialized_spec (findClass_of_methodNamed hnamed) hkP hinit
  obtain ⟨vm₁, X₁, hstep₁⟩ := X.invokestatic hexec hown hlink hnamed hmethM hstatic hkP hinitP hy (g := g) hg (argsL := argsL) (rest := rest) (hlen _ hsigM) hstack hdg
  rcases hK m meth c ⟨T.setVm vm₁, locs, cells, slots⟩ { g with stack := rest } (.invokestatic index) mk argsL.toArray X₁ hg hsize hdg hW (X₁.named hnamed) (hpre vm₁ X₁.warmed) with ⟨v, B, X', hpost, hsteps⟩ | ⟨q, B, X', hpost, hsteps⟩
  · exact Or.inl ⟨v, vm₁, B, X₁.warmed, X', hpost, fun target h => hstep₁ _ fun acts => by rw [doInvoke_state]; exact hsteps.trans h⟩
  · exact Or.inr ⟨q, vm₁, B, X₁.warmed, X', hpost, hstep₁ _ fun acts => by rw [doInvoke_state]; exact hsteps⟩
theorem vx_callVW (X : Stand p l e R s m args below meth c T locs cells slots) (hexec : p.tables.exec = Jvm.exec) {own C : String} {index : Nat} {y : MethodName} {bytes : ByteArray} {maxL : Nat} {ret : Option FieldType} {hh : List (Nat × Nat × Nat × Nat)}
    (hown : s.vm.findClass own = some m.cls) (hlink : (Cond.methodLink own index y).before args s = true) (hinst : (Cond.instanceMethod y).before args s = true) (hsel : (Cond.selects C y y).before args s = true)
    (hcode : (Cond.codeWith y bytes maxL ret hh).before args s = true) (hy : y.cls ≠ "java/lang/invoke/MethodHandle" ∧ y.cls ≠ "java/lang/invoke/VarHandle")
    {W9 : Nat} {Pre : Pt → Array Value → Prop} {Post : Pt → Array Value → Option Value → Pt → Prop} (hK : Back l R p e below s args y 3 W9 Pre Post)
    {b : Addr} {cellB : Cell} (hcell : T.heap[b]? = some cellB) (hobj : cellB.vm.isStatics = false) (hcls : s.vm.findClass C = some cellB.cls)
    {g : JFrame} (hg : g.method = m) (hsize : g.locals.size = c.maxLocals) {argsL rest : List Value} (hlen : ∀ sig, parseMethodDescriptor y.desc = some sig → argsL.length = sig.parameters.length)
    (hstack : g.stack = argsL.reverse ++ .ref b :: rest) (hW : 2 * g.monitorRoom + (rest.map fun v => v.category).sum ≤ W9) (hdg : decode c.code g.pc = .ok (.invokevirtual index, 3))
    (hpre : ∀ vm₁, s.WarmedH vm₁ → Pre ⟨T.setVm vm₁, locs, cells, slots⟩ (Value.ref b :: argsL).toArray) :
    ∃ (v : Option Value) (vm₁ : Vm) (B : Pt), s.WarmedH vm₁ ∧ Stand p l e R s m args below meth c B.U B.locs B.cells B.slots ∧ Post ⟨T.setVm vm₁, locs, cells, slots⟩ (Value.ref b :: argsL).toArray v B ∧
      ∀ target, Steps p.tables e below (B.U.setTop { g with pc := g.pc + 3, stack := v.toList ++ rest }) target → Steps p.tables e below (T.setTop g) target := by
  obtain ⟨mk, methM, hnamed, hmethM, hstM, habM⟩ := Cond.instanceMethod_spec hinst
  obtain ⟨m8, methM', cM, hn8, hmethM', -, -, -, -, -, -, hsigM⟩ := Cond.codeWith_spec hcode
  cases Option.some.inj (hn8.symm.trans hnamed)
  cases hmethM.symm.trans hmethM'
  obtain ⟨c2, r2, m2, q1, q2, q3, q4, kP, hkP, hkPi⟩ := Cond.selects_spec hsel
  cases hcls.symm.trans q1
  cases (State.methodFound?_of_named hnamed hy).symm.trans q2
  cases hnamed.symm.trans q3
  have hselP : selectMethod e.platform s.vm cellB.cls mk = .method mk := by rw [Launch.admits_selectMethod X.admits]; exact q4
  obtain ⟨vm₁, X₁, hstep₁⟩ := X.invokevirtual hexec hown hlink hnamed hmethM hstM hkP hkPi hy (a := b) (cell := cellB) hcell
    (fun z h => by rw [h] at hobj; cases hobj) hselP hmethM habM hkP hkPi (g := g) hg (argsL := argsL) (rest := rest) (hlen _ hsigM) hstack hdg
  obtain ⟨v, B, X', hpost, hsteps⟩ := hK m meth c ⟨T.setVm vm₁, locs, cells, slots⟩ { g with stack := rest } (.invokevirtual index) mk (Value.ref b :: argsL).toArray X₁ hg hsize hdg hW (X₁.named hnamed) (hpre vm₁ X₁.warmed)
  exact ⟨v, vm₁, B, X₁.warmed, X', hpost, fun target h => hstep₁ _ fun acts => by rw [doInvoke_state]; exact hsteps.trans h⟩
abbrev vx_CVW (R : Room) (s : State) (args : Array Value) (own C : String) (index : Nat) (y : MethodName) (bytes : ByteArray) (maxL : Nat) (ret : Option FieldType) (hh : List (Nat × Nat × Nat × Nat)) (ws : List Cond) (rm : Room) (mc ms n : Nat) : Prop :=
  (rm.cells = mc ∧ rm.slots = ms ∧ rm.frames + 1 ≤ R.frames ∧ 8 + (maxL + 11) + rm.locals ≤ R.locals ∧ (∀ w ∈ ws, ∀ (a' : Array Value) (U : State), s.WarmedH U.vm → w.before a' U = true) ∧ Cond.codeWith y bytes maxL ret hh ∈ ws) ∧
  (Cond.codeWith y bytes maxL ret hh).before args s = true ∧ (Cond.initialized y.cls).before args s = true ∧ (y.cls ≠ "java/lang/invoke/MethodHandle" ∧ y.cls ≠ "java/lang/invoke/VarHandle") ∧
  (∀ sig, parseMethodDescriptor y.desc = some sig → n = sig.parameters.length) ∧ (Cond.methodLink own index y).before args s = true ∧ (Cond.instanceMethod y).before args s = true ∧ (Cond.selects C y y).before args s = true
theorem vx_cwVW {own C : String} {index maxL mc ms : Nat} {y : MethodName} {bytes : ByteArray} {ret : Option FieldType} {hh : List (Nat × Nat × Nat × Nat)} {Ts ws ws' : List Cond} {rm : Room} (n : Nat) (ht : ∀ w ∈ Ts, w.before args s = true) (hT : GoodIn Ts (wsV own index C y ws)) (hw : ws = Cond.codeWith y bytes maxL ret hh :: ws') (hrc : rm.cells = mc) (hrs : rm.slots = ms)
    (hd : y.cls = C ∧ y.cls ≠ "java/lang/invoke/MethodHandle" ∧ y.cls ≠ "java/lang/invoke/VarHandle" ∧ (parseMethodDescriptor y.desc).map (fun d => d.parameters.length) = some n) (hR : rm.frames + 1 ≤ R.frames ∧ 8 + (maxL + 11) + rm.locals ≤ R.locals) :
    vx_CVW R s args own C index y bytes maxL ret hh ws rm mc ms n := by
  obtain ⟨hC, hd⟩ := hd
  subst hC
  have ok : ∀ w ∈ wsV own index y.cls y ws, w.before args s = true := fun w h => ht w (hT w h).1
  have hG : GoodIn Ts ws := fun w h => hT w (by unfold wsV; exact List.mem_append_right _ h)
  have hc : Cond.codeWith y bytes maxL ret hh ∈ ws := by rw [hw]; exact List.mem_cons_self
  refine ⟨⟨hrc, hrs, hR.1, hR.2, pay_in ht hG, hc⟩, ht _ (hG _ hc).1, ok _ (by simp [wsV]), ⟨hd.1, hd.2.1⟩, fun sig h => ?_, ok _ (by simp [wsV]), ok _ (by simp [wsV]), ok _ (by simp [wsV])⟩
  have h2 := hd.2.2
  rw [h] at h2
  exact (Option.some.inj h2).symm
theorem vx_runVW {y : MethodName} {bytes cc : ByteArray} {maxL nL mc ms n index : Nat} {ret : Option FieldType} {hh : List (Nat × Nat × Nat × Nat)} {ws : List Cond} {rm : Room} {Pc : Array Value → State → Prop} {Qc : Array Value → State → Outcome → State → Prop} {free : Addr → Prop} {Ts : List Cond} {own C : String} {b : Addr} {As rest : List Value} {g : JFrame}
    (S : CallFix p m c cc nL s args Ts own) (hM : Met l y ws rm Pc Qc mc ms free) (cw : vx_CVW R s args own C index y bytes maxL ret hh ws rm mc ms n) (hp : PreV s H C b Pc As)
    (hg : g.method = m) (hn : As.length = n) (hsize : g.locals.size = nL) (hstack : g.stack = As.reverse ++ .ref b :: rest) (hW : 2 * g.monitorRoom + (rest.map fun v => v.category).sum ≤ 8) (hdg : decode cc g.pc = .ok (.invokevirtual index, 3)) (hf : cells + mc ≤ R.cells ∧ slots + ms ≤ R.slots) :
    va_Run p l e R s m args below meth c H locs cells slots mc ms g rest (Qc (Value.ref b :: As).toArray) free := by
  obtain ⟨⟨hrc, hrs, hfr, hlo, hws, hcw⟩, hcode, hini, hy, hlen, hl, hin, hse⟩ := cw
  have hK : Back l R p e below s args y 3 8 (PreOf R mc ms Pc) (PostOf Qc mc ms free) := va_backW (hh := hh) (bytes := bytes) (maxL := maxL) (ret := ret) hM hp.1 hrc hrs hfr hlo hws hcw (fun a' U hW => word_at hW (Or.inl (by first | rfl | simp [Cond.onTables, Cond.keeps, Cond.steady])) hini)
  obtain ⟨hx, hb, hml, ho, -⟩ := S
  obtain ⟨-, ⟨cellB, hcB, hoB, hclB⟩, hPc⟩ := hp
  intro T hT X
  obtain ⟨v, vm₁, ⟨U', l2, c2, s2⟩, hW₁, X', ⟨g', mk, t, L, e1, e2, hq, h1, hL, h2, h3⟩, st⟩ := vx_callVW X hx (C := C) (hh := hh) (bytes := bytes) (maxL := maxL) (ret := ret) ho hl hin hse hcode hy hK (by rw [hT]; exact hcB) hoB hclB hg (hsize.trans hml.symm) (argsL := As) (rest := rest) (fun sig h => hn.trans (hlen sig h)) hstack hW (by rw [hb]; exact hdg)
    (fun vm₁ hW₁ => ⟨hf.1, hf.2, hPc (T.setVm vm₁) hT hW₁⟩)
  dsimp only [Pt.U, Pt.locs, Pt.cells, Pt.slots] at X' e1 e2 h1 h2 h3 st
  subst h1; subst h2; subst h3
  exact ⟨v, (T.setVm vm₁).calling g' mk (Value.ref b :: As).toArray, t, U', L, hT, X', hL, e1, e2, hq, st⟩
section
variable {y : MethodName} {bytes cc : ByteArray} {maxL nL mc ms n index : Nat} {ret : Option FieldType} {ws : List Cond} {rm : Room} {Pc : Array Value → State → Prop} {Qc : Array Value → State → Outcome → State → Prop} {XC : String → State → State → Prop} {free : Addr → Prop} {Ts : List Cond} {own C : String} {b : Addr} {As rest : List Value} {g : JFrame}
theorem vx_runVX {hh : List (Nat × Nat × Nat × Nat)} (S : CallFix p m c cc nL s args Ts own) (hM : vx_Met l y ws rm Pc Qc XC mc ms free) (cw : vx_CVW R s args own C index y bytes maxL ret hh ws rm mc ms n) (hp : PreV s H C b Pc As)
    (hg : g.method = m) (hn : As.length = n) (hsize : g.locals.size = nL) (hstack : g.stack = As.reverse ++ .ref b :: rest) (hW : 2 * g.monitorRoom + (rest.map fun v => v.category).sum ≤ 8) (hdg : decode cc g.pc = .ok (.invokevirtual index, 3)) (hf : cells + mc ≤ R.cells ∧ slots + ms ≤ R.slots) :
    vx_Run p l e R s m args below meth c H locs cells slots mc ms g rest (Qc (Value.ref b :: As).toArray) XC free := by
  obtain ⟨⟨hrc, hrs, hfr, hlo, hws, hcw⟩, hcode, hini, hy, hlen, hl, hin, hse⟩ := cw
  have hK : vx_Back l R p e below s args y 3 8 (PreOf R mc ms Pc) (PostOf Qc mc ms free) (vx_Post XC mc ms free) := vx_backW (hh := hh) (bytes := bytes) (maxL := maxL) (ret := ret) hM hp.1 hrc hrs hfr hlo hws hcw (fun a' U hW => word_at hW (Or.inl (by first | rfl | simp [Cond.onTables, Cond.keeps, Cond.steady])) hini)
  obtain ⟨hx, hb, hml, ho, -⟩ := S
  obtain ⟨-, ⟨cellB, hcB, hoB, hclB⟩, hPc⟩ := hp
  intro T hT X
  rcases vx_callVX X hx (C := C) (hh := hh) (bytes := bytes) (maxL := maxL) (ret := ret) ho hl hin hse hcode hy hK (by rw [hT]; exact hcB) hoB hclB hg (hsize.trans hml.symm) (argsL := As) (rest := rest) (fun sig h => hn.trans (hlen sig h)) hstack hW (by rw [hb]; exact hdg)
    (fun vm₁ hW₁ => ⟨hf.1, hf.2, hPc (T.setVm vm₁) hT hW₁⟩) with ⟨v, vm₁, ⟨U', l2, c2, s2⟩, hW₁, X', ⟨g', mk, t, L, e1, e2, hq, h1, hL, h2, h3⟩, st⟩ | ⟨q, vm₁, ⟨U', l2, c2, s2⟩, hW₁, X', ⟨g', mk, t, L, E, ce, e1, e2, hq, hce, hcv, hcl, h1, hL, h2, h3⟩, st⟩
  · dsimp only [Pt.U, Pt.locs, Pt.cells, Pt.slots] at X' e1 e2 h1 h2 h3 st
    subst h1; subst h2; subst h3
    exact Or.inl ⟨v, (T.setVm vm₁).calling g' mk (Value.ref b :: As).toArray, t, U', L, hT, X', hL, e1, e2, hq, st⟩
  · dsimp only [Pt.U, Pt.locs, Pt.cells, Pt.slots] at X' e1 e2 h1 h2 h3 st hcl
    subst h1; subst h2; subst h3
    exact Or.inr ⟨q, (T.setVm vm₁).calling g' mk (Value.ref b :: As).toArray, t, U', L, E, ce, hT, X', hL, e1, e2, hq, hce, hcv, vx_cls hW₁ hcl, st⟩
theorem vx_runSX {hh : List (Nat × Nat × Nat × Nat)} (S : CallFix p m c cc nL s args Ts own) (hM : vx_Met l y ws rm Pc Qc XC mc ms free) (cw : vx_CSW R s args own index y bytes maxL ret hh ws rm mc ms n) (hp : PreS s H Pc As)
    (hg : g.method = m) (hn : As.length = n) (hsize : g.locals.size = nL) (hstack : g.stack = As.reverse ++ rest) (hW : 2 * g.monitorRoom + (rest.map fun v => v.category).sum ≤ 8) (hdg : decode cc g.pc = .ok (.invokestatic index, 3)) (hf : cells + mc ≤ R.cells ∧ slots + ms ≤ R.slots) :
    vx_Run p l e R s m args below meth c H locs cells slots mc ms g rest (Qc As.toArray) XC free := by
  obtain ⟨⟨hrc, hrs, hfr, hlo, hws, hcw⟩, hcode, hini, hy, hlen, hl, hstt⟩ := cw
  have hK : vx_Back l R p e below s args y 3 8 (PreOf R mc ms Pc) (PostOf Qc mc ms free) (vx_Post XC mc ms free) := vx_backW (hh := hh) (bytes := bytes) (maxL := maxL) (ret := ret) hM hp.1 hrc hrs hfr hlo hws hcw (fun a' U hW => word_at hW (Or.inl (by first | rfl | simp [Cond.onTables, Cond.keeps, Cond.steady])) hini)
  obtain ⟨hx, hb, hml, ho, -⟩ := S
  intro T hT X
  rcases vx_callSX X hx (hh := hh) (bytes := bytes) (maxL := maxL) (ret := ret) ho hl hstt hini hcode hy hK hg (hsize.trans hml.symm) (argsL := As) (rest := rest) (fun sig h => hn.trans (hlen sig h)) hstack hW (by rw [hb]; exact hdg)
    (fun vm₁ hW₁ => ⟨hf.1, hf.2, hp.2 (T.setVm vm₁) hT hW₁⟩) with ⟨v, vm₁, ⟨U', l2, c2, s2⟩, hW₁, X', ⟨g', mk, t, L, e1, e2, hq, h1, hL, h2, h3⟩, st⟩ | ⟨q, vm₁, ⟨U', l2, c2, s2⟩, hW₁, X', ⟨g', mk, t, L, E, ce, e1, e2, hq, hce, hcv, hcl, h1, hL, h2, h3⟩, st⟩
  · dsimp only [Pt.U, Pt.locs, Pt.cells, Pt.slots] at X' e1 e2 h1 h2 h3 st
    subst h1; subst h2; subst h3
    exact Or.inl ⟨v, (T.setVm vm₁).calling g' mk As.toArray, t, U', L, hT, X', hL, e1, e2, hq, st⟩
  · dsimp only [Pt.U, Pt.locs, Pt.cells, Pt.slots] at X' e1 e2 h1 h2 h3 st hcl
    subst h1; subst h2; subst h3
    exact Or.inr ⟨q, (T.setVm vm₁).calling g' mk As.toArray, t, U', L, E, ce, hT, X', hL, e1, e2, hq, hce, hcv, vx_cls hW₁ hcl, st⟩
end
end VXH
theorem vx_ofWH {l : Launch} {y : MethodName} {ws ws' : List Cond} {rm : Room} {Pc : Array Value → State → Prop} {Qc : Array Value → State → Outcome → State → Prop} {XC : String → State → State → Prop} {mc ms : Nat} {free : Addr → Prop} {cc : ByteArray} {maxL : Nat} {ret : Option FieldType} {hh : List (Nat × Nat × Nat × Nat)}
    (hy : plainName y.cls = true) (hw : ws = Cond.codeWith y cc maxL ret hh :: ws')
    (body : ∀ p e s m args below meth c s₁, BodyLoose p l y (headSpec ws rm) cc maxL ret e s m args below meth c s₁ → c.maxLocals = maxL → Pc args s →
      W p l e (headSpec ws rm).room s m args below meth c s.heap [] 0 0 (vx_MQ below Qc XC args s mc ms free) (entryFrame m args maxL)) : vx_Met l y ws rm Pc Qc XC mc ms free := by
  refine MetFree.of_bodyS (code := cc) (maxLocals := maxL) (ret := ret) hy ?_ ?_
  · intro args s m h hn
    obtain ⟨m9, meth, c, hn9, h1, h2, h3, h4, -, h5, h6, -⟩ := Cond.codeWith_spec (atoms_spec (ws := ws) h _ (by rw [hw]; exact List.mem_cons_self))
    cases hn.symm.trans hn9
    exact ⟨meth, c, h1, h2, h3, h4, h5, h6⟩
  · intro p e s m args below meth c s₁ B hml hP _
    have hh0 : s₁.heap = s.heap := by rw [B.state]; rfl
    obtain ⟨t, a1, o, b1, b2, b3⟩ := body p e s m args below meth c s₁ B hml hP s₁ hh0 (Stand.of_body B)
    exact ⟨t, o, a1, b1, b2, b3⟩
/-! ===== END ===== -/

def RX0 : String := "FoldedKeys$Code"
def TX0 : u_T := fun k => match k with
  | _ => ("", "", "", false)
def tyX0 : Nat → FieldType := fun k => match k with
  | _ => .int
theorem nmX0 : ∀ a, a < 0 → ∀ b, b < 0 → a ≠ b → (TX0 a).2.1 ≠ (TX0 b).2.1 := by decide +kernel
theorem tyX0_ok : ∀ k, k < 0 → parseFieldDescriptor (TX0 k).2.2.1 = some (tyX0 k) := by decide +kernel
abbrev cX0_of : ByteArray := prog_2_method_2_code
def yX0_of : MethodName := ⟨RX0, "of", "(III)I"⟩
abbrev cX0_cellOf : ByteArray := prog_2_method_3_code
def yX0_cellOf : MethodName := ⟨RX0, "cellOf", "(I)I"⟩
abbrev cX0_firstOf : ByteArray := prog_2_method_4_code
def yX0_firstOf : MethodName := ⟨RX0, "firstOf", "(I)I"⟩
abbrev cX0_secondOf : ByteArray := prog_2_method_5_code
def yX0_secondOf : MethodName := ⟨RX0, "secondOf", "(I)I"⟩
abbrev cX0_movedTo : ByteArray := prog_2_method_6_code
def yX0_movedTo : MethodName := ⟨RX0, "movedTo", "(II)I"⟩
abbrev cX0_swapped : ByteArray := prog_2_method_7_code
def yX0_swapped : MethodName := ⟨RX0, "swapped", "(I)I"⟩
abbrev cX0_swappedPlace : ByteArray := prog_2_method_8_code
def yX0_swappedPlace : MethodName := ⟨RX0, "swappedPlace", "(II)I"⟩
def RX1 : String := "FoldedKeys$Corridor"
def TX1 : u_T := fun k => match k with
  | 0 => ("FoldedKeys$Corridor", "locks", "[I", true)
  | 1 => ("FoldedKeys$Corridor", "ladders", "[I", true)
  | 2 => ("FoldedKeys$Corridor", "firstBow", "I", false)
  | 3 => ("FoldedKeys$Corridor", "secondBow", "I", false)
  | 4 => ("FoldedKeys$Corridor", "code", "I", false)
  | 5 => ("FoldedKeys$Corridor", "length", "I", false)
  | 6 => ("FoldedKeys$Corridor", "stepsTaken", "I", false)
  | 7 => ("FoldedKeys$Corridor", "swaps", "I", false)
  | _ => ("FoldedKeys$Corridor", "doorsPassed", "I", false)
def tyX1 : Nat → FieldType := fun k => match k with
  | 0 => .array .int
  | 1 => .array .int
  | 2 => .int
  | 3 => .int
  | 4 => .int
  | 5 => .int
  | 6 => .int
  | 7 => .int
  | _ => .int
theorem nmX1 : ∀ a, a < 9 → ∀ b, b < 9 → a ≠ b → (TX1 a).2.1 ≠ (TX1 b).2.1 := by decide +kernel
theorem tyX1_ok : ∀ k, k < 9 → parseFieldDescriptor (TX1 k).2.2.1 = some (tyX1 k) := by decide +kernel
abbrev cX1_init : ByteArray := prog_3_method_1_code
def yX1_init : MethodName := ⟨RX1, "<init>", "()V"⟩
abbrev cX1_copyFrom : ByteArray := prog_3_method_2_code
def yX1_copyFrom : MethodName := ⟨RX1, "copyFrom", "(LFoldedKeys$Corridor;)V"⟩
abbrev cX1_clear : ByteArray := prog_3_method_3_code
def yX1_clear : MethodName := ⟨RX1, "clear", "()V"⟩
abbrev cX1_setLock : ByteArray := prog_3_method_4_code
def yX1_setLock : MethodName := ⟨RX1, "setLock", "(II)V"⟩
abbrev cX1_lockBehind : ByteArray := prog_3_method_5_code
def yX1_lockBehind : MethodName := ⟨RX1, "lockBehind", "(I)I"⟩
abbrev cX1_setLadder : ByteArray := prog_3_method_6_code
def yX1_setLadder : MethodName := ⟨RX1, "setLadder", "(II)V"⟩
abbrev cX1_ladderIn : ByteArray := prog_3_method_7_code
def yX1_ladderIn : MethodName := ⟨RX1, "ladderIn", "(I)I"⟩
abbrev cX1_putKey : ByteArray := prog_3_method_8_code
def yX1_putKey : MethodName := ⟨RX1, "putKey", "(II)V"⟩
abbrev cX1_bowIn : ByteArray := prog_3_method_9_code
def yX1_bowIn : MethodName := ⟨RX1, "bowIn", "(II)I"⟩
abbrev cX1_keys : ByteArray := prog_3_method_10_code
def yX1_keys : MethodName := ⟨RX1, "keys", "()I"⟩
abbrev cX1_doors : ByteArray := prog_3_method_11_code
def yX1_doors : MethodName := ⟨RX1, "doors", "()I"⟩
abbrev cX1_laddersBetween : ByteArray := prog_3_method_12_code
def yX1_laddersBetween : MethodName := ⟨RX1, "laddersBetween", "()I"⟩
abbrev cX1_floorOf : ByteArray := prog_3_method_13_code
def yX1_floorOf : MethodName := ⟨RX1, "floorOf", "(I)I"⟩
abbrev cX1_cellBelow : ByteArray := prog_3_method_14_code
def yX1_cellBelow : MethodName := ⟨RX1, "cellBelow", "(I)I"⟩
abbrev cX1_cellAbove : ByteArray := prog_3_method_15_code
def yX1_cellAbove : MethodName := ⟨RX1, "cellAbove", "(I)I"⟩
abbrev cX1_byLadder : ByteArray := prog_3_method_16_code
def yX1_byLadder : MethodName := ⟨RX1, "byLadder", "(II)I"⟩
abbrev cX1_after : ByteArray := prog_3_method_17_code
def yX1_after : MethodName := ⟨RX1, "after", "(II)I"⟩
abbrev cX1_targetOf : ByteArray := prog_3_method_18_code
def yX1_targetOf : MethodName := ⟨RX1, "targetOf", "(II)I"⟩
abbrev cX1_lockOnWay : ByteArray := prog_3_method_19_code
def yX1_lockOnWay : MethodName := ⟨RX1, "lockOnWay", "(II)I"⟩
abbrev cX1_reasonAgainst : ByteArray := prog_3_method_20_code
def yX1_reasonAgainst : MethodName := ⟨RX1, "reasonAgainst", "(I)I"⟩
abbrev cX1_take : ByteArray := prog_3_method_21_code
def yX1_take : MethodName := ⟨RX1, "take", "(I)V"⟩
def RX2 : String := "FoldedKeys$Saves"
def TX2 : u_T := fun k => match k with
  | 0 => ("FoldedKeys$Saves", "ring", "[LFoldedKeys$Corridor;", true)
  | 1 => ("FoldedKeys$Saves", "next", "I", false)
  | _ => ("FoldedKeys$Saves", "size", "I", false)
def tyX2 : Nat → FieldType := fun k => match k with
  | 0 => .array (.object "FoldedKeys$Corridor")
  | 1 => .int
  | _ => .int
theorem nmX2 : ∀ a, a < 3 → ∀ b, b < 3 → a ≠ b → (TX2 a).2.1 ≠ (TX2 b).2.1 := by decide +kernel
theorem tyX2_ok : ∀ k, k < 3 → parseFieldDescriptor (TX2 k).2.2.1 = some (tyX2 k) := by decide +kernel
abbrev cX2_init : ByteArray := prog_4_method_1_code
def yX2_init : MethodName := ⟨RX2, "<init>", "()V"⟩
abbrev cX2_push : ByteArray := prog_4_method_2_code
def yX2_push : MethodName := ⟨RX2, "push", "(LFoldedKeys$Corridor;)V"⟩
abbrev cX2_popInto : ByteArray := prog_4_method_3_code
def yX2_popInto : MethodName := ⟨RX2, "popInto", "(LFoldedKeys$Corridor;)V"⟩
abbrev cX2_slotAt : ByteArray := prog_4_method_4_code
def yX2_slotAt : MethodName := ⟨RX2, "slotAt", "(I)LFoldedKeys$Corridor;"⟩
def RX3 : String := "FoldedKeys$Search"
def TX3 : u_T := fun k => match k with
  | 0 => ("FoldedKeys$Search", "entries", "[I", true)
  | 1 => ("FoldedKeys$Search", "seen", "[J", true)
  | 2 => ("FoldedKeys$Search", "ends", "[I", true)
  | 3 => ("FoldedKeys$Search", "lengths", "[I", true)
  | 4 => ("FoldedKeys$Search", "size", "I", false)
  | _ => ("FoldedKeys$Search", "reached", "I", false)
def tyX3 : Nat → FieldType := fun k => match k with
  | 0 => .array .int
  | 1 => .array .long
  | 2 => .array .int
  | 3 => .array .int
  | 4 => .int
  | _ => .int
theorem nmX3 : ∀ a, a < 6 → ∀ b, b < 6 → a ≠ b → (TX3 a).2.1 ≠ (TX3 b).2.1 := by decide +kernel
theorem tyX3_ok : ∀ k, k < 6 → parseFieldDescriptor (TX3 k).2.2.1 = some (tyX3 k) := by decide +kernel
abbrev cX3_init : ByteArray := prog_5_method_1_code
def yX3_init : MethodName := ⟨RX3, "<init>", "()V"⟩
abbrev cX3_run : ByteArray := prog_5_method_2_code
def yX3_run : MethodName := ⟨RX3, "run", "(LFoldedKeys$Corridor;)V"⟩
abbrev cX3_forget : ByteArray := prog_5_method_3_code
def yX3_forget : MethodName := ⟨RX3, "forget", "()V"⟩
abbrev cX3_add : ByteArray := prog_5_method_4_code
def yX3_add : MethodName := ⟨RX3, "add", "(IIII)V"⟩
abbrev cX3_codeOf : ByteArray := prog_5_method_5_code
def yX3_codeOf : MethodName := ⟨RX3, "codeOf", "(I)I"⟩
abbrev cX3_stepOf : ByteArray := prog_5_method_6_code
def yX3_stepOf : MethodName := ⟨RX3, "stepOf", "(I)I"⟩
abbrev cX3_beforeOf : ByteArray := prog_5_method_7_code
def yX3_beforeOf : MethodName := ⟨RX3, "beforeOf", "(I)I"⟩
abbrev cX3_lengthTo : ByteArray := prog_5_method_8_code
def yX3_lengthTo : MethodName := ⟨RX3, "lengthTo", "(I)I"⟩
abbrev cX3_stepTo : ByteArray := prog_5_method_9_code
def yX3_stepTo : MethodName := ⟨RX3, "stepTo", "(II)I"⟩
abbrev cX3_entryAt : ByteArray := prog_5_method_10_code
def yX3_entryAt : MethodName := ⟨RX3, "entryAt", "(I)I"⟩
abbrev cX3_mostLength : ByteArray := prog_5_method_11_code
def yX3_mostLength : MethodName := ⟨RX3, "mostLength", "()I"⟩
abbrev cX3_sumOfLengths : ByteArray := prog_5_method_12_code
def yX3_sumOfLengths : MethodName := ⟨RX3, "sumOfLengths", "()I"⟩
def RX4 : String := "FoldedKeys$Text"
def TX4 : u_T := fun k => match k with
  | 0 => ("FoldedKeys$Text", "codes", "[I", true)
  | 1 => ("FoldedKeys$Text", "length", "I", false)
  | 2 => ("FoldedKeys$Text", "cells", "I", false)
  | _ => ("FoldedKeys$Text", "last", "I", false)
def tyX4 : Nat → FieldType := fun k => match k with
  | 0 => .array .int
  | 1 => .int
  | 2 => .int
  | _ => .int
theorem nmX4 : ∀ a, a < 4 → ∀ b, b < 4 → a ≠ b → (TX4 a).2.1 ≠ (TX4 b).2.1 := by decide +kernel
theorem tyX4_ok : ∀ k, k < 4 → parseFieldDescriptor (TX4 k).2.2.1 = some (tyX4 k) := by decide +kernel
abbrev cX4_init : ByteArray := prog_6_method_1_code
def yX4_init : MethodName := ⟨RX4, "<init>", "()V"⟩
abbrev cX4_add : ByteArray := prog_6_method_2_code
def yX4_add : MethodName := ⟨RX4, "add", "(I)V"⟩
abbrev cX4_codeAt : ByteArray := prog_6_method_3_code
def yX4_codeAt : MethodName := ⟨RX4, "codeAt", "(I)I"⟩
abbrev cX4_readInto : ByteArray := prog_6_method_4_code
def yX4_readInto : MethodName := ⟨RX4, "readInto", "(LFoldedKeys$Corridor;)I"⟩
abbrev cX4_take : ByteArray := prog_6_method_5_code
def yX4_take : MethodName := ⟨RX4, "take", "(ILFoldedKeys$Corridor;)Z"⟩
abbrev cX4_takeKey : ByteArray := prog_6_method_6_code
def yX4_takeKey : MethodName := ⟨RX4, "takeKey", "(ILFoldedKeys$Corridor;)Z"⟩
abbrev cX4_takeLadder : ByteArray := prog_6_method_7_code
def yX4_takeLadder : MethodName := ⟨RX4, "takeLadder", "(LFoldedKeys$Corridor;)Z"⟩
abbrev cX4_takeDoor : ByteArray := prog_6_method_8_code
def yX4_takeDoor : MethodName := ⟨RX4, "takeDoor", "(ILFoldedKeys$Corridor;)Z"⟩
def RX5 : String := "FoldedKeys"
def TX5 : u_T := fun k => match k with
  | 0 => ("FoldedKeys", "now", "LFoldedKeys$Corridor;", true)
  | 1 => ("FoldedKeys", "other", "LFoldedKeys$Corridor;", true)
  | 2 => ("FoldedKeys", "saves", "LFoldedKeys$Saves;", true)
  | 3 => ("FoldedKeys", "search", "LFoldedKeys$Search;", true)
  | _ => ("FoldedKeys", "text", "LFoldedKeys$Text;", true)
def tyX5 : Nat → FieldType := fun k => match k with
  | 0 => .object "FoldedKeys$Corridor"
  | 1 => .object "FoldedKeys$Corridor"
  | 2 => .object "FoldedKeys$Saves"
  | 3 => .object "FoldedKeys$Search"
  | _ => .object "FoldedKeys$Text"
theorem nmX5 : ∀ a, a < 5 → ∀ b, b < 5 → a ≠ b → (TX5 a).2.1 ≠ (TX5 b).2.1 := by decide +kernel
theorem tyX5_ok : ∀ k, k < 5 → parseFieldDescriptor (TX5 k).2.2.1 = some (tyX5 k) := by decide +kernel
abbrev cX5_init : ByteArray := prog_1_method_1_code
def yX5_init : MethodName := ⟨RX5, "<init>", "()V"⟩
abbrev cX5_door : ByteArray := prog_1_method_2_code
def yX5_door : MethodName := ⟨RX5, "door", "(II)I"⟩
abbrev cX5_key : ByteArray := prog_1_method_3_code
def yX5_key : MethodName := ⟨RX5, "key", "(II)I"⟩
abbrev cX5_ladder : ByteArray := prog_1_method_4_code
def yX5_ladder : MethodName := ⟨RX5, "ladder", "(IZ)I"⟩
abbrev cX5_fold : ByteArray := prog_1_method_5_code
def yX5_fold : MethodName := ⟨RX5, "fold", "(I)I"⟩
abbrev cX5_stand : ByteArray := prog_1_method_6_code
def yX5_stand : MethodName := ⟨RX5, "stand", "(I)I"⟩
abbrev cX5_step : ByteArray := prog_1_method_7_code
def yX5_step : MethodName := ⟨RX5, "step", "(I)I"⟩
abbrev cX5_walk : ByteArray := prog_1_method_8_code
def yX5_walk : MethodName := ⟨RX5, "walk", "(I)I"⟩
abbrev cX5_append : ByteArray := prog_1_method_9_code
def yX5_append : MethodName := ⟨RX5, "append", "(I)I"⟩
abbrev cX5_clearBuffer : ByteArray := prog_1_method_10_code
def yX5_clearBuffer : MethodName := ⟨RX5, "clearBuffer", "()I"⟩
abbrev cX5_firstError : ByteArray := prog_1_method_11_code
def yX5_firstError : MethodName := ⟨RX5, "firstError", "()I"⟩
abbrev cX5_corridor : ByteArray := prog_1_method_12_code
def yX5_corridor : MethodName := ⟨RX5, "corridor", "()I"⟩
abbrev cX5_undo : ByteArray := prog_1_method_13_code
def yX5_undo : MethodName := ⟨RX5, "undo", "()I"⟩
abbrev cX5_cell : ByteArray := prog_1_method_14_code
def yX5_cell : MethodName := ⟨RX5, "cell", "(II)I"⟩
abbrev cX5_walker : ByteArray := prog_1_method_15_code
def yX5_walker : MethodName := ⟨RX5, "walker", "(I)I"⟩
abbrev cX5_plan : ByteArray := prog_1_method_16_code
def yX5_plan : MethodName := ⟨RX5, "plan", "(II)I"⟩
abbrev cX5_count : ByteArray := prog_1_method_17_code
def yX5_count : MethodName := ⟨RX5, "count", "(I)I"⟩
abbrev cX5_refusal : ByteArray := prog_1_method_18_code
def yX5_refusal : MethodName := ⟨RX5, "refusal", "(I)I"⟩
abbrev cX5_ifDoor : ByteArray := prog_1_method_19_code
def yX5_ifDoor : MethodName := ⟨RX5, "ifDoor", "(II)I"⟩
abbrev cX5_without : ByteArray := prog_1_method_20_code
def yX5_without : MethodName := ⟨RX5, "without", "(I)I"⟩
abbrev cX5_bestFold : ByteArray := prog_1_method_21_code
def yX5_bestFold : MethodName := ⟨RX5, "bestFold", "()I"⟩
abbrev cX5_reached : ByteArray := prog_1_method_22_code
def yX5_reached : MethodName := ⟨RX5, "reached", "()D"⟩
abbrev cX5_digest : ByteArray := prog_1_method_23_code
def yX5_digest : MethodName := ⟨RX5, "digest", "()J"⟩
abbrev cX5_isCell : ByteArray := prog_1_method_24_code
def yX5_isCell : MethodName := ⟨RX5, "isCell", "(I)Z"⟩
abbrev cX5_isDoor : ByteArray := prog_1_method_25_code
def yX5_isDoor : MethodName := ⟨RX5, "isDoor", "(I)Z"⟩
abbrev cX5_isBow : ByteArray := prog_1_method_26_code
def yX5_isBow : MethodName := ⟨RX5, "isBow", "(I)Z"⟩
abbrev cX5_isStep : ByteArray := prog_1_method_27_code
def yX5_isStep : MethodName := ⟨RX5, "isStep", "(I)Z"⟩
abbrev cX5_mix : ByteArray := prog_1_method_28_code
def yX5_mix : MethodName := ⟨RX5, "mix", "(JJ)J"⟩
abbrev cX5_readText : ByteArray := prog_1_method_29_code
def yX5_readText : MethodName := ⟨RX5, "readText", "()I"⟩
abbrev cX5_reachedWithDoor : ByteArray := prog_1_method_30_code
def yX5_reachedWithDoor : MethodName := ⟨RX5, "reachedWithDoor", "(II)I"⟩
abbrev cX5_reachedWithoutKey : ByteArray := prog_1_method_31_code
def yX5_reachedWithoutKey : MethodName := ⟨RX5, "reachedWithoutKey", "(I)I"⟩
abbrev cX5_numberOfCell : ByteArray := prog_1_method_32_code
def yX5_numberOfCell : MethodName := ⟨RX5, "numberOfCell", "(II)I"⟩
abbrev cX5_numberOfWalker : ByteArray := prog_1_method_33_code
def yX5_numberOfWalker : MethodName := ⟨RX5, "numberOfWalker", "(I)I"⟩
abbrev cX5_numberInAll : ByteArray := prog_1_method_34_code
def yX5_numberInAll : MethodName := ⟨RX5, "numberInAll", "(I)I"⟩
abbrev cX5_digestOfLooks : ByteArray := prog_1_method_35_code
def yX5_digestOfLooks : MethodName := ⟨RX5, "digestOfLooks", "(J)J"⟩
abbrev cX5_bitsOfShare : ByteArray := prog_1_method_36_code
def yX5_bitsOfShare : MethodName := ⟨RX5, "bitsOfShare", "(I)J"⟩
def RX6 : String := "FoldedKeysModel"
def TX6 : u_T := fun k => match k with
  | 0 => ("FoldedKeysModel", "now", "[I", true)
  | 1 => ("FoldedKeysModel", "then", "[I", true)
  | 2 => ("FoldedKeysModel", "past", "[I", true)
  | 3 => ("FoldedKeysModel", "kept", "I", false)
  | 4 => ("FoldedKeysModel", "text", "[I", true)
  | 5 => ("FoldedKeysModel", "typed", "I", false)
  | 6 => ("FoldedKeysModel", "thrown", "I", false)
  | 7 => ("FoldedKeysModel", "at", "I", false)
  | 8 => ("FoldedKeysModel", "isFault", "Z", false)
  | 9 => ("FoldedKeysModel", "told", "[I", true)
  | 10 => ("FoldedKeysModel", "queue", "[I", true)
  | 11 => ("FoldedKeysModel", "from", "[I", true)
  | 12 => ("FoldedKeysModel", "by", "[I", true)
  | 13 => ("FoldedKeysModel", "far", "[I", true)
  | 14 => ("FoldedKeysModel", "first", "[I", true)
  | 15 => ("FoldedKeysModel", "bow", "I", false)
  | 16 => ("FoldedKeysModel", "otherBow", "I", false)
  | _ => ("FoldedKeysModel", "isLaid", "Z", false)
def tyX6 : Nat → FieldType := fun k => match k with
  | 0 => .array .int
  | 1 => .array .int
  | 2 => .array .int
  | 3 => .int
  | 4 => .array .int
  | 5 => .int
  | 6 => .int
  | 7 => .int
  | 8 => .boolean
  | 9 => .array .int
  | 10 => .array .int
  | 11 => .array .int
  | 12 => .array .int
  | 13 => .array .int
  | 14 => .array .int
  | 15 => .int
  | 16 => .int
  | _ => .boolean
theorem nmX6 : ∀ a, a < 18 → ∀ b, b < 18 → a ≠ b → (TX6 a).2.1 ≠ (TX6 b).2.1 := by decide +kernel
theorem tyX6_ok : ∀ k, k < 18 → parseFieldDescriptor (TX6 k).2.2.1 = some (tyX6 k) := by decide +kernel
abbrev cX6_init : ByteArray := prog_8_method_1_code
def yX6_init : MethodName := ⟨RX6, "<init>", "()V"⟩
abbrev cX6_thrown : ByteArray := prog_8_method_2_code
def yX6_thrown : MethodName := ⟨RX6, "thrown", "()I"⟩
abbrev cX6_fails : ByteArray := prog_8_method_3_code
def yX6_fails : MethodName := ⟨RX6, "fails", "(I)I"⟩
abbrev cX6_in : ByteArray := prog_8_method_4_code
def yX6_in : MethodName := ⟨RX6, "in", "(III)Z"⟩
abbrev cX6_isCell : ByteArray := prog_8_method_5_code
def yX6_isCell : MethodName := ⟨RX6, "isCell", "(I)Z"⟩
abbrev cX6_copies : ByteArray := prog_8_method_6_code
def yX6_copies : MethodName := ⟨RX6, "copies", "([II[II)V"⟩
abbrev cX6_saves : ByteArray := prog_8_method_7_code
def yX6_saves : MethodName := ⟨RX6, "saves", "()V"⟩
abbrev cX6_undo : ByteArray := prog_8_method_8_code
def yX6_undo : MethodName := ⟨RX6, "undo", "()I"⟩
abbrev cX6_above : ByteArray := prog_8_method_9_code
def yX6_above : MethodName := ⟨RX6, "above", "([II)I"⟩
abbrev cX6_below : ByteArray := prog_8_method_10_code
def yX6_below : MethodName := ⟨RX6, "below", "([II)I"⟩
abbrev cX6_leads : ByteArray := prog_8_method_11_code
def yX6_leads : MethodName := ⟨RX6, "leads", "([III)I"⟩
abbrev cX6_lockOn : ByteArray := prog_8_method_12_code
def yX6_lockOn : MethodName := ⟨RX6, "lockOn", "([III)I"⟩
abbrev cX6_refused : ByteArray := prog_8_method_13_code
def yX6_refused : MethodName := ⟨RX6, "refused", "([II)I"⟩
abbrev cX6_goes : ByteArray := prog_8_method_14_code
def yX6_goes : MethodName := ⟨RX6, "goes", "([II)V"⟩
abbrev cX6_begins : ByteArray := prog_8_method_15_code
def yX6_begins : MethodName := ⟨RX6, "begins", "([I)I"⟩
abbrev cX6_changed : ByteArray := prog_8_method_16_code
def yX6_changed : MethodName := ⟨RX6, "changed", "(III)I"⟩
abbrev cX6_behind : ByteArray := prog_8_method_17_code
def yX6_behind : MethodName := ⟨RX6, "behind", "([III)I"⟩
abbrev cX6_lays : ByteArray := prog_8_method_18_code
def yX6_lays : MethodName := ⟨RX6, "lays", "([I)V"⟩
abbrev cX6_laysNow : ByteArray := prog_8_method_19_code
def yX6_laysNow : MethodName := ⟨RX6, "laysNow", "()V"⟩
abbrev cX6_steps : ByteArray := prog_8_method_20_code
def yX6_steps : MethodName := ⟨RX6, "steps", "(I)I"⟩
abbrev cX6_stepAt : ByteArray := prog_8_method_21_code
def yX6_stepAt : MethodName := ⟨RX6, "stepAt", "(II)I"⟩
abbrev cX6_reachable : ByteArray := prog_8_method_22_code
def yX6_reachable : MethodName := ⟨RX6, "reachable", "()I"⟩
abbrev cX6_changes : ByteArray := prog_8_method_23_code
def yX6_changes : MethodName := ⟨RX6, "changes", "(II)I"⟩
abbrev cX6_door : ByteArray := prog_8_method_24_code
def yX6_door : MethodName := ⟨RX6, "door", "(II)I"⟩
abbrev cX6_keys : ByteArray := prog_8_method_25_code
def yX6_keys : MethodName := ⟨RX6, "keys", "()I"⟩
abbrev cX6_key : ByteArray := prog_8_method_26_code
def yX6_key : MethodName := ⟨RX6, "key", "(II)I"⟩
abbrev cX6_ladder : ByteArray := prog_8_method_27_code
def yX6_ladder : MethodName := ⟨RX6, "ladder", "(IZ)I"⟩
abbrev cX6_fold : ByteArray := prog_8_method_28_code
def yX6_fold : MethodName := ⟨RX6, "fold", "(I)I"⟩
abbrev cX6_stand : ByteArray := prog_8_method_29_code
def yX6_stand : MethodName := ⟨RX6, "stand", "(I)I"⟩
abbrev cX6_step : ByteArray := prog_8_method_30_code
def yX6_step : MethodName := ⟨RX6, "step", "(I)I"⟩
abbrev cX6_walk : ByteArray := prog_8_method_31_code
def yX6_walk : MethodName := ⟨RX6, "walk", "(I)I"⟩
abbrev cX6_append : ByteArray := prog_8_method_32_code
def yX6_append : MethodName := ⟨RX6, "append", "(I)I"⟩
abbrev cX6_clearBuffer : ByteArray := prog_8_method_33_code
def yX6_clearBuffer : MethodName := ⟨RX6, "clearBuffer", "()I"⟩
abbrev cX6_isAt : ByteArray := prog_8_method_34_code
def yX6_isAt : MethodName := ⟨RX6, "isAt", "(II)Z"⟩
abbrev cX6_isText : ByteArray := prog_8_method_35_code
def yX6_isText : MethodName := ⟨RX6, "isText", "()Z"⟩
abbrev cX6_firstError : ByteArray := prog_8_method_36_code
def yX6_firstError : MethodName := ⟨RX6, "firstError", "()I"⟩
abbrev cX6_corridor : ByteArray := prog_8_method_37_code
def yX6_corridor : MethodName := ⟨RX6, "corridor", "()I"⟩
abbrev cX6_ofCell : ByteArray := prog_8_method_38_code
def yX6_ofCell : MethodName := ⟨RX6, "ofCell", "(II)I"⟩
abbrev cX6_cell : ByteArray := prog_8_method_39_code
def yX6_cell : MethodName := ⟨RX6, "cell", "(II)I"⟩
abbrev cX6_walker : ByteArray := prog_8_method_40_code
def yX6_walker : MethodName := ⟨RX6, "walker", "(I)I"⟩
abbrev cX6_planned : ByteArray := prog_8_method_41_code
def yX6_planned : MethodName := ⟨RX6, "planned", "(II)I"⟩
abbrev cX6_plan : ByteArray := prog_8_method_42_code
def yX6_plan : MethodName := ⟨RX6, "plan", "(II)I"⟩
abbrev cX6_doors : ByteArray := prog_8_method_43_code
def yX6_doors : MethodName := ⟨RX6, "doors", "()I"⟩
abbrev cX6_ladders : ByteArray := prog_8_method_44_code
def yX6_ladders : MethodName := ⟨RX6, "ladders", "()I"⟩
abbrev cX6_longest : ByteArray := prog_8_method_45_code
def yX6_longest : MethodName := ⟨RX6, "longest", "()I"⟩
abbrev cX6_counted : ByteArray := prog_8_method_46_code
def yX6_counted : MethodName := ⟨RX6, "counted", "(I)I"⟩
abbrev cX6_count : ByteArray := prog_8_method_47_code
def yX6_count : MethodName := ⟨RX6, "count", "(I)I"⟩
abbrev cX6_refusal : ByteArray := prog_8_method_48_code
def yX6_refusal : MethodName := ⟨RX6, "refusal", "(I)I"⟩
abbrev cX6_with : ByteArray := prog_8_method_49_code
def yX6_with : MethodName := ⟨RX6, "with", "(II)I"⟩
abbrev cX6_ifDoor : ByteArray := prog_8_method_50_code
def yX6_ifDoor : MethodName := ⟨RX6, "ifDoor", "(II)I"⟩
abbrev cX6_without : ByteArray := prog_8_method_51_code
def yX6_without : MethodName := ⟨RX6, "without", "(I)I"⟩
abbrev cX6_best : ByteArray := prog_8_method_52_code
def yX6_best : MethodName := ⟨RX6, "best", "()I"⟩
abbrev cX6_bestFold : ByteArray := prog_8_method_53_code
def yX6_bestFold : MethodName := ⟨RX6, "bestFold", "()I"⟩
abbrev cX6_share : ByteArray := prog_8_method_54_code
def yX6_share : MethodName := ⟨RX6, "share", "()D"⟩
abbrev cX6_reached : ByteArray := prog_8_method_55_code
def yX6_reached : MethodName := ⟨RX6, "reached", "()D"⟩
abbrev cX6_digest : ByteArray := prog_8_method_56_code
def yX6_digest : MethodName := ⟨RX6, "digest", "()J"⟩
def RL : String := "FoldedKeysLaw"
abbrev cL_door : ByteArray := method_3_code
def yL_door : MethodName := ⟨RL, "door", "(LFoldedKeys;II[J)I"⟩
abbrev cL_key : ByteArray := method_4_code
def yL_key : MethodName := ⟨RL, "key", "(LFoldedKeys;II[J)I"⟩
abbrev cL_ladder : ByteArray := method_5_code
def yL_ladder : MethodName := ⟨RL, "ladder", "(LFoldedKeys;IZ[J)I"⟩
abbrev cL_fold : ByteArray := method_6_code
def yL_fold : MethodName := ⟨RL, "fold", "(LFoldedKeys;I[J)I"⟩
abbrev cL_stand : ByteArray := method_7_code
def yL_stand : MethodName := ⟨RL, "stand", "(LFoldedKeys;I[J)I"⟩
abbrev cL_step : ByteArray := method_8_code
def yL_step : MethodName := ⟨RL, "step", "(LFoldedKeys;I[J)I"⟩
abbrev cL_walk : ByteArray := method_9_code
def yL_walk : MethodName := ⟨RL, "walk", "(LFoldedKeys;I[J)I"⟩
abbrev cL_append : ByteArray := method_10_code
def yL_append : MethodName := ⟨RL, "append", "(LFoldedKeys;I[J)I"⟩
abbrev cL_corridor : ByteArray := method_11_code
def yL_corridor : MethodName := ⟨RL, "corridor", "(LFoldedKeys;[J)I"⟩
abbrev cL_undo : ByteArray := method_12_code
def yL_undo : MethodName := ⟨RL, "undo", "(LFoldedKeys;[J)I"⟩
abbrev cL_cell : ByteArray := method_13_code
def yL_cell : MethodName := ⟨RL, "cell", "(LFoldedKeys;II[J)I"⟩
abbrev cL_walker : ByteArray := method_14_code
def yL_walker : MethodName := ⟨RL, "walker", "(LFoldedKeys;I[J)I"⟩
abbrev cL_plan : ByteArray := method_15_code
def yL_plan : MethodName := ⟨RL, "plan", "(LFoldedKeys;II[J)I"⟩
abbrev cL_count : ByteArray := method_16_code
def yL_count : MethodName := ⟨RL, "count", "(LFoldedKeys;I[J)I"⟩
abbrev cL_refusal : ByteArray := method_17_code
def yL_refusal : MethodName := ⟨RL, "refusal", "(LFoldedKeys;I[J)I"⟩
abbrev cL_ifDoor : ByteArray := method_18_code
def yL_ifDoor : MethodName := ⟨RL, "ifDoor", "(LFoldedKeys;II[J)I"⟩
abbrev cL_without : ByteArray := method_19_code
def yL_without : MethodName := ⟨RL, "without", "(LFoldedKeys;I[J)I"⟩
abbrev cL_law : ByteArray := code
def yL_law : MethodName := ⟨RL, "law", "([I)Z"⟩
abbrev vwCl : List vw_C := [(RX1, TX1, 9), (RX2, TX2, 3), (RX3, TX3, 6), (RX4, TX4, 4), (RX5, TX5, 5), (RX6, TX6, 18)]
end
section
/-! decode rows, a list a method, in pieces of 40 -/
def dOK (cc : ByteArray) (L : List (Nat × Instr × Nat)) : Prop := ∀ q ∈ L, decode cc q.1 = .ok (q.2.1, q.2.2)
theorem dk {cc : ByteArray} {L : List (Nat × Instr × Nat)} (h : dOK cc L) (i : Nat) {pc n : Nat} {ins : Instr} (hi : L[i]? = some (pc, ins, n)) : decode cc pc = .ok (ins, n) := h (pc, ins, n) (List.mem_of_getElem? hi)
def LX0_of_0 : List (Nat × Instr × Nat) := [(0, .iload_n 0, 1), (1, .iload_n 1, 1), (2, .iconst 4, 1), (3, .ishl, 1), (4, .ior, 1), (5, .iload_n 2, 1), (6, .bipush 9, 2), (8, .ishl, 1), (9, .ior, 1), (10, .ireturn, 1)]
set_option maxRecDepth 100000 in
theorem DX0_of_0 : dOK cX0_of LX0_of_0 := by unfold dOK; decide +kernel
def LX0_cellOf_0 : List (Nat × Instr × Nat) := [(0, .iload_n 0, 1), (1, .bipush 15, 2), (3, .iand, 1), (4, .ireturn, 1)]
set_option maxRecDepth 100000 in
theorem DX0_cellOf_0 : dOK cX0_cellOf LX0_cellOf_0 := by unfold dOK; decide +kernel
def LX0_firstOf_0 : List (Nat × Instr × Nat) := [(0, .iload_n 0, 1), (1, .iconst 4, 1), (2, .ishr, 1), (3, .bipush 31, 2), (5, .iand, 1), (6, .ireturn, 1)]
set_option maxRecDepth 100000 in
theorem DX0_firstOf_0 : dOK cX0_firstOf LX0_firstOf_0 := by unfold dOK; decide +kernel
def LX0_secondOf_0 : List (Nat × Instr × Nat) := [(0, .iload_n 0, 1), (1, .bipush 9, 2), (3, .ishr, 1), (4, .bipush 31, 2), (6, .iand, 1), (7, .ireturn, 1)]
set_option maxRecDepth 100000 in
theorem DX0_secondOf_0 : dOK cX0_secondOf LX0_secondOf_0 := by unfold dOK; decide +kernel
def LX0_movedTo_0 : List (Nat × Instr × Nat) := [(0, .iload_n 1, 1), (1, .iload_n 0, 1), (2, .invokestatic 7, 3), (5, .iload_n 0, 1), (6, .invokestatic 13, 3), (9, .invokestatic 16, 3), (12, .ireturn, 1)]
set_option maxRecDepth 100000 in
theorem DX0_movedTo_0 : dOK cX0_movedTo LX0_movedTo_0 := by unfold dOK; decide +kernel
def LX0_swapped_0 : List (Nat × Instr × Nat) := [(0, .iload_n 0, 1), (1, .invokestatic 20, 3), (4, .istore_n 1, 1), (5, .iload_n 1, 1), (6, .iload_n 0, 1), (7, .invokestatic 7, 3), (10, .iload_n 1, 1), (11, .invokestatic 23, 3), (14, .iload_n 0, 1), (15, .invokestatic 13, 3), (18, .iload_n 1, 1), (19, .invokestatic 23, 3), (22, .invokestatic 16, 3), (25, .ireturn, 1)]
set_option maxRecDepth 100000 in
theorem DX0_swapped_0 : dOK cX0_swapped LX0_swapped_0 := by unfold dOK; decide +kernel
def LX0_swappedPlace_0 : List (Nat × Instr × Nat) := [(0, .iload_n 0, 1), (1, .bipush 16, 2), (3, .if_icmp .ne 5, 3), (6, .iload_n 1, 1), (7, .ireturn, 1), (8, .iload_n 0, 1), (9, .iload_n 1, 1), (10, .if_icmp .ne 8, 3), (13, .bipush 16, 2), (15, .goto 4, 3), (18, .iload_n 0, 1), (19, .ireturn, 1)]
set_option maxRecDepth 100000 in
theorem DX0_swappedPlace_0 : dOK cX0_swappedPlace LX0_swappedPlace_0 := by unfold dOK; decide +kernel
def LX1_init_0 : List (Nat × Instr × Nat) := [(0, .aload_n 0, 1), (1, .invokespecial 3, 3), (4, .aload_n 0, 1), (5, .bipush 15, 2), (7, .newarray .int, 2), (9, .putfield 9, 3), (12, .aload_n 0, 1), (13, .bipush 16, 2), (15, .newarray .int, 2), (17, .putfield 15, 3), (20, .aload_n 0, 1), (21, .iconst 0, 1), (22, .bipush 17, 2), (24, .bipush 17, 2), (26, .invokestatic 20, 3), (29, .putfield 24, 3), (32, .aload_n 0, 1), (33, .iconst 4, 1), (34, .putfield 28, 3), (37, .return_, 1)]
set_option maxRecDepth 100000 in
theorem DX1_init_0 : dOK cX1_init LX1_init_0 := by unfold dOK; decide +kernel
def LX1_copyFrom_0 : List (Nat × Instr × Nat) := [(0, .iconst 0, 1), (1, .istore_n 2, 1), (2, .iload_n 2, 1), (3, .bipush 15, 2), (5, .if_icmp .ge 21, 3), (8, .aload_n 0, 1), (9, .getfield 9, 3), (12, .iload_n 2, 1), (13, .aload_n 1, 1), (14, .getfield 9, 3), (17, .iload_n 2, 1), (18, .iaload, 1), (19, .iastore, 1), (20, .iinc 2 1, 3), (23, .goto (-21), 3), (26, .iconst 0, 1), (27, .istore_n 2, 1), (28, .iload_n 2, 1), (29, .bipush 16, 2), (31, .if_icmp .ge 21, 3), (34, .aload_n 0, 1), (35, .getfield 15, 3), (38, .iload_n 2, 1), (39, .aload_n 1, 1), (40, .getfield 15, 3), (43, .iload_n 2, 1), (44, .iaload, 1), (45, .iastore, 1), (46, .iinc 2 1, 3), (49, .goto (-21), 3), (52, .aload_n 0, 1), (53, .aload_n 1, 1), (54, .getfield 31, 3), (57, .putfield 31, 3), (60, .aload_n 0, 1), (61, .aload_n 1, 1), (62, .getfield 34, 3), (65, .putfield 34, 3), (68, .aload_n 0, 1), (69, .aload_n 1, 1)]
set_option maxRecDepth 100000 in
theorem DX1_copyFrom_0 : dOK cX1_copyFrom LX1_copyFrom_0 := by unfold dOK; decide +kernel
def LX1_copyFrom_1 : List (Nat × Instr × Nat) := [(70, .getfield 24, 3), (73, .putfield 24, 3), (76, .aload_n 0, 1), (77, .aload_n 1, 1), (78, .getfield 28, 3), (81, .putfield 28, 3), (84, .aload_n 0, 1), (85, .aload_n 1, 1), (86, .getfield 37, 3), (89, .putfield 37, 3), (92, .aload_n 0, 1), (93, .aload_n 1, 1), (94, .getfield 40, 3), (97, .putfield 40, 3), (100, .aload_n 0, 1), (101, .aload_n 1, 1), (102, .getfield 43, 3), (105, .putfield 43, 3), (108, .return_, 1)]
set_option maxRecDepth 100000 in
theorem DX1_copyFrom_1 : dOK cX1_copyFrom LX1_copyFrom_1 := by unfold dOK; decide +kernel
def LX1_clear_0 : List (Nat × Instr × Nat) := [(0, .iconst 0, 1), (1, .istore_n 1, 1), (2, .iload_n 1, 1), (3, .bipush 15, 2), (5, .if_icmp .ge 16, 3), (8, .aload_n 0, 1), (9, .getfield 9, 3), (12, .iload_n 1, 1), (13, .iconst 0, 1), (14, .iastore, 1), (15, .iinc 1 1, 3), (18, .goto (-16), 3), (21, .iconst 0, 1), (22, .istore_n 1, 1), (23, .iload_n 1, 1), (24, .bipush 16, 2), (26, .if_icmp .ge 16, 3), (29, .aload_n 0, 1), (30, .getfield 15, 3), (33, .iload_n 1, 1), (34, .iconst 0, 1), (35, .iastore, 1), (36, .iinc 1 1, 3), (39, .goto (-16), 3), (42, .aload_n 0, 1), (43, .iconst 0, 1), (44, .putfield 31, 3), (47, .aload_n 0, 1), (48, .iconst 0, 1), (49, .putfield 34, 3), (52, .aload_n 0, 1), (53, .iconst 0, 1), (54, .bipush 17, 2), (56, .bipush 17, 2), (58, .invokestatic 20, 3), (61, .putfield 24, 3), (64, .return_, 1)]
set_option maxRecDepth 100000 in
theorem DX1_clear_0 : dOK cX1_clear LX1_clear_0 := by unfold dOK; decide +kernel
def LX1_setLock_0 : List (Nat × Instr × Nat) := [(0, .iload_n 1, 1), (1, .invokestatic 46, 3), (4, .ifCond .eq 10, 3), (7, .aload_n 0, 1), (8, .getfield 9, 3), (11, .iload_n 1, 1), (12, .iload_n 2, 1), (13, .iastore, 1), (14, .return_, 1)]
set_option maxRecDepth 100000 in
theorem DX1_setLock_0 : dOK cX1_setLock LX1_setLock_0 := by unfold dOK; decide +kernel
def LX1_lockBehind_0 : List (Nat × Instr × Nat) := [(0, .iload_n 1, 1), (1, .invokestatic 46, 3), (4, .ifCond .eq 12, 3), (7, .aload_n 0, 1), (8, .getfield 9, 3), (11, .iload_n 1, 1), (12, .iaload, 1), (13, .goto 4, 3), (16, .iconst 0, 1), (17, .ireturn, 1)]
set_option maxRecDepth 100000 in
theorem DX1_lockBehind_0 : dOK cX1_lockBehind LX1_lockBehind_0 := by unfold dOK; decide +kernel
def LX1_setLadder_0 : List (Nat × Instr × Nat) := [(0, .iload_n 1, 1), (1, .invokestatic 50, 3), (4, .ifCond .eq 10, 3), (7, .aload_n 0, 1), (8, .getfield 15, 3), (11, .iload_n 1, 1), (12, .iload_n 2, 1), (13, .iastore, 1), (14, .return_, 1)]
set_option maxRecDepth 100000 in
theorem DX1_setLadder_0 : dOK cX1_setLadder LX1_setLadder_0 := by unfold dOK; decide +kernel
def LX1_ladderIn_0 : List (Nat × Instr × Nat) := [(0, .iload_n 1, 1), (1, .invokestatic 50, 3), (4, .ifCond .eq 12, 3), (7, .aload_n 0, 1), (8, .getfield 15, 3), (11, .iload_n 1, 1), (12, .iaload, 1), (13, .goto 4, 3), (16, .iconst 0, 1), (17, .ireturn, 1)]
set_option maxRecDepth 100000 in
theorem DX1_ladderIn_0 : dOK cX1_ladderIn LX1_ladderIn_0 := by unfold dOK; decide +kernel
def LX1_putKey_0 : List (Nat × Instr × Nat) := [(0, .aload_n 0, 1), (1, .getfield 24, 3), (4, .invokestatic 53, 3), (7, .istore_n 3, 1), (8, .aload_n 0, 1), (9, .getfield 24, 3), (12, .invokestatic 57, 3), (15, .istore 4, 2), (17, .iload_n 2, 1), (18, .ifCond .ne 8, 3), (21, .bipush 17, 2), (23, .goto 4, 3), (26, .iload_n 1, 1), (27, .istore 5, 2), (29, .iload_n 3, 1), (30, .iload_n 1, 1), (31, .if_icmp .eq 15, 3), (34, .iload 4, 2), (36, .iload_n 1, 1), (37, .if_icmp .eq 20, 3), (40, .iload_n 3, 1), (41, .bipush 17, 2), (43, .if_icmp .ne 14, 3), (46, .aload_n 0, 1), (47, .iload_n 2, 1), (48, .putfield 31, 3), (51, .iload 5, 2), (53, .istore_n 3, 1), (54, .goto 25, 3), (57, .iload 4, 2), (59, .iload_n 1, 1), (60, .if_icmp .eq 10, 3), (63, .iload 4, 2), (65, .bipush 17, 2), (67, .if_icmp .ne 12, 3), (70, .aload_n 0, 1), (71, .iload_n 2, 1), (72, .putfield 34, 3), (75, .iload 5, 2), (77, .istore 4, 2)]
set_option maxRecDepth 100000 in
theorem DX1_putKey_0 : dOK cX1_putKey LX1_putKey_0 := by unfold dOK; decide +kernel
def LX1_putKey_1 : List (Nat × Instr × Nat) := [(79, .aload_n 0, 1), (80, .aload_n 0, 1), (81, .getfield 24, 3), (84, .invokestatic 60, 3), (87, .iload_n 3, 1), (88, .iload 4, 2), (90, .invokestatic 20, 3), (93, .putfield 24, 3), (96, .return_, 1)]
set_option maxRecDepth 100000 in
theorem DX1_putKey_1 : dOK cX1_putKey LX1_putKey_1 := by unfold dOK; decide +kernel
def LX1_bowIn_0 : List (Nat × Instr × Nat) := [(0, .iload_n 1, 1), (1, .invokestatic 53, 3), (4, .iload_n 2, 1), (5, .if_icmp .ne 8, 3), (8, .aload_n 0, 1), (9, .getfield 31, 3), (12, .ireturn, 1), (13, .iload_n 1, 1), (14, .invokestatic 57, 3), (17, .iload_n 2, 1), (18, .if_icmp .ne 10, 3), (21, .aload_n 0, 1), (22, .getfield 34, 3), (25, .goto 4, 3), (28, .iconst 0, 1), (29, .ireturn, 1)]
set_option maxRecDepth 100000 in
theorem DX1_bowIn_0 : dOK cX1_bowIn LX1_bowIn_0 := by unfold dOK; decide +kernel
def LX1_keys_0 : List (Nat × Instr × Nat) := [(0, .aload_n 0, 1), (1, .getfield 31, 3), (4, .ifCond .eq 7, 3), (7, .iconst 1, 1), (8, .goto 4, 3), (11, .iconst 0, 1), (12, .aload_n 0, 1), (13, .getfield 34, 3), (16, .ifCond .eq 7, 3), (19, .iconst 1, 1), (20, .goto 4, 3), (23, .iconst 0, 1), (24, .iadd, 1), (25, .ireturn, 1)]
set_option maxRecDepth 100000 in
theorem DX1_keys_0 : dOK cX1_keys LX1_keys_0 := by unfold dOK; decide +kernel
def LX1_doors_0 : List (Nat × Instr × Nat) := [(0, .iconst 0, 1), (1, .istore_n 1, 1), (2, .iconst 0, 1), (3, .istore_n 2, 1), (4, .iload_n 2, 1), (5, .bipush 15, 2), (7, .if_icmp .ge 21, 3), (10, .aload_n 0, 1), (11, .getfield 9, 3), (14, .iload_n 2, 1), (15, .iaload, 1), (16, .ifCond .eq 6, 3), (19, .iinc 1 1, 3), (22, .iinc 2 1, 3), (25, .goto (-21), 3), (28, .iload_n 1, 1), (29, .ireturn, 1)]
set_option maxRecDepth 100000 in
theorem DX1_doors_0 : dOK cX1_doors LX1_doors_0 := by unfold dOK; decide +kernel
def LX1_laddersBetween_0 : List (Nat × Instr × Nat) := [(0, .iconst 0, 1), (1, .istore_n 1, 1), (2, .iconst 0, 1), (3, .istore_n 2, 1), (4, .iload_n 2, 1), (5, .bipush 16, 2), (7, .if_icmp .ge 21, 3), (10, .aload_n 0, 1), (11, .iload_n 2, 1), (12, .invokevirtual 63, 3), (15, .iconst (-1), 1), (16, .if_icmp .eq 6, 3), (19, .iinc 1 1, 3), (22, .iinc 2 1, 3), (25, .goto (-21), 3), (28, .iload_n 1, 1), (29, .ireturn, 1)]
set_option maxRecDepth 100000 in
theorem DX1_laddersBetween_0 : dOK cX1_laddersBetween LX1_laddersBetween_0 := by unfold dOK; decide +kernel
def LX1_floorOf_0 : List (Nat × Instr × Nat) := [(0, .aload_n 0, 1), (1, .getfield 28, 3), (4, .ifCond .le 12, 3), (7, .iload_n 1, 1), (8, .aload_n 0, 1), (9, .getfield 28, 3), (12, .idiv, 1), (13, .goto 4, 3), (16, .iconst 0, 1), (17, .ireturn, 1)]
set_option maxRecDepth 100000 in
theorem DX1_floorOf_0 : dOK cX1_floorOf LX1_floorOf_0 := by unfold dOK; decide +kernel
def LX1_cellBelow_0 : List (Nat × Instr × Nat) := [(0, .aload_n 0, 1), (1, .iload_n 1, 1), (2, .iconst 2, 1), (3, .aload_n 0, 1), (4, .getfield 28, 3), (7, .imul, 1), (8, .aload_n 0, 1), (9, .iload_n 1, 1), (10, .invokevirtual 66, 3), (13, .imul, 1), (14, .iconst 1, 1), (15, .isub, 1), (16, .iload_n 1, 1), (17, .isub, 1), (18, .invokevirtual 69, 3), (21, .ireturn, 1)]
set_option maxRecDepth 100000 in
theorem DX1_cellBelow_0 : dOK cX1_cellBelow LX1_cellBelow_0 := by unfold dOK; decide +kernel
def LX1_cellAbove_0 : List (Nat × Instr × Nat) := [(0, .aload_n 0, 1), (1, .iload_n 1, 1), (2, .iconst 2, 1), (3, .aload_n 0, 1), (4, .getfield 28, 3), (7, .imul, 1), (8, .aload_n 0, 1), (9, .iload_n 1, 1), (10, .invokevirtual 66, 3), (13, .iconst 1, 1), (14, .iadd, 1), (15, .imul, 1), (16, .iconst 1, 1), (17, .isub, 1), (18, .iload_n 1, 1), (19, .isub, 1), (20, .invokevirtual 69, 3), (23, .ireturn, 1)]
set_option maxRecDepth 100000 in
theorem DX1_cellAbove_0 : dOK cX1_cellAbove LX1_cellAbove_0 := by unfold dOK; decide +kernel
def LX1_byLadder_0 : List (Nat × Instr × Nat) := [(0, .iload_n 1, 1), (1, .ifCond .lt 19, 3), (4, .iload_n 1, 1), (5, .bipush 16, 2), (7, .if_icmp .ge 13, 3), (10, .iload_n 2, 1), (11, .ifCond .lt 9, 3), (14, .iload_n 2, 1), (15, .bipush 16, 2), (17, .if_icmp .lt 5, 3), (20, .iconst (-1), 1), (21, .ireturn, 1), (22, .aload_n 0, 1), (23, .getfield 15, 3), (26, .iload_n 1, 1), (27, .iaload, 1), (28, .ifCond .ne 12, 3), (31, .aload_n 0, 1), (32, .getfield 15, 3), (35, .iload_n 2, 1), (36, .iaload, 1), (37, .ifCond .eq 7, 3), (40, .iload_n 2, 1), (41, .goto 4, 3), (44, .iconst (-1), 1), (45, .ireturn, 1)]
set_option maxRecDepth 100000 in
theorem DX1_byLadder_0 : dOK cX1_byLadder LX1_byLadder_0 := by unfold dOK; decide +kernel
def LX1_after_0 : List (Nat × Instr × Nat) := [(0, .iload_n 1, 1), (1, .invokestatic 60, 3), (4, .istore_n 3, 1), (5, .iload_n 2, 1), (6, .iconst 4, 1), (7, .if_icmp .ne 43, 3), (10, .aload_n 0, 1), (11, .iload_n 1, 1), (12, .bipush 16, 2), (14, .invokevirtual 73, 3), (17, .ifCond .ne 16, 3), (20, .aload_n 0, 1), (21, .iload_n 1, 1), (22, .iload_n 3, 1), (23, .invokevirtual 73, 3), (26, .ifCond .ne 7, 3), (29, .iconst 1, 1), (30, .goto 4, 3), (33, .iconst 0, 1), (34, .istore 4, 2), (36, .iload 4, 2), (38, .ifCond .eq 7, 3), (41, .iconst (-1), 1), (42, .goto 7, 3), (45, .iload_n 1, 1), (46, .invokestatic 76, 3), (49, .ireturn, 1), (50, .aload_n 0, 1), (51, .iload_n 3, 1), (52, .iload_n 2, 1), (53, .invokevirtual 79, 3), (56, .istore 4, 2), (58, .iload 4, 2), (60, .iconst (-1), 1), (61, .if_icmp .ne 5, 3), (64, .iconst (-1), 1), (65, .ireturn, 1), (66, .aload_n 0, 1), (67, .iload_n 3, 1), (68, .iload_n 2, 1)]
set_option maxRecDepth 100000 in
theorem DX1_after_0 : dOK cX1_after LX1_after_0 := by unfold dOK; decide +kernel
def LX1_after_1 : List (Nat × Instr × Nat) := [(69, .invokevirtual 82, 3), (72, .istore 5, 2), (74, .iload 5, 2), (76, .ifCond .eq 18, 3), (79, .iload 5, 2), (81, .aload_n 0, 1), (82, .iload_n 1, 1), (83, .bipush 16, 2), (85, .invokevirtual 73, 3), (88, .if_icmp .eq 6, 3), (91, .bipush (-2), 2), (93, .ireturn, 1), (94, .iload_n 1, 1), (95, .iload 4, 2), (97, .invokestatic 85, 3), (100, .ireturn, 1)]
set_option maxRecDepth 100000 in
theorem DX1_after_1 : dOK cX1_after LX1_after_1 := by unfold dOK; decide +kernel
def LX1_targetOf_0 : List (Nat × Instr × Nat) := [(0, .iload_n 2, 1), (1, .tableswitch 69 0 3 #[31, 43, 57, 63], 31), (32, .iload_n 1, 1), (33, .ifCond .le 9, 3), (36, .iload_n 1, 1), (37, .iconst 1, 1), (38, .isub, 1), (39, .goto 4, 3), (42, .iconst (-1), 1), (43, .ireturn, 1), (44, .iload_n 1, 1), (45, .bipush 15, 2), (47, .if_icmp .ge 9, 3), (50, .iload_n 1, 1), (51, .iconst 1, 1), (52, .iadd, 1), (53, .goto 4, 3), (56, .iconst (-1), 1), (57, .ireturn, 1), (58, .aload_n 0, 1), (59, .iload_n 1, 1), (60, .invokevirtual 88, 3), (63, .ireturn, 1), (64, .aload_n 0, 1), (65, .iload_n 1, 1), (66, .invokevirtual 63, 3), (69, .ireturn, 1), (70, .iconst (-1), 1), (71, .ireturn, 1)]
set_option maxRecDepth 100000 in
theorem DX1_targetOf_0 : dOK cX1_targetOf LX1_targetOf_0 := by unfold dOK; decide +kernel
def LX1_lockOnWay_0 : List (Nat × Instr × Nat) := [(0, .iload_n 2, 1), (1, .ifCond .ne 11, 3), (4, .aload_n 0, 1), (5, .iload_n 1, 1), (6, .iconst 1, 1), (7, .isub, 1), (8, .invokevirtual 91, 3), (11, .ireturn, 1), (12, .iload_n 2, 1), (13, .iconst 1, 1), (14, .if_icmp .ne 11, 3), (17, .aload_n 0, 1), (18, .iload_n 1, 1), (19, .invokevirtual 91, 3), (22, .goto 4, 3), (25, .iconst 0, 1), (26, .ireturn, 1)]
set_option maxRecDepth 100000 in
theorem DX1_lockOnWay_0 : dOK cX1_lockOnWay LX1_lockOnWay_0 := by unfold dOK; decide +kernel
def LX1_reasonAgainst_0 : List (Nat × Instr × Nat) := [(0, .aload_n 0, 1), (1, .aload_n 0, 1), (2, .getfield 24, 3), (5, .iload_n 1, 1), (6, .invokevirtual 94, 3), (9, .istore_n 2, 1), (10, .iload_n 2, 1), (11, .ifCond .ge 8, 3), (14, .iload_n 2, 1), (15, .ineg, 1), (16, .goto 4, 3), (19, .iconst 0, 1), (20, .ireturn, 1)]
set_option maxRecDepth 100000 in
theorem DX1_reasonAgainst_0 : dOK cX1_reasonAgainst LX1_reasonAgainst_0 := by unfold dOK; decide +kernel
def LX1_take_0 : List (Nat × Instr × Nat) := [(0, .aload_n 0, 1), (1, .aload_n 0, 1), (2, .getfield 24, 3), (5, .iload_n 1, 1), (6, .invokevirtual 94, 3), (9, .istore_n 2, 1), (10, .iload_n 2, 1), (11, .ifCond .ge 4, 3), (14, .return_, 1), (15, .aload_n 0, 1), (16, .dup, 1), (17, .getfield 37, 3), (20, .iconst 1, 1), (21, .iadd, 1), (22, .putfield 37, 3), (25, .iload_n 1, 1), (26, .iconst 4, 1), (27, .if_icmp .ne 13, 3), (30, .aload_n 0, 1), (31, .dup, 1), (32, .getfield 40, 3), (35, .iconst 1, 1), (36, .iadd, 1), (37, .putfield 40, 3), (40, .aload_n 0, 1), (41, .aload_n 0, 1), (42, .getfield 24, 3), (45, .invokestatic 60, 3), (48, .iload_n 1, 1), (49, .invokevirtual 82, 3), (52, .ifCond .eq 13, 3), (55, .aload_n 0, 1), (56, .dup, 1), (57, .getfield 43, 3), (60, .iconst 1, 1), (61, .iadd, 1), (62, .putfield 43, 3), (65, .aload_n 0, 1), (66, .iload_n 2, 1), (67, .putfield 24, 3)]
set_option maxRecDepth 100000 in
theorem DX1_take_0 : dOK cX1_take LX1_take_0 := by unfold dOK; decide +kernel
def LX1_take_1 : List (Nat × Instr × Nat) := [(70, .return_, 1)]
set_option maxRecDepth 100000 in
theorem DX1_take_1 : dOK cX1_take LX1_take_1 := by unfold dOK; decide +kernel
def LX2_init_0 : List (Nat × Instr × Nat) := [(0, .aload_n 0, 1), (1, .invokespecial 3, 3), (4, .aload_n 0, 1), (5, .bipush 6, 2), (7, .anewarray 9, 3), (10, .putfield 11, 3), (13, .iconst 0, 1), (14, .istore_n 1, 1), (15, .iload_n 1, 1), (16, .bipush 6, 2), (18, .if_icmp .ge 22, 3), (21, .aload_n 0, 1), (22, .getfield 11, 3), (25, .iload_n 1, 1), (26, .new 9, 3), (29, .dup, 1), (30, .invokespecial 17, 3), (33, .aastore, 1), (34, .iinc 1 1, 3), (37, .goto (-22), 3), (40, .return_, 1)]
set_option maxRecDepth 100000 in
theorem DX2_init_0 : dOK cX2_init LX2_init_0 := by unfold dOK; decide +kernel
def LX2_push_0 : List (Nat × Instr × Nat) := [(0, .aload_n 0, 1), (1, .aload_n 0, 1), (2, .getfield 18, 3), (5, .invokevirtual 22, 3), (8, .astore_n 2, 1), (9, .aload_n 2, 1), (10, .ifnonnull 4, 3), (13, .return_, 1), (14, .aload_n 2, 1), (15, .aload_n 1, 1), (16, .invokevirtual 26, 3), (19, .aload_n 0, 1), (20, .aload_n 0, 1), (21, .getfield 18, 3), (24, .iconst 1, 1), (25, .iadd, 1), (26, .bipush 6, 2), (28, .irem, 1), (29, .putfield 18, 3), (32, .aload_n 0, 1), (33, .aload_n 0, 1), (34, .getfield 30, 3), (37, .iconst 1, 1), (38, .iadd, 1), (39, .bipush 6, 2), (41, .invokestatic 33, 3), (44, .putfield 30, 3), (47, .return_, 1)]
set_option maxRecDepth 100000 in
theorem DX2_push_0 : dOK cX2_push LX2_push_0 := by unfold dOK; decide +kernel
def LX2_popInto_0 : List (Nat × Instr × Nat) := [(0, .aload_n 0, 1), (1, .getfield 18, 3), (4, .bipush 6, 2), (6, .iadd, 1), (7, .iconst 1, 1), (8, .isub, 1), (9, .bipush 6, 2), (11, .irem, 1), (12, .istore_n 2, 1), (13, .aload_n 0, 1), (14, .iload_n 2, 1), (15, .invokevirtual 22, 3), (18, .astore_n 3, 1), (19, .aload_n 3, 1), (20, .ifnull 10, 3), (23, .aload_n 0, 1), (24, .getfield 30, 3), (27, .ifCond .ne 4, 3), (30, .return_, 1), (31, .aload_n 1, 1), (32, .aload_n 3, 1), (33, .invokevirtual 26, 3), (36, .aload_n 0, 1), (37, .iload_n 2, 1), (38, .putfield 18, 3), (41, .aload_n 0, 1), (42, .dup, 1), (43, .getfield 30, 3), (46, .iconst 1, 1), (47, .isub, 1), (48, .putfield 30, 3), (51, .return_, 1)]
set_option maxRecDepth 100000 in
theorem DX2_popInto_0 : dOK cX2_popInto LX2_popInto_0 := by unfold dOK; decide +kernel
def LX2_slotAt_0 : List (Nat × Instr × Nat) := [(0, .iload_n 1, 1), (1, .ifCond .lt 18, 3), (4, .iload_n 1, 1), (5, .bipush 6, 2), (7, .if_icmp .ge 12, 3), (10, .aload_n 0, 1), (11, .getfield 11, 3), (14, .iload_n 1, 1), (15, .aaload, 1), (16, .goto 4, 3), (19, .aconst_null, 1), (20, .areturn, 1)]
set_option maxRecDepth 100000 in
theorem DX2_slotAt_0 : dOK cX2_slotAt LX2_slotAt_0 := by unfold dOK; decide +kernel
def LX3_init_0 : List (Nat × Instr × Nat) := [(0, .aload_n 0, 1), (1, .invokespecial 3, 3), (4, .aload_n 0, 1), (5, .sipush 4624, 3), (8, .newarray .int, 2), (10, .putfield 11, 3), (13, .aload_n 0, 1), (14, .sipush 256, 3), (17, .newarray .long, 2), (19, .putfield 17, 3), (22, .aload_n 0, 1), (23, .bipush 16, 2), (25, .newarray .int, 2), (27, .putfield 21, 3), (30, .aload_n 0, 1), (31, .bipush 16, 2), (33, .newarray .int, 2), (35, .putfield 24, 3), (38, .return_, 1)]
set_option maxRecDepth 100000 in
theorem DX3_init_0 : dOK cX3_init LX3_init_0 := by unfold dOK; decide +kernel
def LX3_run_0 : List (Nat × Instr × Nat) := [(0, .aload_n 0, 1), (1, .invokevirtual 27, 3), (4, .aload_n 0, 1), (5, .aload_n 1, 1), (6, .getfield 30, 3), (9, .iconst 0, 1), (10, .iconst 0, 1), (11, .iconst 0, 1), (12, .invokevirtual 36, 3), (15, .iconst 1, 1), (16, .istore_n 2, 1), (17, .iconst 1, 1), (18, .istore_n 3, 1), (19, .iconst 0, 1), (20, .istore 4, 2), (22, .iload 4, 2), (24, .aload_n 0, 1), (25, .getfield 40, 3), (28, .if_icmp .ge 93, 3), (31, .iload 4, 2), (33, .sipush 4624, 3), (36, .if_icmp .ge 85, 3), (39, .aload_n 0, 1), (40, .getfield 43, 3), (43, .bipush 16, 2), (45, .if_icmp .ge 76, 3), (48, .iload 4, 2), (50, .iload_n 3, 1), (51, .if_icmp .ne 11, 3), (54, .iinc 2 1, 3), (57, .aload_n 0, 1), (58, .getfield 40, 3), (61, .istore_n 3, 1), (62, .aload_n 0, 1), (63, .getfield 11, 3), (66, .iload 4, 2), (68, .iaload, 1), (69, .invokestatic 46, 3), (72, .istore 5, 2), (74, .iconst 0, 1)]
set_option maxRecDepth 100000 in
theorem DX3_run_0 : dOK cX3_run LX3_run_0 := by unfold dOK; decide +kernel
def LX3_run_1 : List (Nat × Instr × Nat) := [(75, .istore 6, 2), (77, .iload 6, 2), (79, .iconst 5, 1), (80, .if_icmp .ge 35, 3), (83, .aload_n 1, 1), (84, .iload 5, 2), (86, .iload 6, 2), (88, .invokevirtual 50, 3), (91, .istore 7, 2), (93, .iload 7, 2), (95, .ifCond .lt 14, 3), (98, .aload_n 0, 1), (99, .iload 7, 2), (101, .iload 6, 2), (103, .iload 4, 2), (105, .iload_n 2, 1), (106, .invokevirtual 36, 3), (109, .iinc 6 1, 3), (112, .goto (-35), 3), (115, .iinc 4 1, 3), (118, .goto (-96), 3), (121, .return_, 1)]
set_option maxRecDepth 100000 in
theorem DX3_run_1 : dOK cX3_run LX3_run_1 := by unfold dOK; decide +kernel
def LX3_forget_0 : List (Nat × Instr × Nat) := [(0, .aload_n 0, 1), (1, .iconst 0, 1), (2, .putfield 40, 3), (5, .aload_n 0, 1), (6, .iconst 0, 1), (7, .putfield 43, 3), (10, .iconst 0, 1), (11, .istore_n 1, 1), (12, .iload_n 1, 1), (13, .aload_n 0, 1), (14, .getfield 17, 3), (17, .arraylength, 1), (18, .if_icmp .ge 16, 3), (21, .aload_n 0, 1), (22, .getfield 17, 3), (25, .iload_n 1, 1), (26, .lconst 0, 1), (27, .lastore, 1), (28, .iinc 1 1, 3), (31, .goto (-19), 3), (34, .iconst 0, 1), (35, .istore_n 1, 1), (36, .iload_n 1, 1), (37, .bipush 16, 2), (39, .if_icmp .ge 23, 3), (42, .aload_n 0, 1), (43, .getfield 21, 3), (46, .iload_n 1, 1), (47, .iconst 0, 1), (48, .iastore, 1), (49, .aload_n 0, 1), (50, .getfield 24, 3), (53, .iload_n 1, 1), (54, .iconst (-1), 1), (55, .iastore, 1), (56, .iinc 1 1, 3), (59, .goto (-23), 3), (62, .return_, 1)]
set_option maxRecDepth 100000 in
theorem DX3_forget_0 : dOK cX3_forget LX3_forget_0 := by unfold dOK; decide +kernel
def LX3_add_0 : List (Nat × Instr × Nat) := [(0, .iload_n 1, 1), (1, .bipush 6, 2), (3, .ishr, 1), (4, .sipush 255, 3), (7, .iand, 1), (8, .istore 5, 2), (10, .lconst 1, 1), (11, .iload_n 1, 1), (12, .bipush 63, 2), (14, .iand, 1), (15, .lshl, 1), (16, .lstore 6, 2), (18, .aload_n 0, 1), (19, .getfield 17, 3), (22, .iload 5, 2), (24, .laload, 1), (25, .lload 6, 2), (27, .land, 1), (28, .lconst 0, 1), (29, .lcmp, 1), (30, .ifCond .ne 13, 3), (33, .aload_n 0, 1), (34, .getfield 40, 3), (37, .sipush 4624, 3), (40, .if_icmp .lt 4, 3), (43, .return_, 1), (44, .aload_n 0, 1), (45, .getfield 17, 3), (48, .iload 5, 2), (50, .dup2, 1), (51, .laload, 1), (52, .lload 6, 2), (54, .lor, 1), (55, .lastore, 1), (56, .aload_n 0, 1), (57, .getfield 11, 3), (60, .aload_n 0, 1), (61, .getfield 40, 3), (64, .iload_n 1, 1), (65, .iload_n 2, 1)]
set_option maxRecDepth 100000 in
theorem DX3_add_0 : dOK cX3_add LX3_add_0 := by unfold dOK; decide +kernel
def LX3_add_1 : List (Nat × Instr × Nat) := [(66, .bipush 14, 2), (68, .ishl, 1), (69, .ior, 1), (70, .iload_n 3, 1), (71, .bipush 17, 2), (73, .ishl, 1), (74, .ior, 1), (75, .iastore, 1), (76, .iload_n 1, 1), (77, .invokestatic 54, 3), (80, .istore 8, 2), (82, .aload_n 0, 1), (83, .getfield 24, 3), (86, .iload 8, 2), (88, .iaload, 1), (89, .iconst (-1), 1), (90, .if_icmp .ne 33, 3), (93, .aload_n 0, 1), (94, .getfield 24, 3), (97, .iload 8, 2), (99, .iload 4, 2), (101, .iastore, 1), (102, .aload_n 0, 1), (103, .getfield 21, 3), (106, .iload 8, 2), (108, .aload_n 0, 1), (109, .getfield 40, 3), (112, .iastore, 1), (113, .aload_n 0, 1), (114, .dup, 1), (115, .getfield 43, 3), (118, .iconst 1, 1), (119, .iadd, 1), (120, .putfield 43, 3), (123, .aload_n 0, 1), (124, .dup, 1), (125, .getfield 40, 3), (128, .iconst 1, 1), (129, .iadd, 1), (130, .putfield 40, 3)]
set_option maxRecDepth 100000 in
theorem DX3_add_1 : dOK cX3_add LX3_add_1 := by unfold dOK; decide +kernel
def LX3_add_2 : List (Nat × Instr × Nat) := [(133, .return_, 1)]
set_option maxRecDepth 100000 in
theorem DX3_add_2 : dOK cX3_add LX3_add_2 := by unfold dOK; decide +kernel
def LX3_codeOf_0 : List (Nat × Instr × Nat) := [(0, .iload_n 0, 1), (1, .sipush 16383, 3), (4, .iand, 1), (5, .ireturn, 1)]
set_option maxRecDepth 100000 in
theorem DX3_codeOf_0 : dOK cX3_codeOf LX3_codeOf_0 := by unfold dOK; decide +kernel
def LX3_stepOf_0 : List (Nat × Instr × Nat) := [(0, .iload_n 0, 1), (1, .bipush 14, 2), (3, .ishr, 1), (4, .bipush 7, 2), (6, .iand, 1), (7, .ireturn, 1)]
set_option maxRecDepth 100000 in
theorem DX3_stepOf_0 : dOK cX3_stepOf LX3_stepOf_0 := by unfold dOK; decide +kernel
def LX3_beforeOf_0 : List (Nat × Instr × Nat) := [(0, .iload_n 0, 1), (1, .bipush 17, 2), (3, .ishr, 1), (4, .ireturn, 1)]
set_option maxRecDepth 100000 in
theorem DX3_beforeOf_0 : dOK cX3_beforeOf LX3_beforeOf_0 := by unfold dOK; decide +kernel
def LX3_lengthTo_0 : List (Nat × Instr × Nat) := [(0, .iload_n 1, 1), (1, .invokestatic 57, 3), (4, .ifCond .eq 12, 3), (7, .aload_n 0, 1), (8, .getfield 24, 3), (11, .iload_n 1, 1), (12, .iaload, 1), (13, .goto 4, 3), (16, .iconst (-1), 1), (17, .ireturn, 1)]
set_option maxRecDepth 100000 in
theorem DX3_lengthTo_0 : dOK cX3_lengthTo LX3_lengthTo_0 := by unfold dOK; decide +kernel
def LX3_stepTo_0 : List (Nat × Instr × Nat) := [(0, .iload_n 1, 1), (1, .invokestatic 57, 3), (4, .ifCond .eq 17, 3), (7, .iload_n 2, 1), (8, .ifCond .lt 13, 3), (11, .iload_n 2, 1), (12, .aload_n 0, 1), (13, .getfield 24, 3), (16, .iload_n 1, 1), (17, .iaload, 1), (18, .if_icmp .lt 5, 3), (21, .iconst (-1), 1), (22, .ireturn, 1), (23, .aload_n 0, 1), (24, .aload_n 0, 1), (25, .getfield 21, 3), (28, .iload_n 1, 1), (29, .iaload, 1), (30, .invokevirtual 61, 3), (33, .istore_n 3, 1), (34, .aload_n 0, 1), (35, .getfield 24, 3), (38, .iload_n 1, 1), (39, .iaload, 1), (40, .iconst 1, 1), (41, .isub, 1), (42, .istore 4, 2), (44, .iload 4, 2), (46, .iload_n 2, 1), (47, .if_icmp .le 18, 3), (50, .aload_n 0, 1), (51, .iload_n 3, 1), (52, .invokestatic 64, 3), (55, .invokevirtual 61, 3), (58, .istore_n 3, 1), (59, .iinc 4 (-1), 3), (62, .goto (-18), 3), (65, .iload_n 3, 1), (66, .invokestatic 67, 3), (69, .ireturn, 1)]
set_option maxRecDepth 100000 in
theorem DX3_stepTo_0 : dOK cX3_stepTo LX3_stepTo_0 := by unfold dOK; decide +kernel
def LX3_entryAt_0 : List (Nat × Instr × Nat) := [(0, .iload_n 1, 1), (1, .ifCond .lt 19, 3), (4, .iload_n 1, 1), (5, .sipush 4624, 3), (8, .if_icmp .ge 12, 3), (11, .aload_n 0, 1), (12, .getfield 11, 3), (15, .iload_n 1, 1), (16, .iaload, 1), (17, .goto 4, 3), (20, .iconst 0, 1), (21, .ireturn, 1)]
set_option maxRecDepth 100000 in
theorem DX3_entryAt_0 : dOK cX3_entryAt LX3_entryAt_0 := by unfold dOK; decide +kernel
def LX3_mostLength_0 : List (Nat × Instr × Nat) := [(0, .iconst 0, 1), (1, .istore_n 1, 1), (2, .iconst 0, 1), (3, .istore_n 2, 1), (4, .iload_n 2, 1), (5, .bipush 16, 2), (7, .if_icmp .ge 20, 3), (10, .iload_n 1, 1), (11, .aload_n 0, 1), (12, .getfield 24, 3), (15, .iload_n 2, 1), (16, .iaload, 1), (17, .invokestatic 70, 3), (20, .istore_n 1, 1), (21, .iinc 2 1, 3), (24, .goto (-20), 3), (27, .iload_n 1, 1), (28, .ireturn, 1)]
set_option maxRecDepth 100000 in
theorem DX3_mostLength_0 : dOK cX3_mostLength LX3_mostLength_0 := by unfold dOK; decide +kernel
def LX3_sumOfLengths_0 : List (Nat × Instr × Nat) := [(0, .iconst 0, 1), (1, .istore_n 1, 1), (2, .iconst 0, 1), (3, .istore_n 2, 1), (4, .iload_n 2, 1), (5, .bipush 16, 2), (7, .if_icmp .ge 22, 3), (10, .iload_n 1, 1), (11, .iconst 0, 1), (12, .aload_n 0, 1), (13, .getfield 24, 3), (16, .iload_n 2, 1), (17, .iaload, 1), (18, .invokestatic 70, 3), (21, .iadd, 1), (22, .istore_n 1, 1), (23, .iinc 2 1, 3), (26, .goto (-22), 3), (29, .iload_n 1, 1), (30, .ireturn, 1)]
set_option maxRecDepth 100000 in
theorem DX3_sumOfLengths_0 : dOK cX3_sumOfLengths LX3_sumOfLengths_0 := by unfold dOK; decide +kernel
def LX4_init_0 : List (Nat × Instr × Nat) := [(0, .aload_n 0, 1), (1, .invokespecial 3, 3), (4, .aload_n 0, 1), (5, .bipush 60, 2), (7, .newarray .int, 2), (9, .putfield 9, 3), (12, .return_, 1)]
set_option maxRecDepth 100000 in
theorem DX4_init_0 : dOK cX4_init LX4_init_0 := by unfold dOK; decide +kernel
def LX4_add_0 : List (Nat × Instr × Nat) := [(0, .aload_n 0, 1), (1, .getfield 15, 3), (4, .ifCond .lt 32, 3), (7, .aload_n 0, 1), (8, .getfield 15, 3), (11, .bipush 60, 2), (13, .if_icmp .ge 23, 3), (16, .aload_n 0, 1), (17, .getfield 9, 3), (20, .aload_n 0, 1), (21, .getfield 15, 3), (24, .iload_n 1, 1), (25, .iastore, 1), (26, .aload_n 0, 1), (27, .dup, 1), (28, .getfield 15, 3), (31, .iconst 1, 1), (32, .iadd, 1), (33, .putfield 15, 3), (36, .return_, 1)]
set_option maxRecDepth 100000 in
theorem DX4_add_0 : dOK cX4_add LX4_add_0 := by unfold dOK; decide +kernel
def LX4_codeAt_0 : List (Nat × Instr × Nat) := [(0, .iload_n 1, 1), (1, .ifCond .lt 18, 3), (4, .iload_n 1, 1), (5, .bipush 60, 2), (7, .if_icmp .ge 12, 3), (10, .aload_n 0, 1), (11, .getfield 9, 3), (14, .iload_n 1, 1), (15, .iaload, 1), (16, .goto 4, 3), (19, .iconst 0, 1), (20, .ireturn, 1)]
set_option maxRecDepth 100000 in
theorem DX4_codeAt_0 : dOK cX4_codeAt LX4_codeAt_0 := by unfold dOK; decide +kernel
def LX4_readInto_0 : List (Nat × Instr × Nat) := [(0, .aload_n 0, 1), (1, .iconst 0, 1), (2, .putfield 19, 3), (5, .aload_n 0, 1), (6, .iconst 0, 1), (7, .putfield 22, 3), (10, .iconst 0, 1), (11, .istore_n 2, 1), (12, .iload_n 2, 1), (13, .aload_n 0, 1), (14, .getfield 15, 3), (17, .if_icmp .ge 24, 3), (20, .aload_n 0, 1), (21, .aload_n 0, 1), (22, .iload_n 2, 1), (23, .invokevirtual 25, 3), (26, .aload_n 1, 1), (27, .invokevirtual 29, 3), (30, .ifCond .ne 5, 3), (33, .iload_n 2, 1), (34, .ireturn, 1), (35, .iinc 2 1, 3), (38, .goto (-26), 3), (41, .aload_n 0, 1), (42, .getfield 15, 3), (45, .ireturn, 1)]
set_option maxRecDepth 100000 in
theorem DX4_readInto_0 : dOK cX4_readInto LX4_readInto_0 := by unfold dOK; decide +kernel
def LX4_take_0 : List (Nat × Instr × Nat) := [(0, .iload_n 1, 1), (1, .bipush 46, 2), (3, .if_icmp .eq 15, 3), (6, .iload_n 1, 1), (7, .bipush 49, 2), (9, .if_icmp .lt 29, 3), (12, .iload_n 1, 1), (13, .bipush 53, 2), (15, .if_icmp .gt 23, 3), (18, .aload_n 0, 1), (19, .iload_n 1, 1), (20, .bipush 46, 2), (22, .if_icmp .ne 7, 3), (25, .iconst 0, 1), (26, .goto 7, 3), (29, .iload_n 1, 1), (30, .bipush 48, 2), (32, .isub, 1), (33, .aload_n 2, 1), (34, .invokevirtual 33, 3), (37, .ireturn, 1), (38, .iload_n 1, 1), (39, .bipush 124, 2), (41, .if_icmp .ne 9, 3), (44, .aload_n 0, 1), (45, .aload_n 2, 1), (46, .invokevirtual 36, 3), (49, .ireturn, 1), (50, .iload_n 1, 1), (51, .bipush 97, 2), (53, .if_icmp .lt 27, 3), (56, .iload_n 1, 1), (57, .bipush 101, 2), (59, .if_icmp .gt 21, 3), (62, .aload_n 0, 1), (63, .iload_n 1, 1), (64, .bipush 97, 2), (66, .isub, 1), (67, .iconst 1, 1), (68, .iadd, 1)]
set_option maxRecDepth 100000 in
theorem DX4_take_0 : dOK cX4_take LX4_take_0 := by unfold dOK; decide +kernel
def LX4_take_1 : List (Nat × Instr × Nat) := [(69, .aload_n 2, 1), (70, .invokevirtual 40, 3), (73, .ifCond .eq 7, 3), (76, .iconst 1, 1), (77, .goto 4, 3), (80, .iconst 0, 1), (81, .ireturn, 1)]
set_option maxRecDepth 100000 in
theorem DX4_take_1 : dOK cX4_take LX4_take_1 := by unfold dOK; decide +kernel
def LX4_takeKey_0 : List (Nat × Instr × Nat) := [(0, .aload_n 0, 1), (1, .getfield 19, 3), (4, .bipush 16, 2), (6, .if_icmp .ge 15, 3), (9, .iload_n 1, 1), (10, .ifCond .eq 13, 3), (13, .aload_n 2, 1), (14, .invokevirtual 43, 3), (17, .iconst 2, 1), (18, .if_icmp .lt 5, 3), (21, .iconst 0, 1), (22, .ireturn, 1), (23, .aload_n 2, 1), (24, .aload_n 0, 1), (25, .getfield 19, 3), (28, .iload_n 1, 1), (29, .invokevirtual 49, 3), (32, .aload_n 0, 1), (33, .dup, 1), (34, .getfield 19, 3), (37, .iconst 1, 1), (38, .iadd, 1), (39, .putfield 19, 3), (42, .aload_n 0, 1), (43, .iconst 1, 1), (44, .putfield 22, 3), (47, .iconst 1, 1), (48, .ireturn, 1)]
set_option maxRecDepth 100000 in
theorem DX4_takeKey_0 : dOK cX4_takeKey LX4_takeKey_0 := by unfold dOK; decide +kernel
def LX4_takeLadder_0 : List (Nat × Instr × Nat) := [(0, .aload_n 0, 1), (1, .getfield 22, 3), (4, .iconst 1, 1), (5, .if_icmp .eq 5, 3), (8, .iconst 0, 1), (9, .ireturn, 1), (10, .aload_n 1, 1), (11, .aload_n 0, 1), (12, .getfield 19, 3), (15, .iconst 1, 1), (16, .isub, 1), (17, .iconst 1, 1), (18, .invokevirtual 53, 3), (21, .aload_n 0, 1), (22, .iconst 2, 1), (23, .putfield 22, 3), (26, .iconst 1, 1), (27, .ireturn, 1)]
set_option maxRecDepth 100000 in
theorem DX4_takeLadder_0 : dOK cX4_takeLadder LX4_takeLadder_0 := by unfold dOK; decide +kernel
def LX4_takeDoor_0 : List (Nat × Instr × Nat) := [(0, .aload_n 0, 1), (1, .getfield 22, 3), (4, .iconst 1, 1), (5, .if_icmp .eq 11, 3), (8, .aload_n 0, 1), (9, .getfield 22, 3), (12, .iconst 2, 1), (13, .if_icmp .ne 12, 3), (16, .aload_n 0, 1), (17, .getfield 19, 3), (20, .bipush 16, 2), (22, .if_icmp .lt 5, 3), (25, .iconst 0, 1), (26, .ireturn, 1), (27, .aload_n 2, 1), (28, .aload_n 0, 1), (29, .getfield 19, 3), (32, .iconst 1, 1), (33, .isub, 1), (34, .iload_n 1, 1), (35, .invokevirtual 56, 3), (38, .aload_n 0, 1), (39, .iconst 3, 1), (40, .putfield 22, 3), (43, .iconst 1, 1), (44, .ireturn, 1)]
set_option maxRecDepth 100000 in
theorem DX4_takeDoor_0 : dOK cX4_takeDoor LX4_takeDoor_0 := by unfold dOK; decide +kernel
def LX5_init_0 : List (Nat × Instr × Nat) := [(0, .aload_n 0, 1), (1, .invokespecial 1, 3), (4, .aload_n 0, 1), (5, .new 7, 3), (8, .dup, 1), (9, .invokespecial 9, 3), (12, .putfield 10, 3), (15, .aload_n 0, 1), (16, .new 7, 3), (19, .dup, 1), (20, .invokespecial 9, 3), (23, .putfield 16, 3), (26, .aload_n 0, 1), (27, .new 19, 3), (30, .dup, 1), (31, .invokespecial 21, 3), (34, .putfield 22, 3), (37, .aload_n 0, 1), (38, .new 26, 3), (41, .dup, 1), (42, .invokespecial 28, 3), (45, .putfield 29, 3), (48, .aload_n 0, 1), (49, .new 33, 3), (52, .dup, 1), (53, .invokespecial 35, 3), (56, .putfield 36, 3), (59, .return_, 1)]
set_option maxRecDepth 100000 in
theorem DX5_init_0 : dOK cX5_init LX5_init_0 := by unfold dOK; decide +kernel
def LX5_door_0 : List (Nat × Instr × Nat) := [(0, .iload_n 1, 1), (1, .invokestatic 40, 3), (4, .ifCond .ne 13, 3), (7, .new 44, 3), (10, .dup, 1), (11, .ldc 46, 2), (13, .invokespecial 48, 3), (16, .athrow, 1), (17, .iload_n 2, 1), (18, .invokestatic 51, 3), (21, .ifCond .ne 13, 3), (24, .new 54, 3), (27, .dup, 1), (28, .ldc 56, 2), (30, .invokespecial 58, 3), (33, .athrow, 1), (34, .aload_n 0, 1), (35, .getfield 22, 3), (38, .aload_n 0, 1), (39, .getfield 10, 3), (42, .invokevirtual 59, 3), (45, .aload_n 0, 1), (46, .getfield 10, 3), (49, .iload_n 1, 1), (50, .invokevirtual 63, 3), (53, .istore_n 3, 1), (54, .aload_n 0, 1), (55, .getfield 10, 3), (58, .iload_n 1, 1), (59, .iload_n 2, 1), (60, .invokevirtual 67, 3), (63, .iload_n 3, 1), (64, .ireturn, 1)]
set_option maxRecDepth 100000 in
theorem DX5_door_0 : dOK cX5_door LX5_door_0 := by unfold dOK; decide +kernel
def LX5_key_0 : List (Nat × Instr × Nat) := [(0, .iload_n 1, 1), (1, .invokestatic 71, 3), (4, .ifCond .ne 13, 3), (7, .new 44, 3), (10, .dup, 1), (11, .ldc 74, 2), (13, .invokespecial 48, 3), (16, .athrow, 1), (17, .iload_n 2, 1), (18, .invokestatic 51, 3), (21, .ifCond .ne 13, 3), (24, .new 54, 3), (27, .dup, 1), (28, .ldc 76, 2), (30, .invokespecial 58, 3), (33, .athrow, 1), (34, .aload_n 0, 1), (35, .getfield 10, 3), (38, .aload_n 0, 1), (39, .getfield 10, 3), (42, .getfield 78, 3), (45, .iload_n 1, 1), (46, .invokevirtual 82, 3), (49, .istore_n 3, 1), (50, .iload_n 2, 1), (51, .ifCond .eq 28, 3), (54, .iload_n 3, 1), (55, .ifCond .ne 24, 3), (58, .aload_n 0, 1), (59, .getfield 10, 3), (62, .invokevirtual 86, 3), (65, .iconst 2, 1), (66, .if_icmp .lt 13, 3), (69, .new 90, 3), (72, .dup, 1), (73, .ldc 92, 2), (75, .invokespecial 94, 3), (78, .athrow, 1), (79, .aload_n 0, 1), (80, .getfield 22, 3)]
set_option maxRecDepth 100000 in
theorem DX5_key_0 : dOK cX5_key LX5_key_0 := by unfold dOK; decide +kernel
def LX5_key_1 : List (Nat × Instr × Nat) := [(83, .aload_n 0, 1), (84, .getfield 10, 3), (87, .invokevirtual 59, 3), (90, .aload_n 0, 1), (91, .getfield 10, 3), (94, .iload_n 1, 1), (95, .iload_n 2, 1), (96, .invokevirtual 95, 3), (99, .iload_n 3, 1), (100, .ireturn, 1)]
set_option maxRecDepth 100000 in
theorem DX5_key_1 : dOK cX5_key LX5_key_1 := by unfold dOK; decide +kernel
def LX5_ladder_0 : List (Nat × Instr × Nat) := [(0, .iload_n 1, 1), (1, .invokestatic 71, 3), (4, .ifCond .ne 13, 3), (7, .new 44, 3), (10, .dup, 1), (11, .ldc 74, 2), (13, .invokespecial 48, 3), (16, .athrow, 1), (17, .aload_n 0, 1), (18, .getfield 22, 3), (21, .aload_n 0, 1), (22, .getfield 10, 3), (25, .invokevirtual 59, 3), (28, .aload_n 0, 1), (29, .getfield 10, 3), (32, .iload_n 1, 1), (33, .invokevirtual 98, 3), (36, .istore_n 3, 1), (37, .aload_n 0, 1), (38, .getfield 10, 3), (41, .iload_n 1, 1), (42, .iload_n 2, 1), (43, .ifCond .eq 7, 3), (46, .iconst 1, 1), (47, .goto 4, 3), (50, .iconst 0, 1), (51, .invokevirtual 101, 3), (54, .iload_n 3, 1), (55, .ireturn, 1)]
set_option maxRecDepth 100000 in
theorem DX5_ladder_0 : dOK cX5_ladder LX5_ladder_0 := by unfold dOK; decide +kernel
def LX5_fold_0 : List (Nat × Instr × Nat) := [(0, .iload_n 1, 1), (1, .iconst 2, 1), (2, .if_icmp .lt 9, 3), (5, .iload_n 1, 1), (6, .bipush 8, 2), (8, .if_icmp .le 13, 3), (11, .new 54, 3), (14, .dup, 1), (15, .ldc 104, 2), (17, .invokespecial 58, 3), (20, .athrow, 1), (21, .aload_n 0, 1), (22, .getfield 22, 3), (25, .aload_n 0, 1), (26, .getfield 10, 3), (29, .invokevirtual 59, 3), (32, .aload_n 0, 1), (33, .getfield 10, 3), (36, .getfield 106, 3), (39, .istore_n 2, 1), (40, .aload_n 0, 1), (41, .getfield 10, 3), (44, .iload_n 1, 1), (45, .putfield 106, 3), (48, .iload_n 2, 1), (49, .ireturn, 1)]
set_option maxRecDepth 100000 in
theorem DX5_fold_0 : dOK cX5_fold LX5_fold_0 := by unfold dOK; decide +kernel
def LX5_stand_0 : List (Nat × Instr × Nat) := [(0, .iload_n 1, 1), (1, .invokestatic 71, 3), (4, .ifCond .ne 13, 3), (7, .new 44, 3), (10, .dup, 1), (11, .ldc 74, 2), (13, .invokespecial 48, 3), (16, .athrow, 1), (17, .aload_n 0, 1), (18, .getfield 22, 3), (21, .aload_n 0, 1), (22, .getfield 10, 3), (25, .invokevirtual 59, 3), (28, .aload_n 0, 1), (29, .getfield 10, 3), (32, .getfield 78, 3), (35, .invokestatic 109, 3), (38, .istore_n 2, 1), (39, .aload_n 0, 1), (40, .getfield 10, 3), (43, .aload_n 0, 1), (44, .getfield 10, 3), (47, .getfield 78, 3), (50, .iload_n 1, 1), (51, .invokestatic 114, 3), (54, .putfield 78, 3), (57, .iload_n 2, 1), (58, .ireturn, 1)]
set_option maxRecDepth 100000 in
theorem DX5_stand_0 : dOK cX5_stand LX5_stand_0 := by unfold dOK; decide +kernel
def LX5_step_0 : List (Nat × Instr × Nat) := [(0, .iload_n 1, 1), (1, .invokestatic 117, 3), (4, .ifCond .ne 13, 3), (7, .new 54, 3), (10, .dup, 1), (11, .ldc 120, 2), (13, .invokespecial 58, 3), (16, .athrow, 1), (17, .aload_n 0, 1), (18, .getfield 10, 3), (21, .iload_n 1, 1), (22, .invokevirtual 122, 3), (25, .ifCond .eq 13, 3), (28, .new 90, 3), (31, .dup, 1), (32, .ldc 125, 2), (34, .invokespecial 94, 3), (37, .athrow, 1), (38, .aload_n 0, 1), (39, .getfield 22, 3), (42, .aload_n 0, 1), (43, .getfield 10, 3), (46, .invokevirtual 59, 3), (49, .aload_n 0, 1), (50, .getfield 10, 3), (53, .iload_n 1, 1), (54, .invokevirtual 127, 3), (57, .aload_n 0, 1), (58, .getfield 10, 3), (61, .getfield 78, 3), (64, .invokestatic 109, 3), (67, .ireturn, 1)]
set_option maxRecDepth 100000 in
theorem DX5_step_0 : dOK cX5_step LX5_step_0 := by unfold dOK; decide +kernel
def LX5_walk_0 : List (Nat × Instr × Nat) := [(0, .iload_n 1, 1), (1, .invokestatic 71, 3), (4, .ifCond .ne 13, 3), (7, .new 44, 3), (10, .dup, 1), (11, .ldc 74, 2), (13, .invokespecial 48, 3), (16, .athrow, 1), (17, .aload_n 0, 1), (18, .getfield 29, 3), (21, .aload_n 0, 1), (22, .getfield 10, 3), (25, .invokevirtual 131, 3), (28, .aload_n 0, 1), (29, .getfield 29, 3), (32, .iload_n 1, 1), (33, .invokevirtual 134, 3), (36, .istore_n 2, 1), (37, .iload_n 2, 1), (38, .iconst (-1), 1), (39, .if_icmp .ne 13, 3), (42, .new 90, 3), (45, .dup, 1), (46, .ldc 137, 2), (48, .invokespecial 94, 3), (51, .athrow, 1), (52, .aload_n 0, 1), (53, .getfield 22, 3), (56, .aload_n 0, 1), (57, .getfield 10, 3), (60, .invokevirtual 59, 3), (63, .iconst 0, 1), (64, .istore_n 3, 1), (65, .iload_n 3, 1), (66, .iload_n 2, 1), (67, .if_icmp .ge 25, 3), (70, .aload_n 0, 1), (71, .getfield 10, 3), (74, .aload_n 0, 1), (75, .getfield 29, 3)]
set_option maxRecDepth 100000 in
theorem DX5_walk_0 : dOK cX5_walk LX5_walk_0 := by unfold dOK; decide +kernel
def LX5_walk_1 : List (Nat × Instr × Nat) := [(78, .iload_n 1, 1), (79, .iload_n 3, 1), (80, .invokevirtual 139, 3), (83, .invokevirtual 127, 3), (86, .iinc 3 1, 3), (89, .goto (-24), 3), (92, .iload_n 2, 1), (93, .ireturn, 1)]
set_option maxRecDepth 100000 in
theorem DX5_walk_1 : dOK cX5_walk LX5_walk_1 := by unfold dOK; decide +kernel
def LX5_append_0 : List (Nat × Instr × Nat) := [(0, .iload_n 1, 1), (1, .bipush 33, 2), (3, .if_icmp .lt 9, 3), (6, .iload_n 1, 1), (7, .bipush 126, 2), (9, .if_icmp .le 13, 3), (12, .new 54, 3), (15, .dup, 1), (16, .ldc 142, 2), (18, .invokespecial 58, 3), (21, .athrow, 1), (22, .aload_n 0, 1), (23, .getfield 36, 3), (26, .getfield 144, 3), (29, .bipush 60, 2), (31, .if_icmp .lt 13, 3), (34, .new 90, 3), (37, .dup, 1), (38, .ldc 145, 2), (40, .invokespecial 94, 3), (43, .athrow, 1), (44, .aload_n 0, 1), (45, .getfield 36, 3), (48, .iload_n 1, 1), (49, .invokevirtual 147, 3), (52, .aload_n 0, 1), (53, .getfield 36, 3), (56, .getfield 144, 3), (59, .ireturn, 1)]
set_option maxRecDepth 100000 in
theorem DX5_append_0 : dOK cX5_append LX5_append_0 := by unfold dOK; decide +kernel
def LX5_clearBuffer_0 : List (Nat × Instr × Nat) := [(0, .aload_n 0, 1), (1, .getfield 36, 3), (4, .getfield 144, 3), (7, .istore_n 1, 1), (8, .aload_n 0, 1), (9, .getfield 36, 3), (12, .iconst 0, 1), (13, .putfield 144, 3), (16, .iload_n 1, 1), (17, .ireturn, 1)]
set_option maxRecDepth 100000 in
theorem DX5_clearBuffer_0 : dOK cX5_clearBuffer LX5_clearBuffer_0 := by unfold dOK; decide +kernel
def LX5_firstError_0 : List (Nat × Instr × Nat) := [(0, .aload_n 0, 1), (1, .invokevirtual 150, 3), (4, .ireturn, 1)]
set_option maxRecDepth 100000 in
theorem DX5_firstError_0 : dOK cX5_firstError LX5_firstError_0 := by unfold dOK; decide +kernel
def LX5_corridor_0 : List (Nat × Instr × Nat) := [(0, .aload_n 0, 1), (1, .invokevirtual 150, 3), (4, .aload_n 0, 1), (5, .getfield 36, 3), (8, .getfield 144, 3), (11, .if_icmp .lt 15, 3), (14, .aload_n 0, 1), (15, .getfield 36, 3), (18, .getfield 153, 3), (21, .bipush 16, 2), (23, .if_icmp .ge 13, 3), (26, .new 54, 3), (29, .dup, 1), (30, .ldc 156, 2), (32, .invokespecial 58, 3), (35, .athrow, 1), (36, .aload_n 0, 1), (37, .getfield 22, 3), (40, .aload_n 0, 1), (41, .getfield 10, 3), (44, .invokevirtual 59, 3), (47, .aload_n 0, 1), (48, .getfield 10, 3), (51, .aload_n 0, 1), (52, .getfield 16, 3), (55, .invokevirtual 158, 3), (58, .aload_n 0, 1), (59, .getfield 36, 3), (62, .iconst 0, 1), (63, .putfield 144, 3), (66, .aload_n 0, 1), (67, .getfield 10, 3), (70, .invokevirtual 86, 3), (73, .ireturn, 1)]
set_option maxRecDepth 100000 in
theorem DX5_corridor_0 : dOK cX5_corridor LX5_corridor_0 := by unfold dOK; decide +kernel
def LX5_undo_0 : List (Nat × Instr × Nat) := [(0, .aload_n 0, 1), (1, .getfield 22, 3), (4, .getfield 161, 3), (7, .ifCond .ne 13, 3), (10, .new 90, 3), (13, .dup, 1), (14, .ldc 164, 2), (16, .invokespecial 94, 3), (19, .athrow, 1), (20, .aload_n 0, 1), (21, .getfield 22, 3), (24, .aload_n 0, 1), (25, .getfield 10, 3), (28, .invokevirtual 166, 3), (31, .aload_n 0, 1), (32, .getfield 22, 3), (35, .getfield 161, 3), (38, .ireturn, 1)]
set_option maxRecDepth 100000 in
theorem DX5_undo_0 : dOK cX5_undo LX5_undo_0 := by unfold dOK; decide +kernel
def LX5_cell_0 : List (Nat × Instr × Nat) := [(0, .iload_n 1, 1), (1, .invokestatic 71, 3), (4, .ifCond .ne 13, 3), (7, .new 44, 3), (10, .dup, 1), (11, .ldc 74, 2), (13, .invokespecial 48, 3), (16, .athrow, 1), (17, .iload_n 2, 1), (18, .ifCond .lt 9, 3), (21, .iload_n 2, 1), (22, .bipush 6, 2), (24, .if_icmp .le 13, 3), (27, .new 54, 3), (30, .dup, 1), (31, .ldc 169, 2), (33, .invokespecial 58, 3), (36, .athrow, 1), (37, .iload_n 2, 1), (38, .bipush 6, 2), (40, .if_icmp .ne 14, 3), (43, .aload_n 0, 1), (44, .getfield 29, 3), (47, .aload_n 0, 1), (48, .getfield 10, 3), (51, .invokevirtual 131, 3), (54, .aload_n 0, 1), (55, .iload_n 1, 1), (56, .iload_n 2, 1), (57, .invokevirtual 171, 3), (60, .ireturn, 1)]
set_option maxRecDepth 100000 in
theorem DX5_cell_0 : dOK cX5_cell LX5_cell_0 := by unfold dOK; decide +kernel
def LX5_walker_0 : List (Nat × Instr × Nat) := [(0, .iload_n 1, 1), (1, .ifCond .lt 8, 3), (4, .iload_n 1, 1), (5, .iconst 4, 1), (6, .if_icmp .le 13, 3), (9, .new 54, 3), (12, .dup, 1), (13, .ldc 174, 2), (15, .invokespecial 58, 3), (18, .athrow, 1), (19, .aload_n 0, 1), (20, .iload_n 1, 1), (21, .invokevirtual 176, 3), (24, .ireturn, 1)]
set_option maxRecDepth 100000 in
theorem DX5_walker_0 : dOK cX5_walker LX5_walker_0 := by unfold dOK; decide +kernel
def LX5_plan_0 : List (Nat × Instr × Nat) := [(0, .iload_n 1, 1), (1, .invokestatic 71, 3), (4, .ifCond .ne 13, 3), (7, .new 44, 3), (10, .dup, 1), (11, .ldc 74, 2), (13, .invokespecial 48, 3), (16, .athrow, 1), (17, .iload_n 2, 1), (18, .ifCond .ge 13, 3), (21, .new 54, 3), (24, .dup, 1), (25, .ldc 179, 2), (27, .invokespecial 58, 3), (30, .athrow, 1), (31, .aload_n 0, 1), (32, .getfield 29, 3), (35, .aload_n 0, 1), (36, .getfield 10, 3), (39, .invokevirtual 131, 3), (42, .aload_n 0, 1), (43, .getfield 29, 3), (46, .iload_n 1, 1), (47, .iload_n 2, 1), (48, .invokevirtual 139, 3), (51, .ireturn, 1)]
set_option maxRecDepth 100000 in
theorem DX5_plan_0 : dOK cX5_plan LX5_plan_0 := by unfold dOK; decide +kernel
def LX5_count_0 : List (Nat × Instr × Nat) := [(0, .iload_n 1, 1), (1, .ifCond .lt 9, 3), (4, .iload_n 1, 1), (5, .bipush 6, 2), (7, .if_icmp .le 13, 3), (10, .new 54, 3), (13, .dup, 1), (14, .ldc 169, 2), (16, .invokespecial 58, 3), (19, .athrow, 1), (20, .iload_n 1, 1), (21, .iconst 3, 1), (22, .if_icmp .eq 8, 3), (25, .iload_n 1, 1), (26, .iconst 4, 1), (27, .if_icmp .ne 14, 3), (30, .aload_n 0, 1), (31, .getfield 29, 3), (34, .aload_n 0, 1), (35, .getfield 10, 3), (38, .invokevirtual 131, 3), (41, .aload_n 0, 1), (42, .iload_n 1, 1), (43, .invokevirtual 181, 3), (46, .ireturn, 1)]
set_option maxRecDepth 100000 in
theorem DX5_count_0 : dOK cX5_count LX5_count_0 := by unfold dOK; decide +kernel
def LX5_refusal_0 : List (Nat × Instr × Nat) := [(0, .iload_n 1, 1), (1, .invokestatic 117, 3), (4, .ifCond .ne 13, 3), (7, .new 54, 3), (10, .dup, 1), (11, .ldc 120, 2), (13, .invokespecial 58, 3), (16, .athrow, 1), (17, .aload_n 0, 1), (18, .getfield 10, 3), (21, .iload_n 1, 1), (22, .invokevirtual 122, 3), (25, .ireturn, 1)]
set_option maxRecDepth 100000 in
theorem DX5_refusal_0 : dOK cX5_refusal LX5_refusal_0 := by unfold dOK; decide +kernel
def LX5_ifDoor_0 : List (Nat × Instr × Nat) := [(0, .iload_n 1, 1), (1, .invokestatic 40, 3), (4, .ifCond .ne 13, 3), (7, .new 44, 3), (10, .dup, 1), (11, .ldc 46, 2), (13, .invokespecial 48, 3), (16, .athrow, 1), (17, .iload_n 2, 1), (18, .invokestatic 51, 3), (21, .ifCond .ne 13, 3), (24, .new 54, 3), (27, .dup, 1), (28, .ldc 56, 2), (30, .invokespecial 58, 3), (33, .athrow, 1), (34, .aload_n 0, 1), (35, .iload_n 1, 1), (36, .iload_n 2, 1), (37, .invokevirtual 184, 3), (40, .ireturn, 1)]
set_option maxRecDepth 100000 in
theorem DX5_ifDoor_0 : dOK cX5_ifDoor LX5_ifDoor_0 := by unfold dOK; decide +kernel
def LX5_without_0 : List (Nat × Instr × Nat) := [(0, .iload_n 1, 1), (1, .invokestatic 71, 3), (4, .ifCond .ne 13, 3), (7, .new 44, 3), (10, .dup, 1), (11, .ldc 74, 2), (13, .invokespecial 48, 3), (16, .athrow, 1), (17, .aload_n 0, 1), (18, .iload_n 1, 1), (19, .invokevirtual 187, 3), (22, .ireturn, 1)]
set_option maxRecDepth 100000 in
theorem DX5_without_0 : dOK cX5_without LX5_without_0 := by unfold dOK; decide +kernel
def LX5_bestFold_0 : List (Nat × Instr × Nat) := [(0, .iconst 2, 1), (1, .istore_n 1, 1), (2, .iconst 0, 1), (3, .istore_n 2, 1), (4, .iconst 0, 1), (5, .istore_n 3, 1), (6, .aload_n 0, 1), (7, .getfield 16, 3), (10, .aload_n 0, 1), (11, .getfield 10, 3), (14, .invokevirtual 158, 3), (17, .iconst 2, 1), (18, .istore 4, 2), (20, .iload 4, 2), (22, .bipush 8, 2), (24, .if_icmp .gt 80, 3), (27, .aload_n 0, 1), (28, .getfield 16, 3), (31, .iload 4, 2), (33, .putfield 106, 3), (36, .aload_n 0, 1), (37, .getfield 29, 3), (40, .aload_n 0, 1), (41, .getfield 16, 3), (44, .invokevirtual 131, 3), (47, .aload_n 0, 1), (48, .getfield 29, 3), (51, .invokevirtual 190, 3), (54, .istore 5, 2), (56, .aload_n 0, 1), (57, .getfield 29, 3), (60, .getfield 193, 3), (63, .iload_n 2, 1), (64, .if_icmp .gt 20, 3), (67, .aload_n 0, 1), (68, .getfield 29, 3), (71, .getfield 193, 3), (74, .iload_n 2, 1), (75, .if_icmp .ne 23, 3), (78, .iload 5, 2)]
set_option maxRecDepth 100000 in
theorem DX5_bestFold_0 : dOK cX5_bestFold LX5_bestFold_0 := by unfold dOK; decide +kernel
def LX5_bestFold_1 : List (Nat × Instr × Nat) := [(80, .iload_n 3, 1), (81, .if_icmp .ge 17, 3), (84, .iload 4, 2), (86, .istore_n 1, 1), (87, .aload_n 0, 1), (88, .getfield 29, 3), (91, .getfield 193, 3), (94, .istore_n 2, 1), (95, .iload 5, 2), (97, .istore_n 3, 1), (98, .iinc 4 1, 3), (101, .goto (-81), 3), (104, .iload_n 1, 1), (105, .ireturn, 1)]
set_option maxRecDepth 100000 in
theorem DX5_bestFold_1 : dOK cX5_bestFold LX5_bestFold_1 := by unfold dOK; decide +kernel
def LX5_reached_0 : List (Nat × Instr × Nat) := [(0, .aload_n 0, 1), (1, .getfield 29, 3), (4, .aload_n 0, 1), (5, .getfield 10, 3), (8, .invokevirtual 131, 3), (11, .aload_n 0, 1), (12, .getfield 29, 3), (15, .getfield 193, 3), (18, .i2d, 1), (19, .ldc2_w 196, 3), (22, .ddiv, 1), (23, .dreturn, 1)]
set_option maxRecDepth 100000 in
theorem DX5_reached_0 : dOK cX5_reached LX5_reached_0 := by unfold dOK; decide +kernel
def LX5_digest_0 : List (Nat × Instr × Nat) := [(0, .aload_n 0, 1), (1, .getfield 29, 3), (4, .aload_n 0, 1), (5, .getfield 10, 3), (8, .invokevirtual 131, 3), (11, .aload_n 0, 1), (12, .getfield 29, 3), (15, .getfield 193, 3), (18, .istore_n 1, 1), (19, .aload_n 0, 1), (20, .ldc2_w 198, 3), (23, .invokevirtual 200, 3), (26, .lstore_n 2, 1), (27, .lload_n 2, 1), (28, .aload_n 0, 1), (29, .iconst 0, 1), (30, .invokevirtual 187, 3), (33, .i2l, 1), (34, .invokestatic 204, 3), (37, .lstore_n 2, 1), (38, .lload_n 2, 1), (39, .aload_n 0, 1), (40, .bipush 7, 2), (42, .iconst 3, 1), (43, .invokevirtual 184, 3), (46, .i2l, 1), (47, .invokestatic 204, 3), (50, .lstore_n 2, 1), (51, .lload_n 2, 1), (52, .iload_n 1, 1), (53, .invokestatic 208, 3), (56, .invokestatic 204, 3), (59, .lstore_n 2, 1), (60, .lload_n 2, 1), (61, .aload_n 0, 1), (62, .getfield 36, 3), (65, .getfield 144, 3), (68, .i2l, 1), (69, .invokestatic 204, 3), (72, .lstore_n 2, 1)]
set_option maxRecDepth 100000 in
theorem DX5_digest_0 : dOK cX5_digest LX5_digest_0 := by unfold dOK; decide +kernel
def LX5_digest_1 : List (Nat × Instr × Nat) := [(73, .iconst 0, 1), (74, .istore 4, 2), (76, .iload 4, 2), (78, .aload_n 0, 1), (79, .getfield 36, 3), (82, .getfield 144, 3), (85, .if_icmp .ge 24, 3), (88, .lload_n 2, 1), (89, .aload_n 0, 1), (90, .getfield 36, 3), (93, .iload 4, 2), (95, .invokevirtual 212, 3), (98, .i2l, 1), (99, .invokestatic 204, 3), (102, .lstore_n 2, 1), (103, .iinc 4 1, 3), (106, .goto (-30), 3), (109, .lload_n 2, 1), (110, .lreturn, 1)]
set_option maxRecDepth 100000 in
theorem DX5_digest_1 : dOK cX5_digest LX5_digest_1 := by unfold dOK; decide +kernel
def LX5_isCell_0 : List (Nat × Instr × Nat) := [(0, .iload_n 0, 1), (1, .ifCond .lt 13, 3), (4, .iload_n 0, 1), (5, .bipush 16, 2), (7, .if_icmp .ge 7, 3), (10, .iconst 1, 1), (11, .goto 4, 3), (14, .iconst 0, 1), (15, .ireturn, 1)]
set_option maxRecDepth 100000 in
theorem DX5_isCell_0 : dOK cX5_isCell LX5_isCell_0 := by unfold dOK; decide +kernel
def LX5_isDoor_0 : List (Nat × Instr × Nat) := [(0, .iload_n 0, 1), (1, .ifCond .lt 13, 3), (4, .iload_n 0, 1), (5, .bipush 15, 2), (7, .if_icmp .ge 7, 3), (10, .iconst 1, 1), (11, .goto 4, 3), (14, .iconst 0, 1), (15, .ireturn, 1)]
set_option maxRecDepth 100000 in
theorem DX5_isDoor_0 : dOK cX5_isDoor LX5_isDoor_0 := by unfold dOK; decide +kernel
def LX5_isBow_0 : List (Nat × Instr × Nat) := [(0, .iload_n 0, 1), (1, .ifCond .lt 12, 3), (4, .iload_n 0, 1), (5, .iconst 5, 1), (6, .if_icmp .gt 7, 3), (9, .iconst 1, 1), (10, .goto 4, 3), (13, .iconst 0, 1), (14, .ireturn, 1)]
set_option maxRecDepth 100000 in
theorem DX5_isBow_0 : dOK cX5_isBow LX5_isBow_0 := by unfold dOK; decide +kernel
def LX5_isStep_0 : List (Nat × Instr × Nat) := [(0, .iload_n 0, 1), (1, .ifCond .lt 12, 3), (4, .iload_n 0, 1), (5, .iconst 5, 1), (6, .if_icmp .ge 7, 3), (9, .iconst 1, 1), (10, .goto 4, 3), (13, .iconst 0, 1), (14, .ireturn, 1)]
set_option maxRecDepth 100000 in
theorem DX5_isStep_0 : dOK cX5_isStep LX5_isStep_0 := by unfold dOK; decide +kernel
def LX5_mix_0 : List (Nat × Instr × Nat) := [(0, .ldc2_w 215, 3), (3, .lload_n 0, 1), (4, .lmul, 1), (5, .lload_n 2, 1), (6, .ladd, 1), (7, .lreturn, 1)]
set_option maxRecDepth 100000 in
theorem DX5_mix_0 : dOK cX5_mix LX5_mix_0 := by unfold dOK; decide +kernel
def LX5_readText_0 : List (Nat × Instr × Nat) := [(0, .aload_n 0, 1), (1, .getfield 16, 3), (4, .aload_n 0, 1), (5, .getfield 10, 3), (8, .invokevirtual 158, 3), (11, .aload_n 0, 1), (12, .getfield 16, 3), (15, .invokevirtual 217, 3), (18, .aload_n 0, 1), (19, .getfield 36, 3), (22, .aload_n 0, 1), (23, .getfield 16, 3), (26, .invokevirtual 220, 3), (29, .ireturn, 1)]
set_option maxRecDepth 100000 in
theorem DX5_readText_0 : dOK cX5_readText LX5_readText_0 := by unfold dOK; decide +kernel
def LX5_reachedWithDoor_0 : List (Nat × Instr × Nat) := [(0, .aload_n 0, 1), (1, .getfield 16, 3), (4, .aload_n 0, 1), (5, .getfield 10, 3), (8, .invokevirtual 158, 3), (11, .aload_n 0, 1), (12, .getfield 16, 3), (15, .iload_n 1, 1), (16, .iload_n 2, 1), (17, .invokevirtual 67, 3), (20, .aload_n 0, 1), (21, .getfield 29, 3), (24, .aload_n 0, 1), (25, .getfield 16, 3), (28, .invokevirtual 131, 3), (31, .aload_n 0, 1), (32, .getfield 29, 3), (35, .getfield 193, 3), (38, .ireturn, 1)]
set_option maxRecDepth 100000 in
theorem DX5_reachedWithDoor_0 : dOK cX5_reachedWithDoor LX5_reachedWithDoor_0 := by unfold dOK; decide +kernel
def LX5_reachedWithoutKey_0 : List (Nat × Instr × Nat) := [(0, .aload_n 0, 1), (1, .getfield 16, 3), (4, .aload_n 0, 1), (5, .getfield 10, 3), (8, .invokevirtual 158, 3), (11, .aload_n 0, 1), (12, .getfield 16, 3), (15, .iload_n 1, 1), (16, .iconst 0, 1), (17, .invokevirtual 95, 3), (20, .aload_n 0, 1), (21, .getfield 29, 3), (24, .aload_n 0, 1), (25, .getfield 16, 3), (28, .invokevirtual 131, 3), (31, .aload_n 0, 1), (32, .getfield 29, 3), (35, .getfield 193, 3), (38, .ireturn, 1)]
set_option maxRecDepth 100000 in
theorem DX5_reachedWithoutKey_0 : dOK cX5_reachedWithoutKey LX5_reachedWithoutKey_0 := by unfold dOK; decide +kernel
def LX5_numberOfCell_0 : List (Nat × Instr × Nat) := [(0, .iload_n 2, 1), (1, .tableswitch 100 0 5 #[39, 55, 64, 73, 82, 91], 39), (40, .aload_n 0, 1), (41, .getfield 10, 3), (44, .aload_n 0, 1), (45, .getfield 10, 3), (48, .getfield 78, 3), (51, .iload_n 1, 1), (52, .invokevirtual 82, 3), (55, .ireturn, 1), (56, .aload_n 0, 1), (57, .getfield 10, 3), (60, .iload_n 1, 1), (61, .invokevirtual 63, 3), (64, .ireturn, 1), (65, .aload_n 0, 1), (66, .getfield 10, 3), (69, .iload_n 1, 1), (70, .invokevirtual 98, 3), (73, .ireturn, 1), (74, .aload_n 0, 1), (75, .getfield 10, 3), (78, .iload_n 1, 1), (79, .invokevirtual 224, 3), (82, .ireturn, 1), (83, .aload_n 0, 1), (84, .getfield 10, 3), (87, .iload_n 1, 1), (88, .invokevirtual 227, 3), (91, .ireturn, 1), (92, .aload_n 0, 1), (93, .getfield 10, 3), (96, .iload_n 1, 1), (97, .invokevirtual 230, 3), (100, .ireturn, 1), (101, .aload_n 0, 1), (102, .getfield 29, 3), (105, .iload_n 1, 1), (106, .invokevirtual 134, 3), (109, .ireturn, 1)]
set_option maxRecDepth 100000 in
theorem DX5_numberOfCell_0 : dOK cX5_numberOfCell LX5_numberOfCell_0 := by unfold dOK; decide +kernel
def LX5_numberOfWalker_0 : List (Nat × Instr × Nat) := [(0, .iload_n 1, 1), (1, .tableswitch 75 0 3 #[31, 42, 59, 67], 31), (32, .aload_n 0, 1), (33, .getfield 10, 3), (36, .getfield 78, 3), (39, .invokestatic 109, 3), (42, .ireturn, 1), (43, .aload_n 0, 1), (44, .getfield 10, 3), (47, .aload_n 0, 1), (48, .getfield 10, 3), (51, .getfield 78, 3), (54, .bipush 16, 2), (56, .invokevirtual 82, 3), (59, .ireturn, 1), (60, .aload_n 0, 1), (61, .getfield 10, 3), (64, .getfield 233, 3), (67, .ireturn, 1), (68, .aload_n 0, 1), (69, .getfield 10, 3), (72, .getfield 236, 3), (75, .ireturn, 1), (76, .aload_n 0, 1), (77, .getfield 10, 3), (80, .getfield 239, 3), (83, .ireturn, 1)]
set_option maxRecDepth 100000 in
theorem DX5_numberOfWalker_0 : dOK cX5_numberOfWalker LX5_numberOfWalker_0 := by unfold dOK; decide +kernel
def LX5_numberInAll_0 : List (Nat × Instr × Nat) := [(0, .iload_n 1, 1), (1, .tableswitch 87 0 5 #[39, 47, 55, 63, 71, 79], 39), (40, .aload_n 0, 1), (41, .getfield 10, 3), (44, .invokevirtual 86, 3), (47, .ireturn, 1), (48, .aload_n 0, 1), (49, .getfield 10, 3), (52, .invokevirtual 242, 3), (55, .ireturn, 1), (56, .aload_n 0, 1), (57, .getfield 10, 3), (60, .invokevirtual 245, 3), (63, .ireturn, 1), (64, .aload_n 0, 1), (65, .getfield 29, 3), (68, .getfield 193, 3), (71, .ireturn, 1), (72, .aload_n 0, 1), (73, .getfield 29, 3), (76, .invokevirtual 248, 3), (79, .ireturn, 1), (80, .aload_n 0, 1), (81, .getfield 10, 3), (84, .getfield 106, 3), (87, .ireturn, 1), (88, .aload_n 0, 1), (89, .getfield 22, 3), (92, .getfield 161, 3), (95, .ireturn, 1)]
set_option maxRecDepth 100000 in
theorem DX5_numberInAll_0 : dOK cX5_numberInAll LX5_numberInAll_0 := by unfold dOK; decide +kernel
def LX5_digestOfLooks_0 : List (Nat × Instr × Nat) := [(0, .lload_n 1, 1), (1, .lstore_n 3, 1), (2, .iconst 0, 1), (3, .istore 5, 2), (5, .iload 5, 2), (7, .bipush 6, 2), (9, .if_icmp .gt 21, 3), (12, .lload_n 3, 1), (13, .aload_n 0, 1), (14, .iload 5, 2), (16, .invokevirtual 181, 3), (19, .i2l, 1), (20, .invokestatic 204, 3), (23, .lstore_n 3, 1), (24, .iinc 5 1, 3), (27, .goto (-22), 3), (30, .iconst 0, 1), (31, .istore 5, 2), (33, .iload 5, 2), (35, .iconst 4, 1), (36, .if_icmp .gt 21, 3), (39, .lload_n 3, 1), (40, .aload_n 0, 1), (41, .iload 5, 2), (43, .invokevirtual 176, 3), (46, .i2l, 1), (47, .invokestatic 204, 3), (50, .lstore_n 3, 1), (51, .iinc 5 1, 3), (54, .goto (-21), 3), (57, .iconst 0, 1), (58, .istore 5, 2), (60, .iload 5, 2), (62, .bipush 16, 2), (64, .if_icmp .ge 39, 3), (67, .iconst 0, 1), (68, .istore 6, 2), (70, .iload 6, 2), (72, .bipush 6, 2), (74, .if_icmp .gt 23, 3)]
set_option maxRecDepth 100000 in
theorem DX5_digestOfLooks_0 : dOK cX5_digestOfLooks LX5_digestOfLooks_0 := by unfold dOK; decide +kernel
def LX5_digestOfLooks_1 : List (Nat × Instr × Nat) := [(77, .lload_n 3, 1), (78, .aload_n 0, 1), (79, .iload 5, 2), (81, .iload 6, 2), (83, .invokevirtual 171, 3), (86, .i2l, 1), (87, .invokestatic 204, 3), (90, .lstore_n 3, 1), (91, .iinc 6 1, 3), (94, .goto (-24), 3), (97, .iinc 5 1, 3), (100, .goto (-40), 3), (103, .iconst 0, 1), (104, .istore 5, 2), (106, .iload 5, 2), (108, .iconst 5, 1), (109, .if_icmp .ge 24, 3), (112, .lload_n 3, 1), (113, .aload_n 0, 1), (114, .getfield 10, 3), (117, .iload 5, 2), (119, .invokevirtual 122, 3), (122, .i2l, 1), (123, .invokestatic 204, 3), (126, .lstore_n 3, 1), (127, .iinc 5 1, 3), (130, .goto (-24), 3), (133, .aload_n 0, 1), (134, .getfield 29, 3), (137, .bipush 15, 2), (139, .invokevirtual 134, 3), (142, .istore 5, 2), (144, .iconst 0, 1), (145, .istore 6, 2), (147, .iload 6, 2), (149, .iload 5, 2), (151, .if_icmp .ge 26, 3), (154, .lload_n 3, 1), (155, .aload_n 0, 1), (156, .getfield 29, 3)]
set_option maxRecDepth 100000 in
theorem DX5_digestOfLooks_1 : dOK cX5_digestOfLooks LX5_digestOfLooks_1 := by unfold dOK; decide +kernel
def LX5_digestOfLooks_2 : List (Nat × Instr × Nat) := [(159, .bipush 15, 2), (161, .iload 6, 2), (163, .invokevirtual 139, 3), (166, .i2l, 1), (167, .invokestatic 204, 3), (170, .lstore_n 3, 1), (171, .iinc 6 1, 3), (174, .goto (-27), 3), (177, .lload_n 3, 1), (178, .lreturn, 1)]
set_option maxRecDepth 100000 in
theorem DX5_digestOfLooks_2 : dOK cX5_digestOfLooks LX5_digestOfLooks_2 := by unfold dOK; decide +kernel
def LX5_bitsOfShare_0 : List (Nat × Instr × Nat) := [(0, .iconst 0, 1), (1, .istore_n 1, 1), (2, .iload_n 1, 1), (3, .iconst 4, 1), (4, .if_icmp .ge 17, 3), (7, .iload_n 0, 1), (8, .iload_n 1, 1), (9, .iconst 1, 1), (10, .iadd, 1), (11, .ishr, 1), (12, .ifCond .le 9, 3), (15, .iinc 1 1, 3), (18, .goto (-16), 3), (21, .ldc2_w 251, 3), (24, .iload_n 1, 1), (25, .i2l, 1), (26, .ladd, 1), (27, .ldc2_w 253, 3), (30, .lsub, 1), (31, .lstore_n 2, 1), (32, .iload_n 0, 1), (33, .iconst 1, 1), (34, .iload_n 1, 1), (35, .ishl, 1), (36, .isub, 1), (37, .i2l, 1), (38, .bipush 52, 2), (40, .iload_n 1, 1), (41, .isub, 1), (42, .lshl, 1), (43, .lstore 4, 2), (45, .lload_n 2, 1), (46, .bipush 52, 2), (48, .lshl, 1), (49, .lload 4, 2), (51, .lor, 1), (52, .lreturn, 1)]
set_option maxRecDepth 100000 in
theorem DX5_bitsOfShare_0 : dOK cX5_bitsOfShare LX5_bitsOfShare_0 := by unfold dOK; decide +kernel
def LX6_init_0 : List (Nat × Instr × Nat) := [(0, .aload_n 0, 1), (1, .invokespecial 1, 3), (4, .aload_n 0, 1), (5, .bipush 53, 2), (7, .newarray .int, 2), (9, .putfield 7, 3), (12, .aload_n 0, 1), (13, .bipush 53, 2), (15, .newarray .int, 2), (17, .putfield 13, 3), (20, .aload_n 0, 1), (21, .sipush 318, 3), (24, .newarray .int, 2), (26, .putfield 16, 3), (29, .aload_n 0, 1), (30, .bipush 60, 2), (32, .newarray .int, 2), (34, .putfield 19, 3), (37, .aload_n 0, 1), (38, .bipush 48, 2), (40, .newarray .int, 2), (42, .putfield 22, 3), (45, .aload_n 0, 1), (46, .sipush 4624, 3), (49, .newarray .int, 2), (51, .putfield 25, 3), (54, .aload_n 0, 1), (55, .sipush 4624, 3), (58, .newarray .int, 2), (60, .putfield 28, 3), (63, .aload_n 0, 1), (64, .sipush 4624, 3), (67, .newarray .int, 2), (69, .putfield 31, 3), (72, .aload_n 0, 1), (73, .sipush 4624, 3), (76, .newarray .int, 2), (78, .putfield 34, 3), (81, .aload_n 0, 1), (82, .bipush 16, 2)]
set_option maxRecDepth 100000 in
theorem DX6_init_0 : dOK cX6_init LX6_init_0 := by unfold dOK; decide +kernel
def LX6_init_1 : List (Nat × Instr × Nat) := [(84, .newarray .int, 2), (86, .putfield 37, 3), (89, .aload_n 0, 1), (90, .getfield 7, 3), (93, .iconst 0, 1), (94, .iconst 4, 1), (95, .iastore, 1), (96, .return_, 1)]
set_option maxRecDepth 100000 in
theorem DX6_init_1 : dOK cX6_init LX6_init_1 := by unfold dOK; decide +kernel
def LX6_thrown_0 : List (Nat × Instr × Nat) := [(0, .aload_n 0, 1), (1, .getfield 40, 3), (4, .ireturn, 1)]
set_option maxRecDepth 100000 in
theorem DX6_thrown_0 : dOK cX6_thrown LX6_thrown_0 := by unfold dOK; decide +kernel
def LX6_fails_0 : List (Nat × Instr × Nat) := [(0, .aload_n 0, 1), (1, .iload_n 1, 1), (2, .putfield 40, 3), (5, .iconst 0, 1), (6, .ireturn, 1)]
set_option maxRecDepth 100000 in
theorem DX6_fails_0 : dOK cX6_fails LX6_fails_0 := by unfold dOK; decide +kernel
def LX6_in_0 : List (Nat × Instr × Nat) := [(0, .iload_n 0, 1), (1, .iload_n 1, 1), (2, .if_icmp .lt 12, 3), (5, .iload_n 0, 1), (6, .iload_n 2, 1), (7, .if_icmp .gt 7, 3), (10, .iconst 1, 1), (11, .goto 4, 3), (14, .iconst 0, 1), (15, .ireturn, 1)]
set_option maxRecDepth 100000 in
theorem DX6_in_0 : dOK cX6_in LX6_in_0 := by unfold dOK; decide +kernel
def LX6_isCell_0 : List (Nat × Instr × Nat) := [(0, .iload_n 0, 1), (1, .iconst 0, 1), (2, .bipush 15, 2), (4, .invokestatic 44, 3), (7, .ireturn, 1)]
set_option maxRecDepth 100000 in
theorem DX6_isCell_0 : dOK cX6_isCell LX6_isCell_0 := by unfold dOK; decide +kernel
def LX6_copies_0 : List (Nat × Instr × Nat) := [(0, .iconst 0, 1), (1, .istore 4, 2), (3, .iload 4, 2), (5, .bipush 53, 2), (7, .if_icmp .ge 21, 3), (10, .aload_n 2, 1), (11, .iload_n 3, 1), (12, .iload 4, 2), (14, .iadd, 1), (15, .aload_n 0, 1), (16, .iload_n 1, 1), (17, .iload 4, 2), (19, .iadd, 1), (20, .iaload, 1), (21, .iastore, 1), (22, .iinc 4 1, 3), (25, .goto (-22), 3), (28, .return_, 1)]
set_option maxRecDepth 100000 in
theorem DX6_copies_0 : dOK cX6_copies LX6_copies_0 := by unfold dOK; decide +kernel
def LX6_saves_0 : List (Nat × Instr × Nat) := [(0, .aload_n 0, 1), (1, .iconst 0, 1), (2, .putfield 48, 3), (5, .aload_n 0, 1), (6, .getfield 52, 3), (9, .bipush 6, 2), (11, .if_icmp .ne 43, 3), (14, .iconst 0, 1), (15, .istore_n 1, 1), (16, .iload_n 1, 1), (17, .sipush 265, 3), (20, .if_icmp .ge 24, 3), (23, .aload_n 0, 1), (24, .getfield 16, 3), (27, .iload_n 1, 1), (28, .aload_n 0, 1), (29, .getfield 16, 3), (32, .iload_n 1, 1), (33, .bipush 53, 2), (35, .iadd, 1), (36, .iaload, 1), (37, .iastore, 1), (38, .iinc 1 1, 3), (41, .goto (-25), 3), (44, .aload_n 0, 1), (45, .dup, 1), (46, .getfield 52, 3), (49, .iconst 1, 1), (50, .isub, 1), (51, .putfield 52, 3), (54, .aload_n 0, 1), (55, .getfield 7, 3), (58, .iconst 0, 1), (59, .aload_n 0, 1), (60, .getfield 16, 3), (63, .bipush 53, 2), (65, .aload_n 0, 1), (66, .getfield 52, 3), (69, .imul, 1), (70, .invokestatic 55, 3)]
set_option maxRecDepth 100000 in
theorem DX6_saves_0 : dOK cX6_saves LX6_saves_0 := by unfold dOK; decide +kernel
def LX6_saves_1 : List (Nat × Instr × Nat) := [(73, .aload_n 0, 1), (74, .dup, 1), (75, .getfield 52, 3), (78, .iconst 1, 1), (79, .iadd, 1), (80, .putfield 52, 3), (83, .return_, 1)]
set_option maxRecDepth 100000 in
theorem DX6_saves_1 : dOK cX6_saves LX6_saves_1 := by unfold dOK; decide +kernel
def LX6_undo_0 : List (Nat × Instr × Nat) := [(0, .aload_n 0, 1), (1, .iconst 0, 1), (2, .putfield 40, 3), (5, .aload_n 0, 1), (6, .getfield 52, 3), (9, .ifCond .ne 9, 3), (12, .aload_n 0, 1), (13, .iconst 1, 1), (14, .invokevirtual 59, 3), (17, .ireturn, 1), (18, .aload_n 0, 1), (19, .iconst 0, 1), (20, .putfield 48, 3), (23, .aload_n 0, 1), (24, .dup, 1), (25, .getfield 52, 3), (28, .iconst 1, 1), (29, .isub, 1), (30, .putfield 52, 3), (33, .aload_n 0, 1), (34, .getfield 16, 3), (37, .bipush 53, 2), (39, .aload_n 0, 1), (40, .getfield 52, 3), (43, .imul, 1), (44, .aload_n 0, 1), (45, .getfield 7, 3), (48, .iconst 0, 1), (49, .invokestatic 55, 3), (52, .aload_n 0, 1), (53, .getfield 52, 3), (56, .ireturn, 1)]
set_option maxRecDepth 100000 in
theorem DX6_undo_0 : dOK cX6_undo LX6_undo_0 := by unfold dOK; decide +kernel
def LX6_above_0 : List (Nat × Instr × Nat) := [(0, .iconst 2, 1), (1, .aload_n 0, 1), (2, .iconst 0, 1), (3, .iaload, 1), (4, .imul, 1), (5, .iload_n 1, 1), (6, .aload_n 0, 1), (7, .iconst 0, 1), (8, .iaload, 1), (9, .idiv, 1), (10, .iconst 1, 1), (11, .iadd, 1), (12, .imul, 1), (13, .iconst 1, 1), (14, .isub, 1), (15, .iload_n 1, 1), (16, .isub, 1), (17, .istore_n 2, 1), (18, .iload_n 2, 1), (19, .invokestatic 63, 3), (22, .ifCond .eq 23, 3), (25, .aload_n 0, 1), (26, .bipush 37, 2), (28, .iload_n 1, 1), (29, .iadd, 1), (30, .iaload, 1), (31, .aload_n 0, 1), (32, .bipush 37, 2), (34, .iload_n 2, 1), (35, .iadd, 1), (36, .iaload, 1), (37, .iadd, 1), (38, .ifCond .le 7, 3), (41, .iload_n 2, 1), (42, .goto 4, 3), (45, .iconst (-1), 1), (46, .ireturn, 1)]
set_option maxRecDepth 100000 in
theorem DX6_above_0 : dOK cX6_above LX6_above_0 := by unfold dOK; decide +kernel
def LX6_below_0 : List (Nat × Instr × Nat) := [(0, .iconst 2, 1), (1, .aload_n 0, 1), (2, .iconst 0, 1), (3, .iaload, 1), (4, .imul, 1), (5, .iload_n 1, 1), (6, .aload_n 0, 1), (7, .iconst 0, 1), (8, .iaload, 1), (9, .idiv, 1), (10, .imul, 1), (11, .iconst 1, 1), (12, .isub, 1), (13, .iload_n 1, 1), (14, .isub, 1), (15, .istore_n 2, 1), (16, .iload_n 2, 1), (17, .invokestatic 63, 3), (20, .ifCond .eq 23, 3), (23, .aload_n 0, 1), (24, .bipush 37, 2), (26, .iload_n 1, 1), (27, .iadd, 1), (28, .iaload, 1), (29, .aload_n 0, 1), (30, .bipush 37, 2), (32, .iload_n 2, 1), (33, .iadd, 1), (34, .iaload, 1), (35, .iadd, 1), (36, .ifCond .le 7, 3), (39, .iload_n 2, 1), (40, .goto 4, 3), (43, .iconst (-1), 1), (44, .ireturn, 1)]
set_option maxRecDepth 100000 in
theorem DX6_below_0 : dOK cX6_below LX6_below_0 := by unfold dOK; decide +kernel
def LX6_leads_0 : List (Nat × Instr × Nat) := [(0, .iload_n 2, 1), (1, .ifCond .ne 9, 3), (4, .iload_n 1, 1), (5, .iconst 1, 1), (6, .isub, 1), (7, .goto 32, 3), (10, .iload_n 2, 1), (11, .iconst 1, 1), (12, .if_icmp .ne 9, 3), (15, .iload_n 1, 1), (16, .iconst 1, 1), (17, .iadd, 1), (18, .goto 21, 3), (21, .iload_n 2, 1), (22, .iconst 2, 1), (23, .if_icmp .ne 11, 3), (26, .aload_n 0, 1), (27, .iload_n 1, 1), (28, .invokestatic 67, 3), (31, .goto 8, 3), (34, .aload_n 0, 1), (35, .iload_n 1, 1), (36, .invokestatic 71, 3), (39, .istore_n 3, 1), (40, .iload_n 3, 1), (41, .invokestatic 63, 3), (44, .ifCond .eq 7, 3), (47, .iload_n 3, 1), (48, .goto 4, 3), (51, .iconst (-1), 1), (52, .ireturn, 1)]
set_option maxRecDepth 100000 in
theorem DX6_leads_0 : dOK cX6_leads LX6_leads_0 := by unfold dOK; decide +kernel
def LX6_lockOn_0 : List (Nat × Instr × Nat) := [(0, .iload_n 2, 1), (1, .ifCond .ne 14, 3), (4, .aload_n 0, 1), (5, .bipush 22, 2), (7, .iload_n 1, 1), (8, .iadd, 1), (9, .iconst 1, 1), (10, .isub, 1), (11, .iaload, 1), (12, .goto 18, 3), (15, .iload_n 2, 1), (16, .iconst 1, 1), (17, .if_icmp .ne 12, 3), (20, .aload_n 0, 1), (21, .bipush 22, 2), (23, .iload_n 1, 1), (24, .iadd, 1), (25, .iaload, 1), (26, .goto 4, 3), (29, .iconst 0, 1), (30, .ireturn, 1)]
set_option maxRecDepth 100000 in
theorem DX6_lockOn_0 : dOK cX6_lockOn LX6_lockOn_0 := by unfold dOK; decide +kernel
def LX6_refused_0 : List (Nat × Instr × Nat) := [(0, .aload_n 0, 1), (1, .iconst 1, 1), (2, .iaload, 1), (3, .istore_n 2, 1), (4, .iload_n 1, 1), (5, .iconst 4, 1), (6, .if_icmp .ne 24, 3), (9, .aload_n 0, 1), (10, .iconst 2, 1), (11, .iaload, 1), (12, .ifCond .ne 16, 3), (15, .aload_n 0, 1), (16, .bipush 6, 2), (18, .iload_n 2, 1), (19, .iadd, 1), (20, .iaload, 1), (21, .ifCond .ne 7, 3), (24, .iconst 1, 1), (25, .goto 4, 3), (28, .iconst 0, 1), (29, .ireturn, 1), (30, .aload_n 0, 1), (31, .iload_n 2, 1), (32, .iload_n 1, 1), (33, .invokestatic 74, 3), (36, .iconst (-1), 1), (37, .if_icmp .ne 5, 3), (40, .iconst 1, 1), (41, .ireturn, 1), (42, .aload_n 0, 1), (43, .iload_n 2, 1), (44, .iload_n 1, 1), (45, .invokestatic 78, 3), (48, .istore_n 3, 1), (49, .iload_n 3, 1), (50, .ifCond .le 14, 3), (53, .iload_n 3, 1), (54, .aload_n 0, 1), (55, .iconst 2, 1), (56, .iaload, 1)]
set_option maxRecDepth 100000 in
theorem DX6_refused_0 : dOK cX6_refused LX6_refused_0 := by unfold dOK; decide +kernel
def LX6_refused_1 : List (Nat × Instr × Nat) := [(57, .if_icmp .eq 7, 3), (60, .iconst 2, 1), (61, .goto 4, 3), (64, .iconst 0, 1), (65, .ireturn, 1)]
set_option maxRecDepth 100000 in
theorem DX6_refused_1 : dOK cX6_refused LX6_refused_1 := by unfold dOK; decide +kernel
def LX6_goes_0 : List (Nat × Instr × Nat) := [(0, .aload_n 0, 1), (1, .iconst 1, 1), (2, .iaload, 1), (3, .istore_n 2, 1), (4, .aload_n 0, 1), (5, .iconst 3, 1), (6, .dup2, 1), (7, .iaload, 1), (8, .iconst 1, 1), (9, .iadd, 1), (10, .iastore, 1), (11, .iload_n 1, 1), (12, .iconst 4, 1), (13, .if_icmp .ne 33, 3), (16, .aload_n 0, 1), (17, .iconst 2, 1), (18, .iaload, 1), (19, .istore_n 3, 1), (20, .aload_n 0, 1), (21, .iconst 2, 1), (22, .aload_n 0, 1), (23, .bipush 6, 2), (25, .iload_n 2, 1), (26, .iadd, 1), (27, .iaload, 1), (28, .iastore, 1), (29, .aload_n 0, 1), (30, .bipush 6, 2), (32, .iload_n 2, 1), (33, .iadd, 1), (34, .iload_n 3, 1), (35, .iastore, 1), (36, .aload_n 0, 1), (37, .iconst 4, 1), (38, .dup2, 1), (39, .iaload, 1), (40, .iconst 1, 1), (41, .iadd, 1), (42, .iastore, 1), (43, .goto 32, 3)]
set_option maxRecDepth 100000 in
theorem DX6_goes_0 : dOK cX6_goes LX6_goes_0 := by unfold dOK; decide +kernel
def LX6_goes_1 : List (Nat × Instr × Nat) := [(46, .aload_n 0, 1), (47, .iconst 5, 1), (48, .dup2, 1), (49, .iaload, 1), (50, .aload_n 0, 1), (51, .iload_n 2, 1), (52, .iload_n 1, 1), (53, .invokestatic 78, 3), (56, .ifCond .le 7, 3), (59, .iconst 1, 1), (60, .goto 4, 3), (63, .iconst 0, 1), (64, .iadd, 1), (65, .iastore, 1), (66, .aload_n 0, 1), (67, .iconst 1, 1), (68, .aload_n 0, 1), (69, .iload_n 2, 1), (70, .iload_n 1, 1), (71, .invokestatic 74, 3), (74, .iastore, 1), (75, .return_, 1)]
set_option maxRecDepth 100000 in
theorem DX6_goes_1 : dOK cX6_goes LX6_goes_1 := by unfold dOK; decide +kernel
def LX6_begins_0 : List (Nat × Instr × Nat) := [(0, .iconst 0, 1), (1, .istore_n 2, 1), (2, .iconst 0, 1), (3, .istore_n 3, 1), (4, .aload_n 0, 1), (5, .aload_n 1, 1), (6, .iconst 2, 1), (7, .iaload, 1), (8, .putfield 81, 3), (11, .aload_n 0, 1), (12, .iconst 0, 1), (13, .putfield 84, 3), (16, .aload_n 0, 1), (17, .getfield 81, 3), (20, .ifCond .le 8, 3), (23, .bipush 16, 2), (25, .goto 4, 3), (28, .iconst 0, 1), (29, .istore_n 2, 1), (30, .iconst 0, 1), (31, .istore 4, 2), (33, .iload 4, 2), (35, .bipush 16, 2), (37, .if_icmp .ge 56, 3), (40, .aload_n 1, 1), (41, .bipush 6, 2), (43, .iload 4, 2), (45, .iadd, 1), (46, .iaload, 1), (47, .istore 5, 2), (49, .iload 5, 2), (51, .ifCond .le 22, 3), (54, .aload_n 0, 1), (55, .getfield 81, 3), (58, .ifCond .ne 15, 3), (61, .aload_n 0, 1), (62, .iload 5, 2), (64, .putfield 81, 3), (67, .iload 4, 2), (69, .istore_n 2, 1)]
set_option maxRecDepth 100000 in
theorem DX6_begins_0 : dOK cX6_begins LX6_begins_0 := by unfold dOK; decide +kernel
def LX6_begins_1 : List (Nat × Instr × Nat) := [(70, .goto 17, 3), (73, .iload 5, 2), (75, .ifCond .le 12, 3), (78, .aload_n 0, 1), (79, .iload 5, 2), (81, .putfield 84, 3), (84, .iload 4, 2), (86, .istore_n 3, 1), (87, .iinc 4 1, 3), (90, .goto (-57), 3), (93, .sipush 289, 3), (96, .aload_n 1, 1), (97, .iconst 1, 1), (98, .iaload, 1), (99, .imul, 1), (100, .bipush 17, 2), (102, .iload_n 2, 1), (103, .imul, 1), (104, .iadd, 1), (105, .iload_n 3, 1), (106, .iadd, 1), (107, .ireturn, 1)]
set_option maxRecDepth 100000 in
theorem DX6_begins_1 : dOK cX6_begins LX6_begins_1 := by unfold dOK; decide +kernel
def LX6_changed_0 : List (Nat × Instr × Nat) := [(0, .aload_n 0, 1), (1, .getfield 81, 3), (4, .ifCond .le 18, 3), (7, .iload_n 2, 1), (8, .iload_n 1, 1), (9, .if_icmp .eq 9, 3), (12, .iload_n 2, 1), (13, .bipush 16, 2), (15, .if_icmp .ne 7, 3), (18, .iconst 1, 1), (19, .goto 4, 3), (22, .iconst 0, 1), (23, .istore 4, 2), (25, .aload_n 0, 1), (26, .getfield 84, 3), (29, .ifCond .le 18, 3), (32, .iload_n 3, 1), (33, .iload_n 1, 1), (34, .if_icmp .eq 9, 3), (37, .iload_n 3, 1), (38, .bipush 16, 2), (40, .if_icmp .ne 7, 3), (43, .iconst 1, 1), (44, .goto 4, 3), (47, .iconst 0, 1), (48, .istore 5, 2), (50, .iload 4, 2), (52, .ifCond .ne 7, 3), (55, .iload_n 2, 1), (56, .goto 14, 3), (59, .iload_n 2, 1), (60, .iload_n 1, 1), (61, .if_icmp .ne 8, 3), (64, .bipush 16, 2), (66, .goto 4, 3), (69, .iload_n 1, 1), (70, .istore 6, 2), (72, .iload 5, 2), (74, .ifCond .ne 7, 3), (77, .iload_n 3, 1)]
set_option maxRecDepth 100000 in
theorem DX6_changed_0 : dOK cX6_changed LX6_changed_0 := by unfold dOK; decide +kernel
def LX6_changed_1 : List (Nat × Instr × Nat) := [(78, .goto 14, 3), (81, .iload_n 3, 1), (82, .iload_n 1, 1), (83, .if_icmp .ne 8, 3), (86, .bipush 16, 2), (88, .goto 4, 3), (91, .iload_n 1, 1), (92, .istore 7, 2), (94, .iload 4, 2), (96, .ifCond .ne 8, 3), (99, .iload 5, 2), (101, .ifCond .eq 20, 3), (104, .sipush 289, 3), (107, .iload_n 1, 1), (108, .imul, 1), (109, .bipush 17, 2), (111, .iload 6, 2), (113, .imul, 1), (114, .iadd, 1), (115, .iload 7, 2), (117, .iadd, 1), (118, .goto 4, 3), (121, .iconst (-1), 1), (122, .ireturn, 1)]
set_option maxRecDepth 100000 in
theorem DX6_changed_1 : dOK cX6_changed LX6_changed_1 := by unfold dOK; decide +kernel
def LX6_behind_0 : List (Nat × Instr × Nat) := [(0, .iload_n 2, 1), (1, .sipush 289, 3), (4, .idiv, 1), (5, .istore 4, 2), (7, .iload_n 2, 1), (8, .bipush 17, 2), (10, .idiv, 1), (11, .bipush 17, 2), (13, .irem, 1), (14, .istore 5, 2), (16, .iload_n 2, 1), (17, .bipush 17, 2), (19, .irem, 1), (20, .istore 6, 2), (22, .iload_n 3, 1), (23, .iconst 4, 1), (24, .if_icmp .ne 14, 3), (27, .aload_n 0, 1), (28, .iload 4, 2), (30, .iload 5, 2), (32, .iload 6, 2), (34, .invokevirtual 87, 3), (37, .ireturn, 1), (38, .aload_n 1, 1), (39, .iload 4, 2), (41, .iload_n 3, 1), (42, .invokestatic 74, 3), (45, .istore 7, 2), (47, .iload 7, 2), (49, .iconst (-1), 1), (50, .if_icmp .ne 5, 3), (53, .iconst (-1), 1), (54, .ireturn, 1), (55, .aload_n 1, 1), (56, .iload 4, 2), (58, .iload_n 3, 1), (59, .invokestatic 78, 3), (62, .istore 8, 2), (64, .aload_n 0, 1), (65, .getfield 81, 3)]
set_option maxRecDepth 100000 in
theorem DX6_behind_0 : dOK cX6_behind LX6_behind_0 := by unfold dOK; decide +kernel
def LX6_behind_1 : List (Nat × Instr × Nat) := [(68, .ifCond .le 17, 3), (71, .iload 5, 2), (73, .bipush 16, 2), (75, .if_icmp .ne 10, 3), (78, .aload_n 0, 1), (79, .getfield 81, 3), (82, .goto 25, 3), (85, .aload_n 0, 1), (86, .getfield 84, 3), (89, .ifCond .le 17, 3), (92, .iload 6, 2), (94, .bipush 16, 2), (96, .if_icmp .ne 10, 3), (99, .aload_n 0, 1), (100, .getfield 84, 3), (103, .goto 4, 3), (106, .iconst 0, 1), (107, .istore 9, 2), (109, .iload 8, 2), (111, .ifCond .eq 10, 3), (114, .iload 8, 2), (116, .iload 9, 2), (118, .if_icmp .ne 17, 3), (121, .iload_n 2, 1), (122, .sipush 289, 3), (125, .iload 7, 2), (127, .iload 4, 2), (129, .isub, 1), (130, .imul, 1), (131, .iadd, 1), (132, .goto 4, 3), (135, .iconst (-1), 1), (136, .ireturn, 1)]
set_option maxRecDepth 100000 in
theorem DX6_behind_1 : dOK cX6_behind LX6_behind_1 := by unfold dOK; decide +kernel
def LX6_lays_0 : List (Nat × Instr × Nat) := [(0, .iconst 0, 1), (1, .istore_n 2, 1), (2, .iload_n 2, 1), (3, .sipush 4624, 3), (6, .if_icmp .ge 16, 3), (9, .aload_n 0, 1), (10, .getfield 34, 3), (13, .iload_n 2, 1), (14, .iconst (-1), 1), (15, .iastore, 1), (16, .iinc 2 1, 3), (19, .goto (-17), 3), (22, .iconst 0, 1), (23, .istore_n 2, 1), (24, .iload_n 2, 1), (25, .bipush 16, 2), (27, .if_icmp .ge 16, 3), (30, .aload_n 0, 1), (31, .getfield 37, 3), (34, .iload_n 2, 1), (35, .iconst (-1), 1), (36, .iastore, 1), (37, .iinc 2 1, 3), (40, .goto (-16), 3), (43, .iconst 1, 1), (44, .istore_n 2, 1), (45, .aload_n 0, 1), (46, .getfield 25, 3), (49, .iconst 0, 1), (50, .aload_n 0, 1), (51, .aload_n 1, 1), (52, .invokevirtual 91, 3), (55, .iastore, 1), (56, .aload_n 0, 1), (57, .getfield 34, 3), (60, .aload_n 0, 1), (61, .getfield 25, 3), (64, .iconst 0, 1), (65, .iaload, 1), (66, .iconst 0, 1)]
set_option maxRecDepth 100000 in
theorem DX6_lays_0 : dOK cX6_lays LX6_lays_0 := by unfold dOK; decide +kernel
def LX6_lays_1 : List (Nat × Instr × Nat) := [(67, .iastore, 1), (68, .aload_n 0, 1), (69, .getfield 37, 3), (72, .aload_n 1, 1), (73, .iconst 1, 1), (74, .iaload, 1), (75, .aload_n 0, 1), (76, .getfield 25, 3), (79, .iconst 0, 1), (80, .iaload, 1), (81, .iastore, 1), (82, .iconst 0, 1), (83, .istore_n 3, 1), (84, .iload_n 3, 1), (85, .iload_n 2, 1), (86, .if_icmp .ge 151, 3), (89, .iconst 0, 1), (90, .istore 4, 2), (92, .iload 4, 2), (94, .iconst 5, 1), (95, .if_icmp .ge 136, 3), (98, .aload_n 0, 1), (99, .aload_n 1, 1), (100, .aload_n 0, 1), (101, .getfield 25, 3), (104, .iload_n 3, 1), (105, .iaload, 1), (106, .iload 4, 2), (108, .invokevirtual 95, 3), (111, .istore 5, 2), (113, .iload 5, 2), (115, .iconst (-1), 1), (116, .if_icmp .eq 109, 3), (119, .aload_n 0, 1), (120, .getfield 34, 3), (123, .iload 5, 2), (125, .iaload, 1), (126, .iconst (-1), 1), (127, .if_icmp .ne 98, 3), (130, .aload_n 0, 1)]
set_option maxRecDepth 100000 in
theorem DX6_lays_1 : dOK cX6_lays LX6_lays_1 := by unfold dOK; decide +kernel
def LX6_lays_2 : List (Nat × Instr × Nat) := [(131, .getfield 34, 3), (134, .iload 5, 2), (136, .aload_n 0, 1), (137, .getfield 34, 3), (140, .aload_n 0, 1), (141, .getfield 25, 3), (144, .iload_n 3, 1), (145, .iaload, 1), (146, .iaload, 1), (147, .iconst 1, 1), (148, .iadd, 1), (149, .iastore, 1), (150, .aload_n 0, 1), (151, .getfield 28, 3), (154, .iload 5, 2), (156, .aload_n 0, 1), (157, .getfield 25, 3), (160, .iload_n 3, 1), (161, .iaload, 1), (162, .iastore, 1), (163, .aload_n 0, 1), (164, .getfield 31, 3), (167, .iload 5, 2), (169, .iload 4, 2), (171, .iastore, 1), (172, .aload_n 0, 1), (173, .getfield 37, 3), (176, .iload 5, 2), (178, .sipush 289, 3), (181, .idiv, 1), (182, .aload_n 0, 1), (183, .getfield 37, 3), (186, .iload 5, 2), (188, .sipush 289, 3), (191, .idiv, 1), (192, .iaload, 1), (193, .iconst (-1), 1), (194, .if_icmp .ne 8, 3), (197, .iload 5, 2), (199, .goto 14, 3)]
set_option maxRecDepth 100000 in
theorem DX6_lays_2 : dOK cX6_lays LX6_lays_2 := by unfold dOK; decide +kernel
def LX6_lays_3 : List (Nat × Instr × Nat) := [(202, .aload_n 0, 1), (203, .getfield 37, 3), (206, .iload 5, 2), (208, .sipush 289, 3), (211, .idiv, 1), (212, .iaload, 1), (213, .iastore, 1), (214, .aload_n 0, 1), (215, .getfield 25, 3), (218, .iload_n 2, 1), (219, .iload 5, 2), (221, .iastore, 1), (222, .iinc 2 1, 3), (225, .iinc 4 1, 3), (228, .goto (-136), 3), (231, .iinc 3 1, 3), (234, .goto (-150), 3), (237, .return_, 1)]
set_option maxRecDepth 100000 in
theorem DX6_lays_3 : dOK cX6_lays LX6_lays_3 := by unfold dOK; decide +kernel
def LX6_laysNow_0 : List (Nat × Instr × Nat) := [(0, .aload_n 0, 1), (1, .getfield 48, 3), (4, .ifCond .ne 16, 3), (7, .aload_n 0, 1), (8, .aload_n 0, 1), (9, .getfield 7, 3), (12, .invokevirtual 98, 3), (15, .aload_n 0, 1), (16, .iconst 1, 1), (17, .putfield 48, 3), (20, .return_, 1)]
set_option maxRecDepth 100000 in
theorem DX6_laysNow_0 : dOK cX6_laysNow LX6_laysNow_0 := by unfold dOK; decide +kernel
def LX6_steps_0 : List (Nat × Instr × Nat) := [(0, .aload_n 0, 1), (1, .getfield 37, 3), (4, .iload_n 1, 1), (5, .iaload, 1), (6, .iconst (-1), 1), (7, .if_icmp .ne 7, 3), (10, .iconst (-1), 1), (11, .goto 14, 3), (14, .aload_n 0, 1), (15, .getfield 34, 3), (18, .aload_n 0, 1), (19, .getfield 37, 3), (22, .iload_n 1, 1), (23, .iaload, 1), (24, .iaload, 1), (25, .ireturn, 1)]
set_option maxRecDepth 100000 in
theorem DX6_steps_0 : dOK cX6_steps LX6_steps_0 := by unfold dOK; decide +kernel
def LX6_stepAt_0 : List (Nat × Instr × Nat) := [(0, .iload_n 2, 1), (1, .aload_n 0, 1), (2, .iload_n 1, 1), (3, .invokevirtual 102, 3), (6, .if_icmp .lt 5, 3), (9, .iconst (-1), 1), (10, .ireturn, 1), (11, .aload_n 0, 1), (12, .getfield 37, 3), (15, .iload_n 1, 1), (16, .iaload, 1), (17, .istore_n 3, 1), (18, .aload_n 0, 1), (19, .getfield 34, 3), (22, .iload_n 3, 1), (23, .iaload, 1), (24, .iload_n 2, 1), (25, .iconst 1, 1), (26, .iadd, 1), (27, .if_icmp .le 13, 3), (30, .aload_n 0, 1), (31, .getfield 28, 3), (34, .iload_n 3, 1), (35, .iaload, 1), (36, .istore_n 3, 1), (37, .goto (-19), 3), (40, .aload_n 0, 1), (41, .getfield 31, 3), (44, .iload_n 3, 1), (45, .iaload, 1), (46, .ireturn, 1)]
set_option maxRecDepth 100000 in
theorem DX6_stepAt_0 : dOK cX6_stepAt LX6_stepAt_0 := by unfold dOK; decide +kernel
def LX6_reachable_0 : List (Nat × Instr × Nat) := [(0, .iconst 0, 1), (1, .istore_n 1, 1), (2, .iconst 0, 1), (3, .istore_n 2, 1), (4, .iload_n 2, 1), (5, .bipush 16, 2), (7, .if_icmp .ge 27, 3), (10, .iload_n 1, 1), (11, .aload_n 0, 1), (12, .getfield 37, 3), (15, .iload_n 2, 1), (16, .iaload, 1), (17, .iconst (-1), 1), (18, .if_icmp .ne 7, 3), (21, .iconst 0, 1), (22, .goto 4, 3), (25, .iconst 1, 1), (26, .iadd, 1), (27, .istore_n 1, 1), (28, .iinc 2 1, 3), (31, .goto (-27), 3), (34, .iload_n 1, 1), (35, .ireturn, 1)]
set_option maxRecDepth 100000 in
theorem DX6_reachable_0 : dOK cX6_reachable LX6_reachable_0 := by unfold dOK; decide +kernel
def LX6_changes_0 : List (Nat × Instr × Nat) := [(0, .aload_n 0, 1), (1, .getfield 7, 3), (4, .iload_n 1, 1), (5, .iaload, 1), (6, .istore_n 3, 1), (7, .aload_n 0, 1), (8, .getfield 7, 3), (11, .iload_n 1, 1), (12, .iload_n 2, 1), (13, .iastore, 1), (14, .iload_n 3, 1), (15, .ireturn, 1)]
set_option maxRecDepth 100000 in
theorem DX6_changes_0 : dOK cX6_changes LX6_changes_0 := by unfold dOK; decide +kernel
def LX6_door_0 : List (Nat × Instr × Nat) := [(0, .aload_n 0, 1), (1, .iconst 0, 1), (2, .putfield 40, 3), (5, .iload_n 1, 1), (6, .iconst 0, 1), (7, .bipush 14, 2), (9, .invokestatic 44, 3), (12, .ifCond .ne 9, 3), (15, .aload_n 0, 1), (16, .iconst 1, 1), (17, .invokevirtual 59, 3), (20, .ireturn, 1), (21, .iload_n 2, 1), (22, .iconst 0, 1), (23, .iconst 5, 1), (24, .invokestatic 44, 3), (27, .ifCond .ne 9, 3), (30, .aload_n 0, 1), (31, .iconst 2, 1), (32, .invokevirtual 59, 3), (35, .ireturn, 1), (36, .aload_n 0, 1), (37, .invokevirtual 105, 3), (40, .aload_n 0, 1), (41, .bipush 22, 2), (43, .iload_n 1, 1), (44, .iadd, 1), (45, .iload_n 2, 1), (46, .invokevirtual 108, 3), (49, .ireturn, 1)]
set_option maxRecDepth 100000 in
theorem DX6_door_0 : dOK cX6_door LX6_door_0 := by unfold dOK; decide +kernel
def LX6_keys_0 : List (Nat × Instr × Nat) := [(0, .aload_n 0, 1), (1, .getfield 7, 3), (4, .iconst 2, 1), (5, .iaload, 1), (6, .ifCond .le 7, 3), (9, .iconst 1, 1), (10, .goto 4, 3), (13, .iconst 0, 1), (14, .istore_n 1, 1), (15, .iconst 0, 1), (16, .istore_n 2, 1), (17, .iload_n 2, 1), (18, .bipush 16, 2), (20, .if_icmp .ge 29, 3), (23, .iload_n 1, 1), (24, .aload_n 0, 1), (25, .getfield 7, 3), (28, .bipush 6, 2), (30, .iload_n 2, 1), (31, .iadd, 1), (32, .iaload, 1), (33, .ifCond .le 7, 3), (36, .iconst 1, 1), (37, .goto 4, 3), (40, .iconst 0, 1), (41, .iadd, 1), (42, .istore_n 1, 1), (43, .iinc 2 1, 3), (46, .goto (-29), 3), (49, .iload_n 1, 1), (50, .ireturn, 1)]
set_option maxRecDepth 100000 in
theorem DX6_keys_0 : dOK cX6_keys LX6_keys_0 := by unfold dOK; decide +kernel
def LX6_key_0 : List (Nat × Instr × Nat) := [(0, .aload_n 0, 1), (1, .iconst 0, 1), (2, .putfield 40, 3), (5, .iload_n 1, 1), (6, .invokestatic 63, 3), (9, .ifCond .ne 9, 3), (12, .aload_n 0, 1), (13, .iconst 1, 1), (14, .invokevirtual 59, 3), (17, .ireturn, 1), (18, .iload_n 2, 1), (19, .iconst 0, 1), (20, .iconst 5, 1), (21, .invokestatic 44, 3), (24, .ifCond .ne 9, 3), (27, .aload_n 0, 1), (28, .iconst 2, 1), (29, .invokevirtual 59, 3), (32, .ireturn, 1), (33, .iload_n 2, 1), (34, .ifCond .le 29, 3), (37, .aload_n 0, 1), (38, .getfield 7, 3), (41, .bipush 6, 2), (43, .iload_n 1, 1), (44, .iadd, 1), (45, .iaload, 1), (46, .ifCond .ne 17, 3), (49, .aload_n 0, 1), (50, .invokevirtual 112, 3), (53, .iconst 2, 1), (54, .if_icmp .ne 9, 3), (57, .aload_n 0, 1), (58, .iconst 3, 1), (59, .invokevirtual 59, 3), (62, .ireturn, 1), (63, .aload_n 0, 1), (64, .invokevirtual 105, 3), (67, .aload_n 0, 1), (68, .bipush 6, 2)]
set_option maxRecDepth 100000 in
theorem DX6_key_0 : dOK cX6_key LX6_key_0 := by unfold dOK; decide +kernel
def LX6_key_1 : List (Nat × Instr × Nat) := [(70, .iload_n 1, 1), (71, .iadd, 1), (72, .iload_n 2, 1), (73, .invokevirtual 108, 3), (76, .ireturn, 1)]
set_option maxRecDepth 100000 in
theorem DX6_key_1 : dOK cX6_key LX6_key_1 := by unfold dOK; decide +kernel
def LX6_ladder_0 : List (Nat × Instr × Nat) := [(0, .aload_n 0, 1), (1, .iconst 0, 1), (2, .putfield 40, 3), (5, .iload_n 1, 1), (6, .invokestatic 63, 3), (9, .ifCond .ne 9, 3), (12, .aload_n 0, 1), (13, .iconst 1, 1), (14, .invokevirtual 59, 3), (17, .ireturn, 1), (18, .aload_n 0, 1), (19, .invokevirtual 105, 3), (22, .aload_n 0, 1), (23, .bipush 37, 2), (25, .iload_n 1, 1), (26, .iadd, 1), (27, .iload_n 2, 1), (28, .ifCond .eq 7, 3), (31, .iconst 1, 1), (32, .goto 4, 3), (35, .iconst 0, 1), (36, .invokevirtual 108, 3), (39, .ireturn, 1)]
set_option maxRecDepth 100000 in
theorem DX6_ladder_0 : dOK cX6_ladder LX6_ladder_0 := by unfold dOK; decide +kernel
def LX6_fold_0 : List (Nat × Instr × Nat) := [(0, .aload_n 0, 1), (1, .iconst 0, 1), (2, .putfield 40, 3), (5, .iload_n 1, 1), (6, .iconst 2, 1), (7, .bipush 8, 2), (9, .invokestatic 44, 3), (12, .ifCond .ne 9, 3), (15, .aload_n 0, 1), (16, .iconst 1, 1), (17, .invokevirtual 59, 3), (20, .ireturn, 1), (21, .aload_n 0, 1), (22, .invokevirtual 105, 3), (25, .aload_n 0, 1), (26, .iconst 0, 1), (27, .iload_n 1, 1), (28, .invokevirtual 108, 3), (31, .ireturn, 1)]
set_option maxRecDepth 100000 in
theorem DX6_fold_0 : dOK cX6_fold LX6_fold_0 := by unfold dOK; decide +kernel
def LX6_stand_0 : List (Nat × Instr × Nat) := [(0, .aload_n 0, 1), (1, .iconst 0, 1), (2, .putfield 40, 3), (5, .iload_n 1, 1), (6, .invokestatic 63, 3), (9, .ifCond .ne 9, 3), (12, .aload_n 0, 1), (13, .iconst 1, 1), (14, .invokevirtual 59, 3), (17, .ireturn, 1), (18, .aload_n 0, 1), (19, .invokevirtual 105, 3), (22, .aload_n 0, 1), (23, .iconst 1, 1), (24, .iload_n 1, 1), (25, .invokevirtual 108, 3), (28, .ireturn, 1)]
set_option maxRecDepth 100000 in
theorem DX6_stand_0 : dOK cX6_stand LX6_stand_0 := by unfold dOK; decide +kernel
def LX6_step_0 : List (Nat × Instr × Nat) := [(0, .aload_n 0, 1), (1, .iconst 0, 1), (2, .putfield 40, 3), (5, .iload_n 1, 1), (6, .iconst 0, 1), (7, .iconst 4, 1), (8, .invokestatic 44, 3), (11, .ifCond .ne 9, 3), (14, .aload_n 0, 1), (15, .iconst 1, 1), (16, .invokevirtual 59, 3), (19, .ireturn, 1), (20, .aload_n 0, 1), (21, .getfield 7, 3), (24, .iload_n 1, 1), (25, .invokestatic 116, 3), (28, .ifCond .le 9, 3), (31, .aload_n 0, 1), (32, .iconst 2, 1), (33, .invokevirtual 59, 3), (36, .ireturn, 1), (37, .aload_n 0, 1), (38, .invokevirtual 105, 3), (41, .aload_n 0, 1), (42, .getfield 7, 3), (45, .iload_n 1, 1), (46, .invokestatic 119, 3), (49, .aload_n 0, 1), (50, .getfield 7, 3), (53, .iconst 1, 1), (54, .iaload, 1), (55, .ireturn, 1)]
set_option maxRecDepth 100000 in
theorem DX6_step_0 : dOK cX6_step LX6_step_0 := by unfold dOK; decide +kernel
def LX6_walk_0 : List (Nat × Instr × Nat) := [(0, .aload_n 0, 1), (1, .iconst 0, 1), (2, .putfield 40, 3), (5, .iload_n 1, 1), (6, .invokestatic 63, 3), (9, .ifCond .ne 9, 3), (12, .aload_n 0, 1), (13, .iconst 1, 1), (14, .invokevirtual 59, 3), (17, .ireturn, 1), (18, .aload_n 0, 1), (19, .invokevirtual 123, 3), (22, .aload_n 0, 1), (23, .iload_n 1, 1), (24, .invokevirtual 102, 3), (27, .istore_n 2, 1), (28, .iload_n 2, 1), (29, .iconst (-1), 1), (30, .if_icmp .ne 9, 3), (33, .aload_n 0, 1), (34, .iconst 2, 1), (35, .invokevirtual 59, 3), (38, .ireturn, 1), (39, .aload_n 0, 1), (40, .invokevirtual 105, 3), (43, .iconst 0, 1), (44, .istore_n 3, 1), (45, .iload_n 3, 1), (46, .iload_n 2, 1), (47, .if_icmp .ge 22, 3), (50, .aload_n 0, 1), (51, .getfield 7, 3), (54, .aload_n 0, 1), (55, .iload_n 1, 1), (56, .iload_n 3, 1), (57, .invokevirtual 126, 3), (60, .invokestatic 119, 3), (63, .iinc 3 1, 3), (66, .goto (-21), 3), (69, .iload_n 2, 1)]
set_option maxRecDepth 100000 in
theorem DX6_walk_0 : dOK cX6_walk LX6_walk_0 := by unfold dOK; decide +kernel
def LX6_walk_1 : List (Nat × Instr × Nat) := [(70, .ireturn, 1)]
set_option maxRecDepth 100000 in
theorem DX6_walk_1 : dOK cX6_walk LX6_walk_1 := by unfold dOK; decide +kernel
def LX6_append_0 : List (Nat × Instr × Nat) := [(0, .aload_n 0, 1), (1, .iconst 0, 1), (2, .putfield 40, 3), (5, .iload_n 1, 1), (6, .bipush 33, 2), (8, .bipush 126, 2), (10, .invokestatic 44, 3), (13, .ifCond .ne 9, 3), (16, .aload_n 0, 1), (17, .iconst 1, 1), (18, .invokevirtual 59, 3), (21, .ireturn, 1), (22, .aload_n 0, 1), (23, .getfield 129, 3), (26, .bipush 60, 2), (28, .if_icmp .ne 9, 3), (31, .aload_n 0, 1), (32, .iconst 2, 1), (33, .invokevirtual 59, 3), (36, .ireturn, 1), (37, .aload_n 0, 1), (38, .getfield 19, 3), (41, .aload_n 0, 1), (42, .getfield 129, 3), (45, .iload_n 1, 1), (46, .iastore, 1), (47, .aload_n 0, 1), (48, .dup, 1), (49, .getfield 129, 3), (52, .iconst 1, 1), (53, .iadd, 1), (54, .putfield 129, 3), (57, .aload_n 0, 1), (58, .getfield 129, 3), (61, .ireturn, 1)]
set_option maxRecDepth 100000 in
theorem DX6_append_0 : dOK cX6_append LX6_append_0 := by unfold dOK; decide +kernel
def LX6_clearBuffer_0 : List (Nat × Instr × Nat) := [(0, .aload_n 0, 1), (1, .iconst 0, 1), (2, .putfield 40, 3), (5, .aload_n 0, 1), (6, .getfield 129, 3), (9, .istore_n 1, 1), (10, .aload_n 0, 1), (11, .iconst 0, 1), (12, .putfield 129, 3), (15, .iload_n 1, 1), (16, .ireturn, 1)]
set_option maxRecDepth 100000 in
theorem DX6_clearBuffer_0 : dOK cX6_clearBuffer LX6_clearBuffer_0 := by unfold dOK; decide +kernel
def LX6_isAt_0 : List (Nat × Instr × Nat) := [(0, .aload_n 0, 1), (1, .getfield 132, 3), (4, .aload_n 0, 1), (5, .getfield 129, 3), (8, .if_icmp .ge 24, 3), (11, .aload_n 0, 1), (12, .getfield 19, 3), (15, .aload_n 0, 1), (16, .getfield 132, 3), (19, .iaload, 1), (20, .iload_n 1, 1), (21, .iload_n 2, 1), (22, .invokestatic 44, 3), (25, .ifCond .eq 7, 3), (28, .iconst 1, 1), (29, .goto 4, 3), (32, .iconst 0, 1), (33, .ireturn, 1)]
set_option maxRecDepth 100000 in
theorem DX6_isAt_0 : dOK cX6_isAt LX6_isAt_0 := by unfold dOK; decide +kernel
def LX6_isText_0 : List (Nat × Instr × Nat) := [(0, .aload_n 0, 1), (1, .iconst 0, 1), (2, .putfield 132, 3), (5, .aload_n 0, 1), (6, .iconst 0, 1), (7, .putfield 135, 3), (10, .iconst 0, 1), (11, .istore_n 1, 1), (12, .iconst 0, 1), (13, .istore_n 2, 1), (14, .iload_n 2, 1), (15, .bipush 16, 2), (17, .if_icmp .ge 229, 3), (20, .iload_n 1, 1), (21, .iconst 2, 1), (22, .if_icmp .ge 18, 3), (25, .aload_n 0, 1), (26, .bipush 49, 2), (28, .bipush 53, 2), (30, .invokevirtual 138, 3), (33, .ifCond .eq 7, 3), (36, .iconst 1, 1), (37, .goto 4, 3), (40, .iconst 0, 1), (41, .istore_n 3, 1), (42, .iload_n 3, 1), (43, .ifCond .ne 36, 3), (46, .aload_n 0, 1), (47, .bipush 46, 2), (49, .bipush 46, 2), (51, .invokevirtual 138, 3), (54, .ifCond .ne 25, 3), (57, .aload_n 0, 1), (58, .aload_n 0, 1), (59, .getfield 132, 3), (62, .aload_n 0, 1), (63, .getfield 129, 3), (66, .if_icmp .ge 7, 3), (69, .iconst 1, 1), (70, .goto 4, 3)]
set_option maxRecDepth 100000 in
theorem DX6_isText_0 : dOK cX6_isText LX6_isText_0 := by unfold dOK; decide +kernel
def LX6_isText_1 : List (Nat × Instr × Nat) := [(73, .iconst 0, 1), (74, .putfield 135, 3), (77, .iconst 0, 1), (78, .ireturn, 1), (79, .iload_n 1, 1), (80, .iload_n 3, 1), (81, .ifCond .eq 7, 3), (84, .iconst 1, 1), (85, .goto 4, 3), (88, .iconst 0, 1), (89, .iadd, 1), (90, .istore_n 1, 1), (91, .aload_n 0, 1), (92, .getfield 22, 3), (95, .iload_n 2, 1), (96, .iload_n 3, 1), (97, .ifCond .eq 18, 3), (100, .aload_n 0, 1), (101, .getfield 19, 3), (104, .aload_n 0, 1), (105, .getfield 132, 3), (108, .iaload, 1), (109, .bipush 48, 2), (111, .isub, 1), (112, .goto 4, 3), (115, .iconst 0, 1), (116, .iastore, 1), (117, .aload_n 0, 1), (118, .dup, 1), (119, .getfield 132, 3), (122, .iconst 1, 1), (123, .iadd, 1), (124, .putfield 132, 3), (127, .aload_n 0, 1), (128, .getfield 22, 3), (131, .bipush 32, 2), (133, .iload_n 2, 1), (134, .iadd, 1), (135, .aload_n 0, 1), (136, .bipush 124, 2)]
set_option maxRecDepth 100000 in
theorem DX6_isText_1 : dOK cX6_isText LX6_isText_1 := by unfold dOK; decide +kernel
def LX6_isText_2 : List (Nat × Instr × Nat) := [(138, .bipush 124, 2), (140, .invokevirtual 138, 3), (143, .ifCond .eq 7, 3), (146, .iconst 1, 1), (147, .goto 4, 3), (150, .iconst 0, 1), (151, .iastore, 1), (152, .aload_n 0, 1), (153, .dup, 1), (154, .getfield 132, 3), (157, .aload_n 0, 1), (158, .getfield 22, 3), (161, .bipush 32, 2), (163, .iload_n 2, 1), (164, .iadd, 1), (165, .iaload, 1), (166, .iadd, 1), (167, .putfield 132, 3), (170, .aload_n 0, 1), (171, .getfield 22, 3), (174, .bipush 16, 2), (176, .iload_n 2, 1), (177, .iadd, 1), (178, .iload_n 2, 1), (179, .bipush 15, 2), (181, .if_icmp .ge 31, 3), (184, .aload_n 0, 1), (185, .bipush 97, 2), (187, .bipush 101, 2), (189, .invokevirtual 138, 3), (192, .ifCond .eq 20, 3), (195, .aload_n 0, 1), (196, .getfield 19, 3), (199, .aload_n 0, 1), (200, .getfield 132, 3), (203, .iaload, 1), (204, .bipush 97, 2), (206, .isub, 1), (207, .iconst 1, 1), (208, .iadd, 1)]
set_option maxRecDepth 100000 in
theorem DX6_isText_2 : dOK cX6_isText LX6_isText_2 := by unfold dOK; decide +kernel
def LX6_isText_3 : List (Nat × Instr × Nat) := [(209, .goto 4, 3), (212, .iconst 0, 1), (213, .iastore, 1), (214, .aload_n 0, 1), (215, .dup, 1), (216, .getfield 132, 3), (219, .aload_n 0, 1), (220, .getfield 22, 3), (223, .bipush 16, 2), (225, .iload_n 2, 1), (226, .iadd, 1), (227, .iaload, 1), (228, .ifCond .le 7, 3), (231, .iconst 1, 1), (232, .goto 4, 3), (235, .iconst 0, 1), (236, .iadd, 1), (237, .putfield 132, 3), (240, .iinc 2 1, 3), (243, .goto (-229), 3), (246, .aload_n 0, 1), (247, .aload_n 0, 1), (248, .getfield 132, 3), (251, .aload_n 0, 1), (252, .getfield 129, 3), (255, .if_icmp .ge 7, 3), (258, .iconst 1, 1), (259, .goto 4, 3), (262, .iconst 0, 1), (263, .putfield 135, 3), (266, .aload_n 0, 1), (267, .getfield 132, 3), (270, .aload_n 0, 1), (271, .getfield 129, 3), (274, .if_icmp .ne 7, 3), (277, .iconst 1, 1), (278, .goto 4, 3), (281, .iconst 0, 1), (282, .ireturn, 1)]
set_option maxRecDepth 100000 in
theorem DX6_isText_3 : dOK cX6_isText LX6_isText_3 := by unfold dOK; decide +kernel
def LX6_firstError_0 : List (Nat × Instr × Nat) := [(0, .aload_n 0, 1), (1, .iconst 0, 1), (2, .putfield 40, 3), (5, .aload_n 0, 1), (6, .invokevirtual 142, 3), (9, .istore_n 1, 1), (10, .iload_n 1, 1), (11, .ifCond .ne 17, 3), (14, .aload_n 0, 1), (15, .getfield 135, 3), (18, .ifCond .eq 10, 3), (21, .aload_n 0, 1), (22, .getfield 132, 3), (25, .goto 7, 3), (28, .aload_n 0, 1), (29, .getfield 129, 3), (32, .ireturn, 1)]
set_option maxRecDepth 100000 in
theorem DX6_firstError_0 : dOK cX6_firstError LX6_firstError_0 := by unfold dOK; decide +kernel
def LX6_corridor_0 : List (Nat × Instr × Nat) := [(0, .aload_n 0, 1), (1, .iconst 0, 1), (2, .putfield 40, 3), (5, .aload_n 0, 1), (6, .invokevirtual 142, 3), (9, .ifCond .ne 9, 3), (12, .aload_n 0, 1), (13, .iconst 1, 1), (14, .invokevirtual 59, 3), (17, .ireturn, 1), (18, .aload_n 0, 1), (19, .invokevirtual 105, 3), (22, .aload_n 0, 1), (23, .iconst 0, 1), (24, .putfield 129, 3), (27, .aload_n 0, 1), (28, .getfield 7, 3), (31, .iconst 1, 1), (32, .iconst 0, 1), (33, .iastore, 1), (34, .aload_n 0, 1), (35, .getfield 7, 3), (38, .iconst 2, 1), (39, .iconst 0, 1), (40, .iastore, 1), (41, .iconst 0, 1), (42, .istore_n 1, 1), (43, .iload_n 1, 1), (44, .bipush 16, 2), (46, .if_icmp .ge 42, 3), (49, .aload_n 0, 1), (50, .getfield 7, 3), (53, .bipush 6, 2), (55, .iload_n 1, 1), (56, .iadd, 1), (57, .aload_n 0, 1), (58, .getfield 22, 3), (61, .iload_n 1, 1), (62, .iaload, 1), (63, .iastore, 1)]
set_option maxRecDepth 100000 in
theorem DX6_corridor_0 : dOK cX6_corridor LX6_corridor_0 := by unfold dOK; decide +kernel
def LX6_corridor_1 : List (Nat × Instr × Nat) := [(64, .aload_n 0, 1), (65, .getfield 7, 3), (68, .bipush 37, 2), (70, .iload_n 1, 1), (71, .iadd, 1), (72, .aload_n 0, 1), (73, .getfield 22, 3), (76, .bipush 32, 2), (78, .iload_n 1, 1), (79, .iadd, 1), (80, .iaload, 1), (81, .iastore, 1), (82, .iinc 1 1, 3), (85, .goto (-42), 3), (88, .iconst 0, 1), (89, .istore_n 1, 1), (90, .iload_n 1, 1), (91, .bipush 15, 2), (93, .if_icmp .ge 27, 3), (96, .aload_n 0, 1), (97, .getfield 7, 3), (100, .bipush 22, 2), (102, .iload_n 1, 1), (103, .iadd, 1), (104, .aload_n 0, 1), (105, .getfield 22, 3), (108, .bipush 16, 2), (110, .iload_n 1, 1), (111, .iadd, 1), (112, .iaload, 1), (113, .iastore, 1), (114, .iinc 1 1, 3), (117, .goto (-27), 3), (120, .aload_n 0, 1), (121, .invokevirtual 112, 3), (124, .ireturn, 1)]
set_option maxRecDepth 100000 in
theorem DX6_corridor_1 : dOK cX6_corridor LX6_corridor_1 := by unfold dOK; decide +kernel
def LX6_ofCell_0 : List (Nat × Instr × Nat) := [(0, .aload_n 0, 1), (1, .invokevirtual 123, 3), (4, .iload_n 2, 1), (5, .tableswitch 106 0 5 #[39, 49, 69, 79, 88, 97], 39), (44, .aload_n 0, 1), (45, .getfield 7, 3), (48, .bipush 6, 2), (50, .iload_n 1, 1), (51, .iadd, 1), (52, .iaload, 1), (53, .ireturn, 1), (54, .iload_n 1, 1), (55, .bipush 15, 2), (57, .if_icmp .ge 15, 3), (60, .aload_n 0, 1), (61, .getfield 7, 3), (64, .bipush 22, 2), (66, .iload_n 1, 1), (67, .iadd, 1), (68, .iaload, 1), (69, .goto 4, 3), (72, .iconst 0, 1), (73, .ireturn, 1), (74, .aload_n 0, 1), (75, .getfield 7, 3), (78, .bipush 37, 2), (80, .iload_n 1, 1), (81, .iadd, 1), (82, .iaload, 1), (83, .ireturn, 1), (84, .iload_n 1, 1), (85, .aload_n 0, 1), (86, .getfield 7, 3), (89, .iconst 0, 1), (90, .iaload, 1), (91, .idiv, 1), (92, .ireturn, 1), (93, .aload_n 0, 1), (94, .getfield 7, 3), (97, .iload_n 1, 1)]
set_option maxRecDepth 100000 in
theorem DX6_ofCell_0 : dOK cX6_ofCell LX6_ofCell_0 := by unfold dOK; decide +kernel
def LX6_ofCell_1 : List (Nat × Instr × Nat) := [(98, .invokestatic 67, 3), (101, .ireturn, 1), (102, .aload_n 0, 1), (103, .getfield 7, 3), (106, .iload_n 1, 1), (107, .invokestatic 71, 3), (110, .ireturn, 1), (111, .aload_n 0, 1), (112, .iload_n 1, 1), (113, .invokevirtual 102, 3), (116, .ireturn, 1)]
set_option maxRecDepth 100000 in
theorem DX6_ofCell_1 : dOK cX6_ofCell LX6_ofCell_1 := by unfold dOK; decide +kernel
def LX6_cell_0 : List (Nat × Instr × Nat) := [(0, .aload_n 0, 1), (1, .iconst 0, 1), (2, .putfield 40, 3), (5, .iload_n 1, 1), (6, .invokestatic 63, 3), (9, .ifCond .ne 9, 3), (12, .aload_n 0, 1), (13, .iconst 1, 1), (14, .invokevirtual 59, 3), (17, .ireturn, 1), (18, .iload_n 2, 1), (19, .iconst 0, 1), (20, .bipush 6, 2), (22, .invokestatic 44, 3), (25, .ifCond .eq 12, 3), (28, .aload_n 0, 1), (29, .iload_n 1, 1), (30, .iload_n 2, 1), (31, .invokevirtual 146, 3), (34, .goto 8, 3), (37, .aload_n 0, 1), (38, .iconst 2, 1), (39, .invokevirtual 59, 3), (42, .ireturn, 1)]
set_option maxRecDepth 100000 in
theorem DX6_cell_0 : dOK cX6_cell LX6_cell_0 := by unfold dOK; decide +kernel
def LX6_walker_0 : List (Nat × Instr × Nat) := [(0, .aload_n 0, 1), (1, .iconst 0, 1), (2, .putfield 40, 3), (5, .iload_n 1, 1), (6, .iconst 0, 1), (7, .iconst 4, 1), (8, .invokestatic 44, 3), (11, .ifCond .eq 14, 3), (14, .aload_n 0, 1), (15, .getfield 7, 3), (18, .iconst 1, 1), (19, .iload_n 1, 1), (20, .iadd, 1), (21, .iaload, 1), (22, .goto 8, 3), (25, .aload_n 0, 1), (26, .iconst 1, 1), (27, .invokevirtual 59, 3), (30, .ireturn, 1)]
set_option maxRecDepth 100000 in
theorem DX6_walker_0 : dOK cX6_walker LX6_walker_0 := by unfold dOK; decide +kernel
def LX6_planned_0 : List (Nat × Instr × Nat) := [(0, .aload_n 0, 1), (1, .invokevirtual 123, 3), (4, .aload_n 0, 1), (5, .iload_n 1, 1), (6, .iload_n 2, 1), (7, .invokevirtual 126, 3), (10, .ireturn, 1)]
set_option maxRecDepth 100000 in
theorem DX6_planned_0 : dOK cX6_planned LX6_planned_0 := by unfold dOK; decide +kernel
def LX6_plan_0 : List (Nat × Instr × Nat) := [(0, .aload_n 0, 1), (1, .iconst 0, 1), (2, .putfield 40, 3), (5, .iload_n 1, 1), (6, .invokestatic 63, 3), (9, .ifCond .ne 9, 3), (12, .aload_n 0, 1), (13, .iconst 1, 1), (14, .invokevirtual 59, 3), (17, .ireturn, 1), (18, .iload_n 2, 1), (19, .ifCond .lt 12, 3), (22, .aload_n 0, 1), (23, .iload_n 1, 1), (24, .iload_n 2, 1), (25, .invokevirtual 149, 3), (28, .goto 8, 3), (31, .aload_n 0, 1), (32, .iconst 2, 1), (33, .invokevirtual 59, 3), (36, .ireturn, 1)]
set_option maxRecDepth 100000 in
theorem DX6_plan_0 : dOK cX6_plan LX6_plan_0 := by unfold dOK; decide +kernel
def LX6_doors_0 : List (Nat × Instr × Nat) := [(0, .iconst 0, 1), (1, .istore_n 1, 1), (2, .iconst 0, 1), (3, .istore_n 2, 1), (4, .iload_n 2, 1), (5, .bipush 15, 2), (7, .if_icmp .ge 29, 3), (10, .iload_n 1, 1), (11, .aload_n 0, 1), (12, .getfield 7, 3), (15, .bipush 22, 2), (17, .iload_n 2, 1), (18, .iadd, 1), (19, .iaload, 1), (20, .ifCond .le 7, 3), (23, .iconst 1, 1), (24, .goto 4, 3), (27, .iconst 0, 1), (28, .iadd, 1), (29, .istore_n 1, 1), (30, .iinc 2 1, 3), (33, .goto (-29), 3), (36, .iload_n 1, 1), (37, .ireturn, 1)]
set_option maxRecDepth 100000 in
theorem DX6_doors_0 : dOK cX6_doors LX6_doors_0 := by unfold dOK; decide +kernel
def LX6_ladders_0 : List (Nat × Instr × Nat) := [(0, .iconst 0, 1), (1, .istore_n 1, 1), (2, .iconst 0, 1), (3, .istore_n 2, 1), (4, .iload_n 2, 1), (5, .bipush 16, 2), (7, .if_icmp .ge 29, 3), (10, .iload_n 1, 1), (11, .aload_n 0, 1), (12, .getfield 7, 3), (15, .iload_n 2, 1), (16, .invokestatic 71, 3), (19, .iconst (-1), 1), (20, .if_icmp .ne 7, 3), (23, .iconst 0, 1), (24, .goto 4, 3), (27, .iconst 1, 1), (28, .iadd, 1), (29, .istore_n 1, 1), (30, .iinc 2 1, 3), (33, .goto (-29), 3), (36, .iload_n 1, 1), (37, .ireturn, 1)]
set_option maxRecDepth 100000 in
theorem DX6_ladders_0 : dOK cX6_ladders LX6_ladders_0 := by unfold dOK; decide +kernel
def LX6_longest_0 : List (Nat × Instr × Nat) := [(0, .iconst 0, 1), (1, .istore_n 1, 1), (2, .iconst 0, 1), (3, .istore_n 2, 1), (4, .iload_n 2, 1), (5, .bipush 16, 2), (7, .if_icmp .ge 28, 3), (10, .aload_n 0, 1), (11, .iload_n 2, 1), (12, .invokevirtual 102, 3), (15, .iload_n 1, 1), (16, .if_icmp .le 11, 3), (19, .aload_n 0, 1), (20, .iload_n 2, 1), (21, .invokevirtual 102, 3), (24, .goto 4, 3), (27, .iload_n 1, 1), (28, .istore_n 1, 1), (29, .iinc 2 1, 3), (32, .goto (-28), 3), (35, .iload_n 1, 1), (36, .ireturn, 1)]
set_option maxRecDepth 100000 in
theorem DX6_longest_0 : dOK cX6_longest LX6_longest_0 := by unfold dOK; decide +kernel
def LX6_counted_0 : List (Nat × Instr × Nat) := [(0, .aload_n 0, 1), (1, .invokevirtual 123, 3), (4, .iload_n 1, 1), (5, .tableswitch 71 0 5 #[39, 44, 49, 54, 59, 64], 39), (44, .aload_n 0, 1), (45, .invokevirtual 112, 3), (48, .ireturn, 1), (49, .aload_n 0, 1), (50, .invokevirtual 152, 3), (53, .ireturn, 1), (54, .aload_n 0, 1), (55, .invokevirtual 155, 3), (58, .ireturn, 1), (59, .aload_n 0, 1), (60, .invokevirtual 158, 3), (63, .ireturn, 1), (64, .aload_n 0, 1), (65, .invokevirtual 161, 3), (68, .ireturn, 1), (69, .aload_n 0, 1), (70, .getfield 7, 3), (73, .iconst 0, 1), (74, .iaload, 1), (75, .ireturn, 1), (76, .aload_n 0, 1), (77, .getfield 52, 3), (80, .ireturn, 1)]
set_option maxRecDepth 100000 in
theorem DX6_counted_0 : dOK cX6_counted LX6_counted_0 := by unfold dOK; decide +kernel
def LX6_count_0 : List (Nat × Instr × Nat) := [(0, .aload_n 0, 1), (1, .iconst 0, 1), (2, .putfield 40, 3), (5, .iload_n 1, 1), (6, .iconst 0, 1), (7, .bipush 6, 2), (9, .invokestatic 44, 3), (12, .ifCond .eq 11, 3), (15, .aload_n 0, 1), (16, .iload_n 1, 1), (17, .invokevirtual 164, 3), (20, .goto 8, 3), (23, .aload_n 0, 1), (24, .iconst 1, 1), (25, .invokevirtual 59, 3), (28, .ireturn, 1)]
set_option maxRecDepth 100000 in
theorem DX6_count_0 : dOK cX6_count LX6_count_0 := by unfold dOK; decide +kernel
def LX6_refusal_0 : List (Nat × Instr × Nat) := [(0, .aload_n 0, 1), (1, .iconst 0, 1), (2, .putfield 40, 3), (5, .iload_n 1, 1), (6, .iconst 0, 1), (7, .iconst 4, 1), (8, .invokestatic 44, 3), (11, .ifCond .eq 14, 3), (14, .aload_n 0, 1), (15, .getfield 7, 3), (18, .iload_n 1, 1), (19, .invokestatic 116, 3), (22, .goto 8, 3), (25, .aload_n 0, 1), (26, .iconst 1, 1), (27, .invokevirtual 59, 3), (30, .ireturn, 1)]
set_option maxRecDepth 100000 in
theorem DX6_refusal_0 : dOK cX6_refusal LX6_refusal_0 := by unfold dOK; decide +kernel
def LX6_with_0 : List (Nat × Instr × Nat) := [(0, .aload_n 0, 1), (1, .getfield 7, 3), (4, .iconst 0, 1), (5, .aload_n 0, 1), (6, .getfield 13, 3), (9, .iconst 0, 1), (10, .invokestatic 55, 3), (13, .aload_n 0, 1), (14, .getfield 13, 3), (17, .iload_n 1, 1), (18, .iload_n 2, 1), (19, .iastore, 1), (20, .aload_n 0, 1), (21, .aload_n 0, 1), (22, .getfield 13, 3), (25, .invokevirtual 98, 3), (28, .aload_n 0, 1), (29, .iconst 0, 1), (30, .putfield 48, 3), (33, .aload_n 0, 1), (34, .invokevirtual 158, 3), (37, .ireturn, 1)]
set_option maxRecDepth 100000 in
theorem DX6_with_0 : dOK cX6_with LX6_with_0 := by unfold dOK; decide +kernel
def LX6_ifDoor_0 : List (Nat × Instr × Nat) := [(0, .aload_n 0, 1), (1, .iconst 0, 1), (2, .putfield 40, 3), (5, .iload_n 1, 1), (6, .iconst 0, 1), (7, .bipush 14, 2), (9, .invokestatic 44, 3), (12, .ifCond .ne 9, 3), (15, .aload_n 0, 1), (16, .iconst 1, 1), (17, .invokevirtual 59, 3), (20, .ireturn, 1), (21, .iload_n 2, 1), (22, .iconst 0, 1), (23, .iconst 5, 1), (24, .invokestatic 44, 3), (27, .ifCond .eq 15, 3), (30, .aload_n 0, 1), (31, .bipush 22, 2), (33, .iload_n 1, 1), (34, .iadd, 1), (35, .iload_n 2, 1), (36, .invokevirtual 167, 3), (39, .goto 8, 3), (42, .aload_n 0, 1), (43, .iconst 2, 1), (44, .invokevirtual 59, 3), (47, .ireturn, 1)]
set_option maxRecDepth 100000 in
theorem DX6_ifDoor_0 : dOK cX6_ifDoor LX6_ifDoor_0 := by unfold dOK; decide +kernel
def LX6_without_0 : List (Nat × Instr × Nat) := [(0, .aload_n 0, 1), (1, .iconst 0, 1), (2, .putfield 40, 3), (5, .iload_n 1, 1), (6, .invokestatic 63, 3), (9, .ifCond .eq 15, 3), (12, .aload_n 0, 1), (13, .bipush 6, 2), (15, .iload_n 1, 1), (16, .iadd, 1), (17, .iconst 0, 1), (18, .invokevirtual 167, 3), (21, .goto 8, 3), (24, .aload_n 0, 1), (25, .iconst 1, 1), (26, .invokevirtual 59, 3), (29, .ireturn, 1)]
set_option maxRecDepth 100000 in
theorem DX6_without_0 : dOK cX6_without LX6_without_0 := by unfold dOK; decide +kernel
def LX6_best_0 : List (Nat × Instr × Nat) := [(0, .iconst 0, 1), (1, .istore_n 1, 1), (2, .iconst 0, 1), (3, .istore_n 2, 1), (4, .iconst 0, 1), (5, .istore_n 3, 1), (6, .iconst 2, 1), (7, .istore 4, 2), (9, .iload 4, 2), (11, .bipush 9, 2), (13, .if_icmp .ge 124, 3), (16, .aload_n 0, 1), (17, .iconst 0, 1), (18, .iload 4, 2), (20, .invokevirtual 167, 3), (23, .istore 5, 2), (25, .iconst 0, 1), (26, .istore 6, 2), (28, .iconst 0, 1), (29, .istore 7, 2), (31, .iload 7, 2), (33, .bipush 16, 2), (35, .if_icmp .ge 35, 3), (38, .iload 6, 2), (40, .aload_n 0, 1), (41, .getfield 37, 3), (44, .iload 7, 2), (46, .iaload, 1), (47, .iconst (-1), 1), (48, .if_icmp .ne 7, 3), (51, .iconst 0, 1), (52, .goto 9, 3), (55, .aload_n 0, 1), (56, .iload 7, 2), (58, .invokevirtual 102, 3), (61, .iadd, 1), (62, .istore 6, 2), (64, .iinc 7 1, 3), (67, .goto (-36), 3), (70, .iload 5, 2)]
set_option maxRecDepth 100000 in
theorem DX6_best_0 : dOK cX6_best LX6_best_0 := by unfold dOK; decide +kernel
def LX6_best_1 : List (Nat × Instr × Nat) := [(72, .iload_n 2, 1), (73, .if_icmp .gt 15, 3), (76, .iload 5, 2), (78, .iload_n 2, 1), (79, .if_icmp .ne 13, 3), (82, .iload 6, 2), (84, .iload_n 3, 1), (85, .if_icmp .ge 7, 3), (88, .iconst 1, 1), (89, .goto 4, 3), (92, .iconst 0, 1), (93, .istore 7, 2), (95, .iload 7, 2), (97, .ifCond .eq 8, 3), (100, .iload 4, 2), (102, .goto 4, 3), (105, .iload_n 1, 1), (106, .istore_n 1, 1), (107, .iload 7, 2), (109, .ifCond .eq 8, 3), (112, .iload 5, 2), (114, .goto 4, 3), (117, .iload_n 2, 1), (118, .istore_n 2, 1), (119, .iload 7, 2), (121, .ifCond .eq 8, 3), (124, .iload 6, 2), (126, .goto 4, 3), (129, .iload_n 3, 1), (130, .istore_n 3, 1), (131, .iinc 4 1, 3), (134, .goto (-125), 3), (137, .iload_n 1, 1), (138, .ireturn, 1)]
set_option maxRecDepth 100000 in
theorem DX6_best_1 : dOK cX6_best LX6_best_1 := by unfold dOK; decide +kernel
def LX6_bestFold_0 : List (Nat × Instr × Nat) := [(0, .aload_n 0, 1), (1, .iconst 0, 1), (2, .putfield 40, 3), (5, .aload_n 0, 1), (6, .invokevirtual 170, 3), (9, .ireturn, 1)]
set_option maxRecDepth 100000 in
theorem DX6_bestFold_0 : dOK cX6_bestFold LX6_bestFold_0 := by unfold dOK; decide +kernel
def LX6_share_0 : List (Nat × Instr × Nat) := [(0, .aload_n 0, 1), (1, .invokevirtual 123, 3), (4, .aload_n 0, 1), (5, .invokevirtual 158, 3), (8, .i2d, 1), (9, .ldc2_w 173, 3), (12, .ddiv, 1), (13, .dreturn, 1)]
set_option maxRecDepth 100000 in
theorem DX6_share_0 : dOK cX6_share LX6_share_0 := by unfold dOK; decide +kernel
def LX6_reached_0 : List (Nat × Instr × Nat) := [(0, .aload_n 0, 1), (1, .iconst 0, 1), (2, .putfield 40, 3), (5, .aload_n 0, 1), (6, .invokevirtual 175, 3), (9, .dreturn, 1)]
set_option maxRecDepth 100000 in
theorem DX6_reached_0 : dOK cX6_reached LX6_reached_0 := by unfold dOK; decide +kernel
def LX6_digest_0 : List (Nat × Instr × Nat) := [(0, .aload_n 0, 1), (1, .iconst 0, 1), (2, .putfield 40, 3), (5, .ldc2_w 179, 3), (8, .lstore_n 1, 1), (9, .iconst 0, 1), (10, .istore_n 3, 1), (11, .iload_n 3, 1), (12, .bipush 7, 2), (14, .if_icmp .ge 22, 3), (17, .ldc2_w 181, 3), (20, .lload_n 1, 1), (21, .lmul, 1), (22, .aload_n 0, 1), (23, .iload_n 3, 1), (24, .invokevirtual 164, 3), (27, .i2l, 1), (28, .ladd, 1), (29, .lstore_n 1, 1), (30, .iinc 3 1, 3), (33, .goto (-22), 3), (36, .iconst 0, 1), (37, .istore_n 3, 1), (38, .iload_n 3, 1), (39, .iconst 5, 1), (40, .if_icmp .ge 25, 3), (43, .ldc2_w 181, 3), (46, .lload_n 1, 1), (47, .lmul, 1), (48, .aload_n 0, 1), (49, .getfield 7, 3), (52, .iconst 1, 1), (53, .iload_n 3, 1), (54, .iadd, 1), (55, .iaload, 1), (56, .i2l, 1), (57, .ladd, 1), (58, .lstore_n 1, 1), (59, .iinc 3 1, 3), (62, .goto (-24), 3)]
set_option maxRecDepth 100000 in
theorem DX6_digest_0 : dOK cX6_digest LX6_digest_0 := by unfold dOK; decide +kernel
def LX6_digest_1 : List (Nat × Instr × Nat) := [(65, .iconst 0, 1), (66, .istore_n 3, 1), (67, .iload_n 3, 1), (68, .bipush 112, 2), (70, .if_icmp .ge 29, 3), (73, .ldc2_w 181, 3), (76, .lload_n 1, 1), (77, .lmul, 1), (78, .aload_n 0, 1), (79, .iload_n 3, 1), (80, .bipush 7, 2), (82, .idiv, 1), (83, .iload_n 3, 1), (84, .bipush 7, 2), (86, .irem, 1), (87, .invokevirtual 146, 3), (90, .i2l, 1), (91, .ladd, 1), (92, .lstore_n 1, 1), (93, .iinc 3 1, 3), (96, .goto (-29), 3), (99, .iconst 0, 1), (100, .istore_n 3, 1), (101, .iload_n 3, 1), (102, .iconst 5, 1), (103, .if_icmp .ge 25, 3), (106, .ldc2_w 181, 3), (109, .lload_n 1, 1), (110, .lmul, 1), (111, .aload_n 0, 1), (112, .getfield 7, 3), (115, .iload_n 3, 1), (116, .invokestatic 116, 3), (119, .i2l, 1), (120, .ladd, 1), (121, .lstore_n 1, 1), (122, .iinc 3 1, 3), (125, .goto (-24), 3), (128, .iconst 0, 1), (129, .istore_n 3, 1)]
set_option maxRecDepth 100000 in
theorem DX6_digest_1 : dOK cX6_digest LX6_digest_1 := by unfold dOK; decide +kernel
def LX6_digest_2 : List (Nat × Instr × Nat) := [(130, .iload_n 3, 1), (131, .aload_n 0, 1), (132, .bipush 15, 2), (134, .invokevirtual 102, 3), (137, .if_icmp .ge 24, 3), (140, .ldc2_w 181, 3), (143, .lload_n 1, 1), (144, .lmul, 1), (145, .aload_n 0, 1), (146, .bipush 15, 2), (148, .iload_n 3, 1), (149, .invokevirtual 126, 3), (152, .i2l, 1), (153, .ladd, 1), (154, .lstore_n 1, 1), (155, .iinc 3 1, 3), (158, .goto (-28), 3), (161, .ldc2_w 181, 3), (164, .ldc2_w 181, 3), (167, .lload_n 1, 1), (168, .lmul, 1), (169, .aload_n 0, 1), (170, .bipush 6, 2), (172, .iconst 0, 1), (173, .invokevirtual 167, 3), (176, .i2l, 1), (177, .ladd, 1), (178, .lmul, 1), (179, .aload_n 0, 1), (180, .bipush 29, 2), (182, .iconst 3, 1), (183, .invokevirtual 167, 3), (186, .i2l, 1), (187, .ladd, 1), (188, .lstore_n 1, 1), (189, .ldc2_w 181, 3), (192, .ldc2_w 181, 3), (195, .lload_n 1, 1), (196, .lmul, 1), (197, .aload_n 0, 1)]
set_option maxRecDepth 100000 in
theorem DX6_digest_2 : dOK cX6_digest LX6_digest_2 := by unfold dOK; decide +kernel
def LX6_digest_3 : List (Nat × Instr × Nat) := [(198, .invokevirtual 175, 3), (201, .invokestatic 183, 3), (204, .ladd, 1), (205, .lmul, 1), (206, .aload_n 0, 1), (207, .getfield 129, 3), (210, .i2l, 1), (211, .ladd, 1), (212, .lstore_n 1, 1), (213, .iconst 0, 1), (214, .istore_n 3, 1), (215, .iload_n 3, 1), (216, .aload_n 0, 1), (217, .getfield 129, 3), (220, .if_icmp .ge 23, 3), (223, .ldc2_w 181, 3), (226, .lload_n 1, 1), (227, .lmul, 1), (228, .aload_n 0, 1), (229, .getfield 19, 3), (232, .iload_n 3, 1), (233, .iaload, 1), (234, .i2l, 1), (235, .ladd, 1), (236, .lstore_n 1, 1), (237, .iinc 3 1, 3), (240, .goto (-25), 3), (243, .lload_n 1, 1), (244, .lreturn, 1)]
set_option maxRecDepth 100000 in
theorem DX6_digest_3 : dOK cX6_digest LX6_digest_3 := by unfold dOK; decide +kernel
def LL_door_0 : List (Nat × Instr × Nat) := [(0, .aload_n 3, 1), (1, .iconst 0, 1), (2, .aload_n 0, 1), (3, .iload_n 1, 1), (4, .iload_n 2, 1), (5, .invokevirtual 7, 3), (8, .i2l, 1), (9, .lastore, 1), (10, .goto 11, 3), (13, .astore 4, 2), (15, .iconst 1, 1), (16, .ireturn, 1), (17, .astore 4, 2), (19, .iconst 2, 1), (20, .ireturn, 1), (21, .iconst 0, 1), (22, .ireturn, 1)]
set_option maxRecDepth 100000 in
theorem DL_door_0 : dOK cL_door LL_door_0 := by unfold dOK; decide +kernel
def LL_key_0 : List (Nat × Instr × Nat) := [(0, .aload_n 3, 1), (1, .iconst 0, 1), (2, .aload_n 0, 1), (3, .iload_n 1, 1), (4, .iload_n 2, 1), (5, .invokevirtual 17, 3), (8, .i2l, 1), (9, .lastore, 1), (10, .goto 15, 3), (13, .astore 4, 2), (15, .iconst 1, 1), (16, .ireturn, 1), (17, .astore 4, 2), (19, .iconst 2, 1), (20, .ireturn, 1), (21, .astore 4, 2), (23, .iconst 3, 1), (24, .ireturn, 1), (25, .iconst 0, 1), (26, .ireturn, 1)]
set_option maxRecDepth 100000 in
theorem DL_key_0 : dOK cL_key LL_key_0 := by unfold dOK; decide +kernel
def LL_ladder_0 : List (Nat × Instr × Nat) := [(0, .aload_n 3, 1), (1, .iconst 0, 1), (2, .aload_n 0, 1), (3, .iload_n 1, 1), (4, .iload_n 2, 1), (5, .invokevirtual 22, 3), (8, .i2l, 1), (9, .lastore, 1), (10, .goto 7, 3), (13, .astore 4, 2), (15, .iconst 1, 1), (16, .ireturn, 1), (17, .iconst 0, 1), (18, .ireturn, 1)]
set_option maxRecDepth 100000 in
theorem DL_ladder_0 : dOK cL_ladder LL_ladder_0 := by unfold dOK; decide +kernel
def LL_fold_0 : List (Nat × Instr × Nat) := [(0, .aload_n 2, 1), (1, .iconst 0, 1), (2, .aload_n 0, 1), (3, .iload_n 1, 1), (4, .invokevirtual 26, 3), (7, .i2l, 1), (8, .lastore, 1), (9, .goto 6, 3), (12, .astore_n 3, 1), (13, .iconst 1, 1), (14, .ireturn, 1), (15, .iconst 0, 1), (16, .ireturn, 1)]
set_option maxRecDepth 100000 in
theorem DL_fold_0 : dOK cL_fold LL_fold_0 := by unfold dOK; decide +kernel
def LL_stand_0 : List (Nat × Instr × Nat) := [(0, .aload_n 2, 1), (1, .iconst 0, 1), (2, .aload_n 0, 1), (3, .iload_n 1, 1), (4, .invokevirtual 30, 3), (7, .i2l, 1), (8, .lastore, 1), (9, .goto 6, 3), (12, .astore_n 3, 1), (13, .iconst 1, 1), (14, .ireturn, 1), (15, .iconst 0, 1), (16, .ireturn, 1)]
set_option maxRecDepth 100000 in
theorem DL_stand_0 : dOK cL_stand LL_stand_0 := by unfold dOK; decide +kernel
def LL_step_0 : List (Nat × Instr × Nat) := [(0, .aload_n 2, 1), (1, .iconst 0, 1), (2, .aload_n 0, 1), (3, .iload_n 1, 1), (4, .invokevirtual 33, 3), (7, .i2l, 1), (8, .lastore, 1), (9, .goto 9, 3), (12, .astore_n 3, 1), (13, .iconst 1, 1), (14, .ireturn, 1), (15, .astore_n 3, 1), (16, .iconst 2, 1), (17, .ireturn, 1), (18, .iconst 0, 1), (19, .ireturn, 1)]
set_option maxRecDepth 100000 in
theorem DL_step_0 : dOK cL_step LL_step_0 := by unfold dOK; decide +kernel
def LL_walk_0 : List (Nat × Instr × Nat) := [(0, .aload_n 2, 1), (1, .iconst 0, 1), (2, .aload_n 0, 1), (3, .iload_n 1, 1), (4, .invokevirtual 36, 3), (7, .i2l, 1), (8, .lastore, 1), (9, .goto 9, 3), (12, .astore_n 3, 1), (13, .iconst 1, 1), (14, .ireturn, 1), (15, .astore_n 3, 1), (16, .iconst 2, 1), (17, .ireturn, 1), (18, .iconst 0, 1), (19, .ireturn, 1)]
set_option maxRecDepth 100000 in
theorem DL_walk_0 : dOK cL_walk LL_walk_0 := by unfold dOK; decide +kernel
def LL_append_0 : List (Nat × Instr × Nat) := [(0, .aload_n 2, 1), (1, .iconst 0, 1), (2, .aload_n 0, 1), (3, .iload_n 1, 1), (4, .invokevirtual 39, 3), (7, .i2l, 1), (8, .lastore, 1), (9, .goto 9, 3), (12, .astore_n 3, 1), (13, .iconst 1, 1), (14, .ireturn, 1), (15, .astore_n 3, 1), (16, .iconst 2, 1), (17, .ireturn, 1), (18, .iconst 0, 1), (19, .ireturn, 1)]
set_option maxRecDepth 100000 in
theorem DL_append_0 : dOK cL_append LL_append_0 := by unfold dOK; decide +kernel
def LL_corridor_0 : List (Nat × Instr × Nat) := [(0, .aload_n 1, 1), (1, .iconst 0, 1), (2, .aload_n 0, 1), (3, .invokevirtual 42, 3), (6, .i2l, 1), (7, .lastore, 1), (8, .goto 6, 3), (11, .astore_n 2, 1), (12, .iconst 1, 1), (13, .ireturn, 1), (14, .iconst 0, 1), (15, .ireturn, 1)]
set_option maxRecDepth 100000 in
theorem DL_corridor_0 : dOK cL_corridor LL_corridor_0 := by unfold dOK; decide +kernel
def LL_undo_0 : List (Nat × Instr × Nat) := [(0, .aload_n 1, 1), (1, .iconst 0, 1), (2, .aload_n 0, 1), (3, .invokevirtual 46, 3), (6, .i2l, 1), (7, .lastore, 1), (8, .goto 6, 3), (11, .astore_n 2, 1), (12, .iconst 1, 1), (13, .ireturn, 1), (14, .iconst 0, 1), (15, .ireturn, 1)]
set_option maxRecDepth 100000 in
theorem DL_undo_0 : dOK cL_undo LL_undo_0 := by unfold dOK; decide +kernel
def LL_cell_0 : List (Nat × Instr × Nat) := [(0, .aload_n 3, 1), (1, .iconst 0, 1), (2, .aload_n 0, 1), (3, .iload_n 1, 1), (4, .iload_n 2, 1), (5, .invokevirtual 49, 3), (8, .i2l, 1), (9, .lastore, 1), (10, .goto 11, 3), (13, .astore 4, 2), (15, .iconst 1, 1), (16, .ireturn, 1), (17, .astore 4, 2), (19, .iconst 2, 1), (20, .ireturn, 1), (21, .iconst 0, 1), (22, .ireturn, 1)]
set_option maxRecDepth 100000 in
theorem DL_cell_0 : dOK cL_cell LL_cell_0 := by unfold dOK; decide +kernel
def LL_walker_0 : List (Nat × Instr × Nat) := [(0, .aload_n 2, 1), (1, .iconst 0, 1), (2, .aload_n 0, 1), (3, .iload_n 1, 1), (4, .invokevirtual 52, 3), (7, .i2l, 1), (8, .lastore, 1), (9, .goto 6, 3), (12, .astore_n 3, 1), (13, .iconst 1, 1), (14, .ireturn, 1), (15, .iconst 0, 1), (16, .ireturn, 1)]
set_option maxRecDepth 100000 in
theorem DL_walker_0 : dOK cL_walker LL_walker_0 := by unfold dOK; decide +kernel
def LL_plan_0 : List (Nat × Instr × Nat) := [(0, .aload_n 3, 1), (1, .iconst 0, 1), (2, .aload_n 0, 1), (3, .iload_n 1, 1), (4, .iload_n 2, 1), (5, .invokevirtual 55, 3), (8, .i2l, 1), (9, .lastore, 1), (10, .goto 11, 3), (13, .astore 4, 2), (15, .iconst 1, 1), (16, .ireturn, 1), (17, .astore 4, 2), (19, .iconst 2, 1), (20, .ireturn, 1), (21, .iconst 0, 1), (22, .ireturn, 1)]
set_option maxRecDepth 100000 in
theorem DL_plan_0 : dOK cL_plan LL_plan_0 := by unfold dOK; decide +kernel
def LL_count_0 : List (Nat × Instr × Nat) := [(0, .aload_n 2, 1), (1, .iconst 0, 1), (2, .aload_n 0, 1), (3, .iload_n 1, 1), (4, .invokevirtual 58, 3), (7, .i2l, 1), (8, .lastore, 1), (9, .goto 6, 3), (12, .astore_n 3, 1), (13, .iconst 1, 1), (14, .ireturn, 1), (15, .iconst 0, 1), (16, .ireturn, 1)]
set_option maxRecDepth 100000 in
theorem DL_count_0 : dOK cL_count LL_count_0 := by unfold dOK; decide +kernel
def LL_refusal_0 : List (Nat × Instr × Nat) := [(0, .aload_n 2, 1), (1, .iconst 0, 1), (2, .aload_n 0, 1), (3, .iload_n 1, 1), (4, .invokevirtual 61, 3), (7, .i2l, 1), (8, .lastore, 1), (9, .goto 6, 3), (12, .astore_n 3, 1), (13, .iconst 1, 1), (14, .ireturn, 1), (15, .iconst 0, 1), (16, .ireturn, 1)]
set_option maxRecDepth 100000 in
theorem DL_refusal_0 : dOK cL_refusal LL_refusal_0 := by unfold dOK; decide +kernel
def LL_ifDoor_0 : List (Nat × Instr × Nat) := [(0, .aload_n 3, 1), (1, .iconst 0, 1), (2, .aload_n 0, 1), (3, .iload_n 1, 1), (4, .iload_n 2, 1), (5, .invokevirtual 64, 3), (8, .i2l, 1), (9, .lastore, 1), (10, .goto 11, 3), (13, .astore 4, 2), (15, .iconst 1, 1), (16, .ireturn, 1), (17, .astore 4, 2), (19, .iconst 2, 1), (20, .ireturn, 1), (21, .iconst 0, 1), (22, .ireturn, 1)]
set_option maxRecDepth 100000 in
theorem DL_ifDoor_0 : dOK cL_ifDoor LL_ifDoor_0 := by unfold dOK; decide +kernel
def LL_without_0 : List (Nat × Instr × Nat) := [(0, .aload_n 2, 1), (1, .iconst 0, 1), (2, .aload_n 0, 1), (3, .iload_n 1, 1), (4, .invokevirtual 67, 3), (7, .i2l, 1), (8, .lastore, 1), (9, .goto 6, 3), (12, .astore_n 3, 1), (13, .iconst 1, 1), (14, .ireturn, 1), (15, .iconst 0, 1), (16, .ireturn, 1)]
set_option maxRecDepth 100000 in
theorem DL_without_0 : dOK cL_without LL_without_0 := by unfold dOK; decide +kernel
def LL_law_0 : List (Nat × Instr × Nat) := [(0, .new 8, 3), (3, .dup, 1), (4, .invokespecial 70, 3), (7, .astore_n 1, 1), (8, .new 71, 3), (11, .dup, 1), (12, .invokespecial 73, 3), (15, .astore_n 2, 1), (16, .iconst 1, 1), (17, .newarray .long, 2), (19, .astore_n 3, 1), (20, .iconst 0, 1), (21, .istore 4, 2), (23, .iload 4, 2), (25, .aload_n 0, 1), (26, .arraylength, 1), (27, .iconst 3, 1), (28, .isub, 1), (29, .if_icmp .gt 1227, 3), (32, .aload_n 0, 1), (33, .iload 4, 2), (35, .iaload, 1), (36, .bipush 31, 2), (38, .iand, 1), (39, .tableswitch 1211 0 21 #[101, 169, 237, 321, 377, 433, 489, 545, 601, 614, 627, 671, 715, 783, 839, 907, 963, 1019, 1087, 1143, 1156, 1197], 101), (140, .aload_n 1, 1), (141, .aload_n 0, 1), (142, .iload 4, 2), (144, .iconst 1, 1), (145, .iadd, 1), (146, .iaload, 1), (147, .aload_n 0, 1), (148, .iload 4, 2), (150, .iconst 2, 1), (151, .iadd, 1), (152, .iaload, 1), (153, .aload_n 3, 1), (154, .invokestatic 74, 3), (157, .istore 5, 2), (159, .aload_n 2, 1)]
set_option maxRecDepth 100000 in
theorem DL_law_0 : dOK cL_law LL_law_0 := by unfold dOK; decide +kernel
def LL_law_1 : List (Nat × Instr × Nat) := [(160, .aload_n 0, 1), (161, .iload 4, 2), (163, .iconst 1, 1), (164, .iadd, 1), (165, .iaload, 1), (166, .aload_n 0, 1), (167, .iload 4, 2), (169, .iconst 2, 1), (170, .iadd, 1), (171, .iaload, 1), (172, .invokevirtual 79, 3), (175, .istore 6, 2), (177, .aload_n 2, 1), (178, .invokevirtual 80, 3), (181, .iload 5, 2), (183, .if_icmp .eq 5, 3), (186, .iconst 0, 1), (187, .ireturn, 1), (188, .iload 5, 2), (190, .ifCond .ne 15, 3), (193, .aload_n 3, 1), (194, .iconst 0, 1), (195, .laload, 1), (196, .iload 6, 2), (198, .i2l, 1), (199, .lcmp, 1), (200, .ifCond .eq 5, 3), (203, .iconst 0, 1), (204, .ireturn, 1), (205, .goto 1045, 3), (208, .aload_n 1, 1), (209, .aload_n 0, 1), (210, .iload 4, 2), (212, .iconst 1, 1), (213, .iadd, 1), (214, .iaload, 1), (215, .aload_n 0, 1), (216, .iload 4, 2), (218, .iconst 2, 1), (219, .iadd, 1)]
set_option maxRecDepth 100000 in
theorem DL_law_1 : dOK cL_law LL_law_1 := by unfold dOK; decide +kernel
def LL_law_2 : List (Nat × Instr × Nat) := [(220, .iaload, 1), (221, .aload_n 3, 1), (222, .invokestatic 83, 3), (225, .istore 5, 2), (227, .aload_n 2, 1), (228, .aload_n 0, 1), (229, .iload 4, 2), (231, .iconst 1, 1), (232, .iadd, 1), (233, .iaload, 1), (234, .aload_n 0, 1), (235, .iload 4, 2), (237, .iconst 2, 1), (238, .iadd, 1), (239, .iaload, 1), (240, .invokevirtual 85, 3), (243, .istore 6, 2), (245, .aload_n 2, 1), (246, .invokevirtual 80, 3), (249, .iload 5, 2), (251, .if_icmp .eq 5, 3), (254, .iconst 0, 1), (255, .ireturn, 1), (256, .iload 5, 2), (258, .ifCond .ne 15, 3), (261, .aload_n 3, 1), (262, .iconst 0, 1), (263, .laload, 1), (264, .iload 6, 2), (266, .i2l, 1), (267, .lcmp, 1), (268, .ifCond .eq 5, 3), (271, .iconst 0, 1), (272, .ireturn, 1), (273, .goto 977, 3), (276, .aload_n 1, 1), (277, .aload_n 0, 1), (278, .iload 4, 2), (280, .iconst 1, 1), (281, .iadd, 1)]
set_option maxRecDepth 100000 in
theorem DL_law_2 : dOK cL_law LL_law_2 := by unfold dOK; decide +kernel
def LL_law_3 : List (Nat × Instr × Nat) := [(282, .iaload, 1), (283, .aload_n 0, 1), (284, .iload 4, 2), (286, .iconst 2, 1), (287, .iadd, 1), (288, .iaload, 1), (289, .ifCond .eq 7, 3), (292, .iconst 1, 1), (293, .goto 4, 3), (296, .iconst 0, 1), (297, .aload_n 3, 1), (298, .invokestatic 86, 3), (301, .istore 5, 2), (303, .aload_n 2, 1), (304, .aload_n 0, 1), (305, .iload 4, 2), (307, .iconst 1, 1), (308, .iadd, 1), (309, .iaload, 1), (310, .aload_n 0, 1), (311, .iload 4, 2), (313, .iconst 2, 1), (314, .iadd, 1), (315, .iaload, 1), (316, .ifCond .eq 7, 3), (319, .iconst 1, 1), (320, .goto 4, 3), (323, .iconst 0, 1), (324, .invokevirtual 89, 3), (327, .istore 6, 2), (329, .aload_n 2, 1), (330, .invokevirtual 80, 3), (333, .iload 5, 2), (335, .if_icmp .eq 5, 3), (338, .iconst 0, 1), (339, .ireturn, 1), (340, .iload 5, 2), (342, .ifCond .ne 15, 3), (345, .aload_n 3, 1), (346, .iconst 0, 1)]
set_option maxRecDepth 100000 in
theorem DL_law_3 : dOK cL_law LL_law_3 := by unfold dOK; decide +kernel
def LL_law_4 : List (Nat × Instr × Nat) := [(347, .laload, 1), (348, .iload 6, 2), (350, .i2l, 1), (351, .lcmp, 1), (352, .ifCond .eq 5, 3), (355, .iconst 0, 1), (356, .ireturn, 1), (357, .goto 893, 3), (360, .aload_n 1, 1), (361, .aload_n 0, 1), (362, .iload 4, 2), (364, .iconst 1, 1), (365, .iadd, 1), (366, .iaload, 1), (367, .aload_n 3, 1), (368, .invokestatic 90, 3), (371, .istore 5, 2), (373, .aload_n 2, 1), (374, .aload_n 0, 1), (375, .iload 4, 2), (377, .iconst 1, 1), (378, .iadd, 1), (379, .iaload, 1), (380, .invokevirtual 93, 3), (383, .istore 6, 2), (385, .aload_n 2, 1), (386, .invokevirtual 80, 3), (389, .iload 5, 2), (391, .if_icmp .eq 5, 3), (394, .iconst 0, 1), (395, .ireturn, 1), (396, .iload 5, 2), (398, .ifCond .ne 15, 3), (401, .aload_n 3, 1), (402, .iconst 0, 1), (403, .laload, 1), (404, .iload 6, 2), (406, .i2l, 1), (407, .lcmp, 1), (408, .ifCond .eq 5, 3)]
set_option maxRecDepth 100000 in
theorem DL_law_4 : dOK cL_law LL_law_4 := by unfold dOK; decide +kernel
def LL_law_5 : List (Nat × Instr × Nat) := [(411, .iconst 0, 1), (412, .ireturn, 1), (413, .goto 837, 3), (416, .aload_n 1, 1), (417, .aload_n 0, 1), (418, .iload 4, 2), (420, .iconst 1, 1), (421, .iadd, 1), (422, .iaload, 1), (423, .aload_n 3, 1), (424, .invokestatic 94, 3), (427, .istore 5, 2), (429, .aload_n 2, 1), (430, .aload_n 0, 1), (431, .iload 4, 2), (433, .iconst 1, 1), (434, .iadd, 1), (435, .iaload, 1), (436, .invokevirtual 96, 3), (439, .istore 6, 2), (441, .aload_n 2, 1), (442, .invokevirtual 80, 3), (445, .iload 5, 2), (447, .if_icmp .eq 5, 3), (450, .iconst 0, 1), (451, .ireturn, 1), (452, .iload 5, 2), (454, .ifCond .ne 15, 3), (457, .aload_n 3, 1), (458, .iconst 0, 1), (459, .laload, 1), (460, .iload 6, 2), (462, .i2l, 1), (463, .lcmp, 1), (464, .ifCond .eq 5, 3), (467, .iconst 0, 1), (468, .ireturn, 1), (469, .goto 781, 3), (472, .aload_n 1, 1), (473, .aload_n 0, 1)]
set_option maxRecDepth 100000 in
theorem DL_law_5 : dOK cL_law LL_law_5 := by unfold dOK; decide +kernel
def LL_law_6 : List (Nat × Instr × Nat) := [(474, .iload 4, 2), (476, .iconst 1, 1), (477, .iadd, 1), (478, .iaload, 1), (479, .aload_n 3, 1), (480, .invokestatic 97, 3), (483, .istore 5, 2), (485, .aload_n 2, 1), (486, .aload_n 0, 1), (487, .iload 4, 2), (489, .iconst 1, 1), (490, .iadd, 1), (491, .iaload, 1), (492, .invokevirtual 99, 3), (495, .istore 6, 2), (497, .aload_n 2, 1), (498, .invokevirtual 80, 3), (501, .iload 5, 2), (503, .if_icmp .eq 5, 3), (506, .iconst 0, 1), (507, .ireturn, 1), (508, .iload 5, 2), (510, .ifCond .ne 15, 3), (513, .aload_n 3, 1), (514, .iconst 0, 1), (515, .laload, 1), (516, .iload 6, 2), (518, .i2l, 1), (519, .lcmp, 1), (520, .ifCond .eq 5, 3), (523, .iconst 0, 1), (524, .ireturn, 1), (525, .goto 725, 3), (528, .aload_n 1, 1), (529, .aload_n 0, 1), (530, .iload 4, 2), (532, .iconst 1, 1), (533, .iadd, 1), (534, .iaload, 1), (535, .aload_n 3, 1)]
set_option maxRecDepth 100000 in
theorem DL_law_6 : dOK cL_law LL_law_6 := by unfold dOK; decide +kernel
def LL_law_7 : List (Nat × Instr × Nat) := [(536, .invokestatic 100, 3), (539, .istore 5, 2), (541, .aload_n 2, 1), (542, .aload_n 0, 1), (543, .iload 4, 2), (545, .iconst 1, 1), (546, .iadd, 1), (547, .iaload, 1), (548, .invokevirtual 102, 3), (551, .istore 6, 2), (553, .aload_n 2, 1), (554, .invokevirtual 80, 3), (557, .iload 5, 2), (559, .if_icmp .eq 5, 3), (562, .iconst 0, 1), (563, .ireturn, 1), (564, .iload 5, 2), (566, .ifCond .ne 15, 3), (569, .aload_n 3, 1), (570, .iconst 0, 1), (571, .laload, 1), (572, .iload 6, 2), (574, .i2l, 1), (575, .lcmp, 1), (576, .ifCond .eq 5, 3), (579, .iconst 0, 1), (580, .ireturn, 1), (581, .goto 669, 3), (584, .aload_n 1, 1), (585, .aload_n 0, 1), (586, .iload 4, 2), (588, .iconst 1, 1), (589, .iadd, 1), (590, .iaload, 1), (591, .aload_n 3, 1), (592, .invokestatic 103, 3), (595, .istore 5, 2), (597, .aload_n 2, 1), (598, .aload_n 0, 1), (599, .iload 4, 2)]
set_option maxRecDepth 100000 in
theorem DL_law_7 : dOK cL_law LL_law_7 := by unfold dOK; decide +kernel
def LL_law_8 : List (Nat × Instr × Nat) := [(601, .iconst 1, 1), (602, .iadd, 1), (603, .iaload, 1), (604, .invokevirtual 105, 3), (607, .istore 6, 2), (609, .aload_n 2, 1), (610, .invokevirtual 80, 3), (613, .iload 5, 2), (615, .if_icmp .eq 5, 3), (618, .iconst 0, 1), (619, .ireturn, 1), (620, .iload 5, 2), (622, .ifCond .ne 15, 3), (625, .aload_n 3, 1), (626, .iconst 0, 1), (627, .laload, 1), (628, .iload 6, 2), (630, .i2l, 1), (631, .lcmp, 1), (632, .ifCond .eq 5, 3), (635, .iconst 0, 1), (636, .ireturn, 1), (637, .goto 613, 3), (640, .aload_n 1, 1), (641, .invokevirtual 106, 3), (644, .aload_n 2, 1), (645, .invokevirtual 109, 3), (648, .if_icmp .eq 602, 3), (651, .iconst 0, 1), (652, .ireturn, 1), (653, .aload_n 1, 1), (654, .invokevirtual 110, 3), (657, .aload_n 2, 1), (658, .invokevirtual 113, 3), (661, .if_icmp .eq 589, 3), (664, .iconst 0, 1), (665, .ireturn, 1), (666, .aload_n 1, 1), (667, .aload_n 3, 1), (668, .invokestatic 114, 3)]
set_option maxRecDepth 100000 in
theorem DL_law_8 : dOK cL_law LL_law_8 := by unfold dOK; decide +kernel
def LL_law_9 : List (Nat × Instr × Nat) := [(671, .istore 5, 2), (673, .aload_n 2, 1), (674, .invokevirtual 117, 3), (677, .istore 6, 2), (679, .aload_n 2, 1), (680, .invokevirtual 80, 3), (683, .iload 5, 2), (685, .if_icmp .eq 5, 3), (688, .iconst 0, 1), (689, .ireturn, 1), (690, .iload 5, 2), (692, .ifCond .ne 15, 3), (695, .aload_n 3, 1), (696, .iconst 0, 1), (697, .laload, 1), (698, .iload 6, 2), (700, .i2l, 1), (701, .lcmp, 1), (702, .ifCond .eq 5, 3), (705, .iconst 0, 1), (706, .ireturn, 1), (707, .goto 543, 3), (710, .aload_n 1, 1), (711, .aload_n 3, 1), (712, .invokestatic 118, 3), (715, .istore 5, 2), (717, .aload_n 2, 1), (718, .invokevirtual 120, 3), (721, .istore 6, 2), (723, .aload_n 2, 1), (724, .invokevirtual 80, 3), (727, .iload 5, 2), (729, .if_icmp .eq 5, 3), (732, .iconst 0, 1), (733, .ireturn, 1), (734, .iload 5, 2), (736, .ifCond .ne 15, 3), (739, .aload_n 3, 1), (740, .iconst 0, 1), (741, .laload, 1)]
set_option maxRecDepth 100000 in
theorem DL_law_9 : dOK cL_law LL_law_9 := by unfold dOK; decide +kernel
def LL_law_10 : List (Nat × Instr × Nat) := [(742, .iload 6, 2), (744, .i2l, 1), (745, .lcmp, 1), (746, .ifCond .eq 5, 3), (749, .iconst 0, 1), (750, .ireturn, 1), (751, .goto 499, 3), (754, .aload_n 1, 1), (755, .aload_n 0, 1), (756, .iload 4, 2), (758, .iconst 1, 1), (759, .iadd, 1), (760, .iaload, 1), (761, .aload_n 0, 1), (762, .iload 4, 2), (764, .iconst 2, 1), (765, .iadd, 1), (766, .iaload, 1), (767, .aload_n 3, 1), (768, .invokestatic 121, 3), (771, .istore 5, 2), (773, .aload_n 2, 1), (774, .aload_n 0, 1), (775, .iload 4, 2), (777, .iconst 1, 1), (778, .iadd, 1), (779, .iaload, 1), (780, .aload_n 0, 1), (781, .iload 4, 2), (783, .iconst 2, 1), (784, .iadd, 1), (785, .iaload, 1), (786, .invokevirtual 123, 3), (789, .istore 6, 2), (791, .aload_n 2, 1), (792, .invokevirtual 80, 3), (795, .iload 5, 2), (797, .if_icmp .eq 5, 3), (800, .iconst 0, 1), (801, .ireturn, 1)]
set_option maxRecDepth 100000 in
theorem DL_law_10 : dOK cL_law LL_law_10 := by unfold dOK; decide +kernel
def LL_law_11 : List (Nat × Instr × Nat) := [(802, .iload 5, 2), (804, .ifCond .ne 15, 3), (807, .aload_n 3, 1), (808, .iconst 0, 1), (809, .laload, 1), (810, .iload 6, 2), (812, .i2l, 1), (813, .lcmp, 1), (814, .ifCond .eq 5, 3), (817, .iconst 0, 1), (818, .ireturn, 1), (819, .goto 431, 3), (822, .aload_n 1, 1), (823, .aload_n 0, 1), (824, .iload 4, 2), (826, .iconst 1, 1), (827, .iadd, 1), (828, .iaload, 1), (829, .aload_n 3, 1), (830, .invokestatic 124, 3), (833, .istore 5, 2), (835, .aload_n 2, 1), (836, .aload_n 0, 1), (837, .iload 4, 2), (839, .iconst 1, 1), (840, .iadd, 1), (841, .iaload, 1), (842, .invokevirtual 126, 3), (845, .istore 6, 2), (847, .aload_n 2, 1), (848, .invokevirtual 80, 3), (851, .iload 5, 2), (853, .if_icmp .eq 5, 3), (856, .iconst 0, 1), (857, .ireturn, 1), (858, .iload 5, 2), (860, .ifCond .ne 15, 3), (863, .aload_n 3, 1), (864, .iconst 0, 1), (865, .laload, 1)]
set_option maxRecDepth 100000 in
theorem DL_law_11 : dOK cL_law LL_law_11 := by unfold dOK; decide +kernel
def LL_law_12 : List (Nat × Instr × Nat) := [(866, .iload 6, 2), (868, .i2l, 1), (869, .lcmp, 1), (870, .ifCond .eq 5, 3), (873, .iconst 0, 1), (874, .ireturn, 1), (875, .goto 375, 3), (878, .aload_n 1, 1), (879, .aload_n 0, 1), (880, .iload 4, 2), (882, .iconst 1, 1), (883, .iadd, 1), (884, .iaload, 1), (885, .aload_n 0, 1), (886, .iload 4, 2), (888, .iconst 2, 1), (889, .iadd, 1), (890, .iaload, 1), (891, .aload_n 3, 1), (892, .invokestatic 127, 3), (895, .istore 5, 2), (897, .aload_n 2, 1), (898, .aload_n 0, 1), (899, .iload 4, 2), (901, .iconst 1, 1), (902, .iadd, 1), (903, .iaload, 1), (904, .aload_n 0, 1), (905, .iload 4, 2), (907, .iconst 2, 1), (908, .iadd, 1), (909, .iaload, 1), (910, .invokevirtual 129, 3), (913, .istore 6, 2), (915, .aload_n 2, 1), (916, .invokevirtual 80, 3), (919, .iload 5, 2), (921, .if_icmp .eq 5, 3), (924, .iconst 0, 1), (925, .ireturn, 1)]
set_option maxRecDepth 100000 in
theorem DL_law_12 : dOK cL_law LL_law_12 := by unfold dOK; decide +kernel
def LL_law_13 : List (Nat × Instr × Nat) := [(926, .iload 5, 2), (928, .ifCond .ne 15, 3), (931, .aload_n 3, 1), (932, .iconst 0, 1), (933, .laload, 1), (934, .iload 6, 2), (936, .i2l, 1), (937, .lcmp, 1), (938, .ifCond .eq 5, 3), (941, .iconst 0, 1), (942, .ireturn, 1), (943, .goto 307, 3), (946, .aload_n 1, 1), (947, .aload_n 0, 1), (948, .iload 4, 2), (950, .iconst 1, 1), (951, .iadd, 1), (952, .iaload, 1), (953, .aload_n 3, 1), (954, .invokestatic 130, 3), (957, .istore 5, 2), (959, .aload_n 2, 1), (960, .aload_n 0, 1), (961, .iload 4, 2), (963, .iconst 1, 1), (964, .iadd, 1), (965, .iaload, 1), (966, .invokevirtual 132, 3), (969, .istore 6, 2), (971, .aload_n 2, 1), (972, .invokevirtual 80, 3), (975, .iload 5, 2), (977, .if_icmp .eq 5, 3), (980, .iconst 0, 1), (981, .ireturn, 1), (982, .iload 5, 2), (984, .ifCond .ne 15, 3), (987, .aload_n 3, 1), (988, .iconst 0, 1), (989, .laload, 1)]
set_option maxRecDepth 100000 in
theorem DL_law_13 : dOK cL_law LL_law_13 := by unfold dOK; decide +kernel
def LL_law_14 : List (Nat × Instr × Nat) := [(990, .iload 6, 2), (992, .i2l, 1), (993, .lcmp, 1), (994, .ifCond .eq 5, 3), (997, .iconst 0, 1), (998, .ireturn, 1), (999, .goto 251, 3), (1002, .aload_n 1, 1), (1003, .aload_n 0, 1), (1004, .iload 4, 2), (1006, .iconst 1, 1), (1007, .iadd, 1), (1008, .iaload, 1), (1009, .aload_n 3, 1), (1010, .invokestatic 133, 3), (1013, .istore 5, 2), (1015, .aload_n 2, 1), (1016, .aload_n 0, 1), (1017, .iload 4, 2), (1019, .iconst 1, 1), (1020, .iadd, 1), (1021, .iaload, 1), (1022, .invokevirtual 135, 3), (1025, .istore 6, 2), (1027, .aload_n 2, 1), (1028, .invokevirtual 80, 3), (1031, .iload 5, 2), (1033, .if_icmp .eq 5, 3), (1036, .iconst 0, 1), (1037, .ireturn, 1), (1038, .iload 5, 2), (1040, .ifCond .ne 15, 3), (1043, .aload_n 3, 1), (1044, .iconst 0, 1), (1045, .laload, 1), (1046, .iload 6, 2), (1048, .i2l, 1), (1049, .lcmp, 1), (1050, .ifCond .eq 5, 3), (1053, .iconst 0, 1)]
set_option maxRecDepth 100000 in
theorem DL_law_14 : dOK cL_law LL_law_14 := by unfold dOK; decide +kernel
def LL_law_15 : List (Nat × Instr × Nat) := [(1054, .ireturn, 1), (1055, .goto 195, 3), (1058, .aload_n 1, 1), (1059, .aload_n 0, 1), (1060, .iload 4, 2), (1062, .iconst 1, 1), (1063, .iadd, 1), (1064, .iaload, 1), (1065, .aload_n 0, 1), (1066, .iload 4, 2), (1068, .iconst 2, 1), (1069, .iadd, 1), (1070, .iaload, 1), (1071, .aload_n 3, 1), (1072, .invokestatic 136, 3), (1075, .istore 5, 2), (1077, .aload_n 2, 1), (1078, .aload_n 0, 1), (1079, .iload 4, 2), (1081, .iconst 1, 1), (1082, .iadd, 1), (1083, .iaload, 1), (1084, .aload_n 0, 1), (1085, .iload 4, 2), (1087, .iconst 2, 1), (1088, .iadd, 1), (1089, .iaload, 1), (1090, .invokevirtual 138, 3), (1093, .istore 6, 2), (1095, .aload_n 2, 1), (1096, .invokevirtual 80, 3), (1099, .iload 5, 2), (1101, .if_icmp .eq 5, 3), (1104, .iconst 0, 1), (1105, .ireturn, 1), (1106, .iload 5, 2), (1108, .ifCond .ne 15, 3), (1111, .aload_n 3, 1), (1112, .iconst 0, 1), (1113, .laload, 1)]
set_option maxRecDepth 100000 in
theorem DL_law_15 : dOK cL_law LL_law_15 := by unfold dOK; decide +kernel
def LL_law_16 : List (Nat × Instr × Nat) := [(1114, .iload 6, 2), (1116, .i2l, 1), (1117, .lcmp, 1), (1118, .ifCond .eq 5, 3), (1121, .iconst 0, 1), (1122, .ireturn, 1), (1123, .goto 127, 3), (1126, .aload_n 1, 1), (1127, .aload_n 0, 1), (1128, .iload 4, 2), (1130, .iconst 1, 1), (1131, .iadd, 1), (1132, .iaload, 1), (1133, .aload_n 3, 1), (1134, .invokestatic 139, 3), (1137, .istore 5, 2), (1139, .aload_n 2, 1), (1140, .aload_n 0, 1), (1141, .iload 4, 2), (1143, .iconst 1, 1), (1144, .iadd, 1), (1145, .iaload, 1), (1146, .invokevirtual 141, 3), (1149, .istore 6, 2), (1151, .aload_n 2, 1), (1152, .invokevirtual 80, 3), (1155, .iload 5, 2), (1157, .if_icmp .eq 5, 3), (1160, .iconst 0, 1), (1161, .ireturn, 1), (1162, .iload 5, 2), (1164, .ifCond .ne 15, 3), (1167, .aload_n 3, 1), (1168, .iconst 0, 1), (1169, .laload, 1), (1170, .iload 6, 2), (1172, .i2l, 1), (1173, .lcmp, 1), (1174, .ifCond .eq 5, 3), (1177, .iconst 0, 1)]
set_option maxRecDepth 100000 in
theorem DL_law_16 : dOK cL_law LL_law_16 := by unfold dOK; decide +kernel
def LL_law_17 : List (Nat × Instr × Nat) := [(1178, .ireturn, 1), (1179, .goto 71, 3), (1182, .aload_n 1, 1), (1183, .invokevirtual 142, 3), (1186, .aload_n 2, 1), (1187, .invokevirtual 145, 3), (1190, .if_icmp .eq 60, 3), (1193, .iconst 0, 1), (1194, .ireturn, 1), (1195, .aload_n 1, 1), (1196, .invokevirtual 146, 3), (1199, .dstore 5, 2), (1201, .aload_n 2, 1), (1202, .invokevirtual 150, 3), (1205, .dstore 7, 2), (1207, .dload 5, 2), (1209, .dload 7, 2), (1211, .dcmp .l, 1), (1212, .ifCond .eq 21, 3), (1215, .dload 5, 2), (1217, .dload 5, 2), (1219, .dcmp .l, 1), (1220, .ifCond .eq 11, 3), (1223, .dload 7, 2), (1225, .dload 7, 2), (1227, .dcmp .l, 1), (1228, .ifCond .ne 5, 3), (1231, .iconst 0, 1), (1232, .ireturn, 1), (1233, .goto 17, 3), (1236, .aload_n 1, 1), (1237, .invokevirtual 151, 3), (1240, .aload_n 2, 1), (1241, .invokevirtual 155, 3), (1244, .lcmp, 1), (1245, .ifCond .eq 5, 3), (1248, .iconst 0, 1), (1249, .ireturn, 1), (1250, .iinc 4 3, 3), (1253, .goto (-1230), 3)]
set_option maxRecDepth 100000 in
theorem DL_law_17 : dOK cL_law LL_law_17 := by unfold dOK; decide +kernel
def LL_law_18 : List (Nat × Instr × Nat) := [(1256, .iconst 1, 1), (1257, .ireturn, 1)]
set_option maxRecDepth 100000 in
theorem DL_law_18 : dOK cL_law LL_law_18 := by unfold dOK; decide +kernel
end
section
/-! A judgement of our own over the kit's W: P k n pc lv st ws says that the machine, at pc of a method's body with the locals lv, the stack st and the cells ws, k cells of n slots made so far, comes to its due end. -/
abbrev wG : Type := va_G × ClassId × ClassId × ClassId
abbrev aI (G : wG) (n : Nat) (f : Nat → Int32) : va_E := .inl (G.2.1, n, .inl f)
abbrev aJ (G : wG) (n : Nat) (f : Nat → Int64) : va_E := .inl (G.2.2.1, n, .inr (.inl f))
abbrev aQ (G : wG) (n : Nat) (f : Nat → Option Nat) : va_E := .inl (G.2.2.2, n, .inr (.inr (.inr (.inr f))))
abbrev ob (ci : Nat) (fs : List Value) : va_E := .inr (ci, fs)
abbrev wTys (G : wG) : List (ClassId × FieldType) := [(G.2.1, .int), (G.2.2.1, .long), (G.2.2.2, .object "FoldedKeys$Corridor")]
def isNest : Cond → Bool
  | .fieldLinkNest .. => true
  | .methodLinkNest .. => true
  | _ => false
def KU (G : wG) (U : State) : Prop := va_K G.1 vwCl (wTys G) U ∧ ∀ w ∈ tables_1, isNest w = true → va_Nw w U
theorem nest_tabs {w : Cond} (h : isNest w = true) : w.onTables = true := by cases w <;> first | rfl | cases h
theorem KU.warm {G : wG} {s U : State} (hW : s.WarmedH U.vm) (h : KU G s) : KU G U := by
  refine ⟨va_K.moved hW.alike h.1, fun w hw hn => ?_⟩
  have h1 := h.2 w hw hn
  cases w <;> first | exact va_Nw.warmF hW h1 | exact va_Nw.warmM hW h1 | cases hn
theorem KU.call {G : wG} {U : State} {g : JFrame} {mk : MethodId} {a : Array Value} (h : KU G U) : KU G (U.calling g mk a) :=
  ⟨va_K.moved (u := U) (U := U.calling g mk a) (Vm.Alike.refl U.vm) h.1, fun w hw hn => va_Nw.same (nest_tabs hn) (u := U) rfl (h.2 w hw hn)⟩
def WS : List Cond := lw_tbl.filter goodWord
theorem WS_in {w : Cond} (i : Nat) (h : lw_tbl[i]? = some w) (hg : goodWord w = true) : w ∈ WS := List.mem_filter.mpr ⟨List.mem_of_getElem? h, hg⟩
theorem WS_good {ws : List Cond} (h : ∀ w ∈ ws, w ∈ WS) {big : List Cond} (hb : ∀ w ∈ WS, w ∈ big) : GoodIn big ws := fun w hw => ⟨hb w (h w hw), good_of_word (List.mem_filter.mp (h w hw)).2⟩
def rmD (d mc ms : Nat) : Room := { frames := d, cells := mc, slots := ms, locals := 38 * d }
def conPc (G : wG) (av : List Value) (wc : va_W) (sz : Nat) : Array Value → State → Prop := va_Pc av (fun U => U.heap.size = sz ∧ va_P G.1 vwCl wc U.heap ∧ KU G U ∧ va_D (fun _ => True) wc)
def conQc (G : wG) (wc : va_W) (sz : Nat) (Qr : Option Value → va_W → va_W → Prop) : Array Value → State → Outcome → State → Prop := fun _ st o t =>
  ∃ (r : Option Value) (w1 w2 : va_W), o = .returned r ∧ Qr r w1 w2 ∧ w1.map (·.1) = wc.map (·.1) ∧ va_P G.1 vwCl (w1 ++ w2) t.heap ∧ va_D (va_A wc sz) (w1 ++ w2) ∧ va_F (va_A wc sz) st t
def Con (l : Launch) (G : wG) (y : MethodName) (bytes : ByteArray) (maxL : Nat) (ret : Option FieldType) (d mc ms : Nat) (av : List Value) (wc : va_W) (Qr : Option Value → va_W → va_W → Prop) : Prop :=
  ∀ sz : Nat, Met l y (.code y bytes maxL ret :: WS) (rmD d mc ms) (conPc G av wc sz) (conQc G wc sz Qr) mc ms (va_A wc sz)
theorem conPc_blind (G : wG) (av : List Value) (wc : va_W) (sz : Nat) : FrameBlind (conPc G av wc sz) := fun a U g mk q => ⟨q.1, q.2.1, q.2.2.1, KU.call q.2.2.2.1, q.2.2.2.2⟩
abbrev PT : Type := Nat → Nat → Nat → List (Nat × Value) → List Value → va_W → Prop
def Cx (l : Launch) (G : wG) (own : String) (cc : ByteArray) (nL : Nat) (nm : String) (R : Room) (P : PT) : Prop :=
  ∃ (p : Program) (e : Env) (s : State) (m : MethodId) (args : Array Value) (below : List Frame) (meth : Method) (c : Code) (A : Nat → Prop) (Q : State → Prop),
    (p.tables.exec = Jvm.exec ∧ c.code = cc ∧ c.maxLocals = nL ∧ meth.name = nm ∧ s.vm.findClass own = some m.cls ∧ (∀ w ∈ WS, w.before args s = true) ∧ KU G s ∧ (∀ q : Nat, s.heap.size ≤ q → A q)) ∧
    P = fun k n pc lv st ws => ∀ (H : Heap) (locs : List Loc) (ls : Array Slot), va_P G.1 vwCl ws H → va_D A ws → va_S A s.heap H locs → lv_has ls nL lv → W p l e R s m args below meth c H locs k n Q (F0 m pc ls st)
/-! locals -/
def lkL : List (Nat × Value) → Nat → Option Value
  | [], _ => none
  | q :: t, i => bif Nat.beq q.1 i then some q.2 else lkL t i
theorem lkL_mem : ∀ {l : List (Nat × Value)} {i : Nat} {v : Value}, lkL l i = some v → (i, v) ∈ l
  | q :: t, i, v, h => by
    unfold lkL at h
    cases hq : Nat.beq q.1 i with
    | true =>
      rw [hq] at h
      have e1 : q.1 = i := Nat.eq_of_beq_eq_true hq
      have e2 : q.2 = v := by simpa using h
      have : q = (i, v) := by rw [← e1, ← e2]
      rw [this]; exact List.mem_cons_self
    | false =>
      rw [hq] at h
      exact List.mem_cons_of_mem _ (lkL_mem (by simpa using h))
def dlL : List (Nat × Value) → Nat → List (Nat × Value)
  | [], _ => []
  | q :: t, i => bif Nat.beq q.1 i then dlL t i else q :: dlL t i
def upL : List (Nat × Value) → Nat → Value → List (Nat × Value)
  | [], i, v => [(i, v)]
  | q :: t, i, v => bif Nat.beq q.1 i then (i, v) :: dlL t i else q :: upL t i v
/-- no long or double lies just below i -/
def ok1 : List (Nat × Value) → Nat → Bool
  | [], _ => true
  | q :: t, i => (bif Nat.beq (q.1 + 1) i then Nat.beq q.2.category 1 else true) && ok1 t i
def ok2 : List (Nat × Value) → Nat → Bool
  | [], _ => true
  | q :: t, i => (bif Nat.beq q.1 (i + 1) then false else true) && ok2 t i
theorem dlL_mem : ∀ {l : List (Nat × Value)} {i : Nat} {q : Nat × Value}, q ∈ dlL l i → q ∈ l ∧ q.1 ≠ i
  | a :: t, i, q, h => by
    unfold dlL at h
    cases ha : Nat.beq a.1 i with
    | true =>
      rw [ha] at h
      exact ⟨List.mem_cons_of_mem _ (dlL_mem (by simpa using h)).1, (dlL_mem (by simpa using h)).2⟩
    | false =>
      rw [ha] at h
      rcases List.mem_cons.mp (by simpa using h) with rfl | h1
      · exact ⟨List.mem_cons_self, fun e => by rw [e, Nat.beq_refl] at ha; cases ha⟩
      · exact ⟨List.mem_cons_of_mem _ (dlL_mem h1).1, (dlL_mem h1).2⟩
theorem upL_mem : ∀ {l : List (Nat × Value)} {i : Nat} {v : Value} {q : Nat × Value}, q ∈ upL l i v → q = (i, v) ∨ (q ∈ l ∧ q.1 ≠ i)
  | [], i, v, q, h => Or.inl (by simpa [upL] using h)
  | a :: t, i, v, q, h => by
    unfold upL at h
    cases ha : Nat.beq a.1 i with
    | true =>
      rw [ha] at h
      rcases List.mem_cons.mp (by simpa using h) with rfl | h1
      · exact Or.inl rfl
      · exact Or.inr ⟨List.mem_cons_of_mem _ (dlL_mem h1).1, (dlL_mem h1).2⟩
    | false =>
      rw [ha] at h
      rcases List.mem_cons.mp (by simpa using h) with rfl | h1
      · exact Or.inr ⟨List.mem_cons_self, fun e => by rw [e, Nat.beq_refl] at ha; cases ha⟩
      · rcases upL_mem h1 with h2 | h2
        · exact Or.inl h2
        · exact Or.inr ⟨List.mem_cons_of_mem _ h2.1, h2.2⟩
theorem ok1_mem : ∀ {l : List (Nat × Value)} {i : Nat}, ok1 l i = true → ∀ q ∈ l, q.1 + 1 = i → q.2.category = 1
  | a :: t, i, h, q, hq, he => by
    unfold ok1 at h
    rw [Bool.and_eq_true] at h
    rcases List.mem_cons.mp hq with rfl | hq
    · have h1 := h.1
      rw [he, Nat.beq_refl] at h1
      exact Nat.eq_of_beq_eq_true h1
    · exact ok1_mem h.2 q hq he
theorem ok2_mem : ∀ {l : List (Nat × Value)} {i : Nat}, ok2 l i = true → ∀ q ∈ l, q.1 ≠ i + 1
  | a :: t, i, h, q, hq, he => by
    unfold ok2 at h
    rw [Bool.and_eq_true] at h
    rcases List.mem_cons.mp hq with rfl | hq
    · have h1 := h.1
      rw [he, Nat.beq_refl] at h1
      cases h1
    · exact ok2_mem h.2 q hq he
theorem lvs1 {ls : Array Slot} {nL : Nat} {l : List (Nat × Value)} {i : Nat} {v : Value} (h : lv_has ls nL ((i, v) :: l.filter (fun q => !(q.1 == i) && !(q.1 + 1 == i && q.2.category == 2)))) (ho : ok1 l i = true) : lv_has ls nL (upL l i v) := by
  refine ⟨h.1, h.2.1, fun q hq => h.2.2 q ?_⟩
  rcases upL_mem hq with rfl | ⟨h1, h2⟩
  · exact List.mem_cons_self
  · refine List.mem_cons_of_mem _ (List.mem_filter.mpr ⟨h1, ?_⟩)
    by_cases h3 : q.1 + 1 = i
    · have h4 := ok1_mem ho q h1 h3
      simp [h2, h4]
    · simp [h2, h3]
theorem lvs2 {ls : Array Slot} {nL : Nat} {l : List (Nat × Value)} {i : Nat} {v : Value} (h : lv_has ls nL ((i, v) :: l.filter (fun q => !(q.1 == i) && (!(q.1 == i + 1) && !(q.1 + 1 == i && q.2.category == 2))))) (ho : ok1 l i = true) (h2 : ok2 l i = true) : lv_has ls nL (upL l i v) := by
  refine ⟨h.1, h.2.1, fun q hq => h.2.2 q ?_⟩
  rcases upL_mem hq with rfl | ⟨h1, hne⟩
  · exact List.mem_cons_self
  · refine List.mem_cons_of_mem _ (List.mem_filter.mpr ⟨h1, ?_⟩)
    have h5 := ok2_mem h2 q h1
    by_cases h3 : q.1 + 1 = i
    · have h4 := ok1_mem ho q h1 h3
      simp [hne, h4, h5]
    · simp [hne, h3, h5]
theorem lvg {ls : Array Slot} {nL : Nat} {l : List (Nat × Value)} (h : lv_has ls nL l) {i : Nat} {v : Value} (hk : lkL l i = some v) : ls[i]? = some (.val v) := h.2.2 (i, v) (lkL_mem hk)
end
section
/-! a row of P for each instruction -/
section Steps
variable {l : Launch} {G : wG} {own : String} {cc : ByteArray} {nL : Nat} {nm : String} {R : Room} {P : PT} {k n pc : Nat} {lv : List (Nat × Value)} {st : List Value} {ws : va_W}
theorem st_iconst (C : Cx l G own cc nL nm R P) {i : Int} {v : Int32} (hd : decode cc pc = .ok (.iconst i, 1)) (hv : Int32.ofInt i = v) (kk : P k n (pc + 1) lv (.int v :: st) ws) : P k n pc lv (st) ws := by
  obtain ⟨p, e, s, m, args, below, meth, c, A, Q, ⟨hx, hb, hml, hnm, hown, hts, hK, hA⟩, rfl⟩ := C
  intro H locs ls hP hD hS hl
  exact lv_iconst hx hb hd hv (kk H locs ls hP hD hS hl)
theorem st_bipush (C : Cx l G own cc nL nm R P) {i : Int} {v : Int32} (hd : decode cc pc = .ok (.bipush i, 2)) (hv : (Int8.ofInt i).toInt32 = v) (kk : P k n (pc + 2) lv (.int v :: st) ws) : P k n pc lv (st) ws := by
  obtain ⟨p, e, s, m, args, below, meth, c, A, Q, ⟨hx, hb, hml, hnm, hown, hts, hK, hA⟩, rfl⟩ := C
  intro H locs ls hP hD hS hl
  exact lv_bipush hx hb hd hv (kk H locs ls hP hD hS hl)
theorem st_sipush (C : Cx l G own cc nL nm R P) {i : Int} {v : Int32} (hd : decode cc pc = .ok (.sipush i, 3)) (hv : (Int16.ofInt i).toInt32 = v) (kk : P k n (pc + 3) lv (.int v :: st) ws) : P k n pc lv (st) ws := by
  obtain ⟨p, e, s, m, args, below, meth, c, A, Q, ⟨hx, hb, hml, hnm, hown, hts, hK, hA⟩, rfl⟩ := C
  intro H locs ls hP hD hS hl
  exact lv_sipush hx hb hd hv (kk H locs ls hP hD hS hl)
theorem st_lconst (C : Cx l G own cc nL nm R P) {i : Fin 2} {v : Int64} (hd : decode cc pc = .ok (.lconst i, 1)) (hv : Int64.ofNat (i : Nat) = v) (kk : P k n (pc + 1) lv (.long v :: st) ws) : P k n pc lv (st) ws := by
  obtain ⟨p, e, s, m, args, below, meth, c, A, Q, ⟨hx, hb, hml, hnm, hown, hts, hK, hA⟩, rfl⟩ := C
  intro H locs ls hP hD hS hl
  exact lv_lconst hx hb hd hv (kk H locs ls hP hD hS hl)
theorem st_iload_n (C : Cx l G own cc nL nm R P) {i : Fin 4} {x : Int32} (hd : decode cc pc = .ok (.iload_n i, 1)) (hk : lkL lv i.val = some (.int x)) (kk : P k n (pc + 1) lv (.int x :: st) ws) : P k n pc lv (st) ws := by
  obtain ⟨p, e, s, m, args, below, meth, c, A, Q, ⟨hx, hb, hml, hnm, hown, hts, hK, hA⟩, rfl⟩ := C
  intro H locs ls hP hD hS hl
  exact lv_iload_n hx hb hd rfl (lvg hl hk) (kk H locs ls hP hD hS hl)
theorem st_iload (C : Cx l G own cc nL nm R P) {i : Nat} {x : Int32} (hd : decode cc pc = .ok (.iload i, 2)) (hk : lkL lv i = some (.int x)) (kk : P k n (pc + 2) lv (.int x :: st) ws) : P k n pc lv (st) ws := by
  obtain ⟨p, e, s, m, args, below, meth, c, A, Q, ⟨hx, hb, hml, hnm, hown, hts, hK, hA⟩, rfl⟩ := C
  intro H locs ls hP hD hS hl
  exact lv_iload hx hb hd (lvg hl hk) (kk H locs ls hP hD hS hl)
theorem st_lload_n (C : Cx l G own cc nL nm R P) {i : Fin 4} {x : Int64} (hd : decode cc pc = .ok (.lload_n i, 1)) (hk : lkL lv i.val = some (.long x)) (kk : P k n (pc + 1) lv (.long x :: st) ws) : P k n pc lv (st) ws := by
  obtain ⟨p, e, s, m, args, below, meth, c, A, Q, ⟨hx, hb, hml, hnm, hown, hts, hK, hA⟩, rfl⟩ := C
  intro H locs ls hP hD hS hl
  exact lv_lload_n hx hb hd rfl (lvg hl hk) (kk H locs ls hP hD hS hl)
theorem st_lload (C : Cx l G own cc nL nm R P) {i : Nat} {x : Int64} (hd : decode cc pc = .ok (.lload i, 2)) (hk : lkL lv i = some (.long x)) (kk : P k n (pc + 2) lv (.long x :: st) ws) : P k n pc lv (st) ws := by
  obtain ⟨p, e, s, m, args, below, meth, c, A, Q, ⟨hx, hb, hml, hnm, hown, hts, hK, hA⟩, rfl⟩ := C
  intro H locs ls hP hD hS hl
  exact lv_lload hx hb hd (lvg hl hk) (kk H locs ls hP hD hS hl)
theorem st_aload_n (C : Cx l G own cc nL nm R P) {i : Fin 4} {x : Nat} (hd : decode cc pc = .ok (.aload_n i, 1)) (hk : lkL lv i.val = some (.ref x)) (kk : P k n (pc + 1) lv (.ref x :: st) ws) : P k n pc lv (st) ws := by
  obtain ⟨p, e, s, m, args, below, meth, c, A, Q, ⟨hx, hb, hml, hnm, hown, hts, hK, hA⟩, rfl⟩ := C
  intro H locs ls hP hD hS hl
  exact lv_aload_n hx hb hd rfl (lvg hl hk) (kk H locs ls hP hD hS hl)
theorem st_aload (C : Cx l G own cc nL nm R P) {i : Nat} {x : Nat} (hd : decode cc pc = .ok (.aload i, 2)) (hk : lkL lv i = some (.ref x)) (kk : P k n (pc + 2) lv (.ref x :: st) ws) : P k n pc lv (st) ws := by
  obtain ⟨p, e, s, m, args, below, meth, c, A, Q, ⟨hx, hb, hml, hnm, hown, hts, hK, hA⟩, rfl⟩ := C
  intro H locs ls hP hD hS hl
  exact lv_aload hx hb hd (lvg hl hk) (kk H locs ls hP hD hS hl)
theorem st_dload_n (C : Cx l G own cc nL nm R P) {i : Fin 4} {x : UInt64} (hd : decode cc pc = .ok (.dload_n i, 1)) (hk : lkL lv i.val = some (.double x)) (kk : P k n (pc + 1) lv (.double x :: st) ws) : P k n pc lv (st) ws := by
  obtain ⟨p, e, s, m, args, below, meth, c, A, Q, ⟨hx, hb, hml, hnm, hown, hts, hK, hA⟩, rfl⟩ := C
  intro H locs ls hP hD hS hl
  exact lv_dload_n hx hb hd rfl (lvg hl hk) (kk H locs ls hP hD hS hl)
theorem st_dload (C : Cx l G own cc nL nm R P) {i : Nat} {x : UInt64} (hd : decode cc pc = .ok (.dload i, 2)) (hk : lkL lv i = some (.double x)) (kk : P k n (pc + 2) lv (.double x :: st) ws) : P k n pc lv (st) ws := by
  obtain ⟨p, e, s, m, args, below, meth, c, A, Q, ⟨hx, hb, hml, hnm, hown, hts, hK, hA⟩, rfl⟩ := C
  intro H locs ls hP hD hS hl
  exact lv_dload hx hb hd (lvg hl hk) (kk H locs ls hP hD hS hl)
theorem st_istore_n (C : Cx l G own cc nL nm R P) {i : Fin 4} {x : Int32} (hd : decode cc pc = .ok (.istore_n i, 1)) (hn : i.val < nL) (ho : ok1 lv i.val = true) (kk : P k n (pc + 1) (upL lv i.val (.int x)) st ws) : P k n pc lv (.int x :: st) ws := by
  obtain ⟨p, e, s, m, args, below, meth, c, A, Q, ⟨hx, hb, hml, hnm, hown, hts, hK, hA⟩, rfl⟩ := C
  intro H locs ls hP hD hS hl
  exact lv_istore_n hx hb hd rfl hl hn rfl (fun ls9 hl9 => kk H locs ls9 hP hD hS (lvs1 hl9 ho))
theorem st_istore (C : Cx l G own cc nL nm R P) {i : Nat} {x : Int32} (hd : decode cc pc = .ok (.istore i, 2)) (hn : i < nL) (ho : ok1 lv i = true) (kk : P k n (pc + 2) (upL lv i (.int x)) st ws) : P k n pc lv (.int x :: st) ws := by
  obtain ⟨p, e, s, m, args, below, meth, c, A, Q, ⟨hx, hb, hml, hnm, hown, hts, hK, hA⟩, rfl⟩ := C
  intro H locs ls hP hD hS hl
  exact lv_istore hx hb hd hl hn rfl (fun ls9 hl9 => kk H locs ls9 hP hD hS (lvs1 hl9 ho))
theorem st_astore_n (C : Cx l G own cc nL nm R P) {i : Fin 4} {x : Nat} (hd : decode cc pc = .ok (.astore_n i, 1)) (hn : i.val < nL) (ho : ok1 lv i.val = true) (kk : P k n (pc + 1) (upL lv i.val (.ref x)) st ws) : P k n pc lv (.ref x :: st) ws := by
  obtain ⟨p, e, s, m, args, below, meth, c, A, Q, ⟨hx, hb, hml, hnm, hown, hts, hK, hA⟩, rfl⟩ := C
  intro H locs ls hP hD hS hl
  exact lv_astore_n hx hb hd rfl hl hn rfl (fun ls9 hl9 => kk H locs ls9 hP hD hS (lvs1 hl9 ho))
theorem st_astore (C : Cx l G own cc nL nm R P) {i : Nat} {x : Nat} (hd : decode cc pc = .ok (.astore i, 2)) (hn : i < nL) (ho : ok1 lv i = true) (kk : P k n (pc + 2) (upL lv i (.ref x)) st ws) : P k n pc lv (.ref x :: st) ws := by
  obtain ⟨p, e, s, m, args, below, meth, c, A, Q, ⟨hx, hb, hml, hnm, hown, hts, hK, hA⟩, rfl⟩ := C
  intro H locs ls hP hD hS hl
  exact lv_astore hx hb hd hl hn rfl (fun ls9 hl9 => kk H locs ls9 hP hD hS (lvs1 hl9 ho))
theorem st_lstore_n (C : Cx l G own cc nL nm R P) {i : Fin 4} {x : Int64} (hd : decode cc pc = .ok (.lstore_n i, 1)) (hn : i.val + 1 < nL) (ho : ok1 lv i.val = true) (h2 : ok2 lv i.val = true) (kk : P k n (pc + 1) (upL lv i.val (.long x)) st ws) : P k n pc lv (.long x :: st) ws := by
  obtain ⟨p, e, s, m, args, below, meth, c, A, Q, ⟨hx, hb, hml, hnm, hown, hts, hK, hA⟩, rfl⟩ := C
  intro H locs ls hP hD hS hl
  exact lv_lstore_n hx hb hd rfl hl hn rfl (fun ls9 hl9 => kk H locs ls9 hP hD hS (lvs2 hl9 ho h2))
theorem st_lstore (C : Cx l G own cc nL nm R P) {i : Nat} {x : Int64} (hd : decode cc pc = .ok (.lstore i, 2)) (hn : i + 1 < nL) (ho : ok1 lv i = true) (h2 : ok2 lv i = true) (kk : P k n (pc + 2) (upL lv i (.long x)) st ws) : P k n pc lv (.long x :: st) ws := by
  obtain ⟨p, e, s, m, args, below, meth, c, A, Q, ⟨hx, hb, hml, hnm, hown, hts, hK, hA⟩, rfl⟩ := C
  intro H locs ls hP hD hS hl
  exact lv_lstore hx hb hd hl hn rfl (fun ls9 hl9 => kk H locs ls9 hP hD hS (lvs2 hl9 ho h2))
theorem st_dstore_n (C : Cx l G own cc nL nm R P) {i : Fin 4} {x : UInt64} (hd : decode cc pc = .ok (.dstore_n i, 1)) (hn : i.val + 1 < nL) (ho : ok1 lv i.val = true) (h2 : ok2 lv i.val = true) (kk : P k n (pc + 1) (upL lv i.val (.double x)) st ws) : P k n pc lv (.double x :: st) ws := by
  obtain ⟨p, e, s, m, args, below, meth, c, A, Q, ⟨hx, hb, hml, hnm, hown, hts, hK, hA⟩, rfl⟩ := C
  intro H locs ls hP hD hS hl
  exact lv_dstore_n hx hb hd rfl hl hn rfl (fun ls9 hl9 => kk H locs ls9 hP hD hS (lvs2 hl9 ho h2))
theorem st_dstore (C : Cx l G own cc nL nm R P) {i : Nat} {x : UInt64} (hd : decode cc pc = .ok (.dstore i, 2)) (hn : i + 1 < nL) (ho : ok1 lv i = true) (h2 : ok2 lv i = true) (kk : P k n (pc + 2) (upL lv i (.double x)) st ws) : P k n pc lv (.double x :: st) ws := by
  obtain ⟨p, e, s, m, args, below, meth, c, A, Q, ⟨hx, hb, hml, hnm, hown, hts, hK, hA⟩, rfl⟩ := C
  intro H locs ls hP hD hS hl
  exact lv_dstore hx hb hd hl hn rfl (fun ls9 hl9 => kk H locs ls9 hP hD hS (lvs2 hl9 ho h2))
theorem st_iinc (C : Cx l G own cc nL nm R P) {i : Nat} {j : Int} {x v : Int32} (hd : decode cc pc = .ok (.iinc i j, 3)) (hk : lkL lv i = some (.int x)) (hv : x + Int32.ofInt j = v) (hn : i < nL) (ho : ok1 lv i = true) (kk : P k n (pc + 3) (upL lv i (.int v)) st ws) : P k n pc lv st ws := by
  obtain ⟨p, e, s, m, args, below, meth, c, A, Q, ⟨hx, hb, hml, hnm, hown, hts, hK, hA⟩, rfl⟩ := C
  intro H locs ls hP hD hS hl
  obtain ⟨j9, hj9⟩ := List.getElem?_of_mem (lkL_mem hk)
  exact lv_iinc hx hb hd hl hj9 hv hn rfl (fun ls9 hl9 => kk H locs ls9 hP hD hS (lvs1 hl9 ho))
theorem st_iadd (C : Cx l G own cc nL nm R P) {x y : Int32} (hd : decode cc pc = .ok (.iadd, 1)) (kk : P k n (pc + 1) lv (.int (x + y) :: st) ws) : P k n pc lv (.int y :: .int x :: st) ws := by
  obtain ⟨p, e, s, m, args, below, meth, c, A, Q, ⟨hx, hb, hml, hnm, hown, hts, hK, hA⟩, rfl⟩ := C
  intro H locs ls hP hD hS hl
  exact lv_iadd hx hb hd (kk H locs ls hP hD hS hl)
theorem st_isub (C : Cx l G own cc nL nm R P) {x y : Int32} (hd : decode cc pc = .ok (.isub, 1)) (kk : P k n (pc + 1) lv (.int (x - y) :: st) ws) : P k n pc lv (.int y :: .int x :: st) ws := by
  obtain ⟨p, e, s, m, args, below, meth, c, A, Q, ⟨hx, hb, hml, hnm, hown, hts, hK, hA⟩, rfl⟩ := C
  intro H locs ls hP hD hS hl
  exact lv_isub hx hb hd (kk H locs ls hP hD hS hl)
theorem st_imul (C : Cx l G own cc nL nm R P) {x y : Int32} (hd : decode cc pc = .ok (.imul, 1)) (kk : P k n (pc + 1) lv (.int (x * y) :: st) ws) : P k n pc lv (.int y :: .int x :: st) ws := by
  obtain ⟨p, e, s, m, args, below, meth, c, A, Q, ⟨hx, hb, hml, hnm, hown, hts, hK, hA⟩, rfl⟩ := C
  intro H locs ls hP hD hS hl
  exact lv_imul hx hb hd (kk H locs ls hP hD hS hl)
theorem st_iand (C : Cx l G own cc nL nm R P) {x y : Int32} (hd : decode cc pc = .ok (.iand, 1)) (kk : P k n (pc + 1) lv (.int (x &&& y) :: st) ws) : P k n pc lv (.int y :: .int x :: st) ws := by
  obtain ⟨p, e, s, m, args, below, meth, c, A, Q, ⟨hx, hb, hml, hnm, hown, hts, hK, hA⟩, rfl⟩ := C
  intro H locs ls hP hD hS hl
  exact lv_iand hx hb hd (kk H locs ls hP hD hS hl)
theorem st_ior (C : Cx l G own cc nL nm R P) {x y : Int32} (hd : decode cc pc = .ok (.ior, 1)) (kk : P k n (pc + 1) lv (.int (x ||| y) :: st) ws) : P k n pc lv (.int y :: .int x :: st) ws := by
  obtain ⟨p, e, s, m, args, below, meth, c, A, Q, ⟨hx, hb, hml, hnm, hown, hts, hK, hA⟩, rfl⟩ := C
  intro H locs ls hP hD hS hl
  exact lv_ior hx hb hd (kk H locs ls hP hD hS hl)
theorem st_ishl (C : Cx l G own cc nL nm R P) {x y : Int32} (hd : decode cc pc = .ok (.ishl, 1)) (kk : P k n (pc + 1) lv (.int (x <<< (y &&& 31)) :: st) ws) : P k n pc lv (.int y :: .int x :: st) ws := by
  obtain ⟨p, e, s, m, args, below, meth, c, A, Q, ⟨hx, hb, hml, hnm, hown, hts, hK, hA⟩, rfl⟩ := C
  intro H locs ls hP hD hS hl
  exact lv_ishl hx hb hd (kk H locs ls hP hD hS hl)
theorem st_ishr (C : Cx l G own cc nL nm R P) {x y : Int32} (hd : decode cc pc = .ok (.ishr, 1)) (kk : P k n (pc + 1) lv (.int (x >>> (y &&& 31)) :: st) ws) : P k n pc lv (.int y :: .int x :: st) ws := by
  obtain ⟨p, e, s, m, args, below, meth, c, A, Q, ⟨hx, hb, hml, hnm, hown, hts, hK, hA⟩, rfl⟩ := C
  intro H locs ls hP hD hS hl
  exact lv_ishr hx hb hd (kk H locs ls hP hD hS hl)
theorem st_idiv (C : Cx l G own cc nL nm R P) {x y : Int32} (hd : decode cc pc = .ok (.idiv, 1)) (hne : ¬ y = 0) (kk : P k n (pc + 1) lv (.int (x / y) :: st) ws) : P k n pc lv (.int y :: .int x :: st) ws := by
  obtain ⟨p, e, s, m, args, below, meth, c, A, Q, ⟨hx, hb, hml, hnm, hown, hts, hK, hA⟩, rfl⟩ := C
  intro H locs ls hP hD hS hl
  exact lv_idiv hx hb hd hne (kk H locs ls hP hD hS hl)
theorem st_irem (C : Cx l G own cc nL nm R P) {x y : Int32} (hd : decode cc pc = .ok (.irem, 1)) (hne : ¬ y = 0) (kk : P k n (pc + 1) lv (.int (x - x / y * y) :: st) ws) : P k n pc lv (.int y :: .int x :: st) ws := by
  obtain ⟨p, e, s, m, args, below, meth, c, A, Q, ⟨hx, hb, hml, hnm, hown, hts, hK, hA⟩, rfl⟩ := C
  intro H locs ls hP hD hS hl
  exact lv_irem hx hb hd hne (kk H locs ls hP hD hS hl)
theorem st_ineg (C : Cx l G own cc nL nm R P) {x : Int32} (hd : decode cc pc = .ok (.ineg, 1)) (kk : P k n (pc + 1) lv (.int (-x) :: st) ws) : P k n pc lv (.int x :: st) ws := by
  obtain ⟨p, e, s, m, args, below, meth, c, A, Q, ⟨hx, hb, hml, hnm, hown, hts, hK, hA⟩, rfl⟩ := C
  intro H locs ls hP hD hS hl
  exact lv_ineg hx hb hd (kk H locs ls hP hD hS hl)
theorem st_ladd (C : Cx l G own cc nL nm R P) {x y : Int64} (hd : decode cc pc = .ok (.ladd, 1)) (kk : P k n (pc + 1) lv (.long (x + y) :: st) ws) : P k n pc lv (.long y :: .long x :: st) ws := by
  obtain ⟨p, e, s, m, args, below, meth, c, A, Q, ⟨hx, hb, hml, hnm, hown, hts, hK, hA⟩, rfl⟩ := C
  intro H locs ls hP hD hS hl
  exact lv_ladd hx hb hd (kk H locs ls hP hD hS hl)
theorem st_lsub (C : Cx l G own cc nL nm R P) {x y : Int64} (hd : decode cc pc = .ok (.lsub, 1)) (kk : P k n (pc + 1) lv (.long (x - y) :: st) ws) : P k n pc lv (.long y :: .long x :: st) ws := by
  obtain ⟨p, e, s, m, args, below, meth, c, A, Q, ⟨hx, hb, hml, hnm, hown, hts, hK, hA⟩, rfl⟩ := C
  intro H locs ls hP hD hS hl
  exact lv_lsub hx hb hd (kk H locs ls hP hD hS hl)
theorem st_lmul (C : Cx l G own cc nL nm R P) {x y : Int64} (hd : decode cc pc = .ok (.lmul, 1)) (kk : P k n (pc + 1) lv (.long (x * y) :: st) ws) : P k n pc lv (.long y :: .long x :: st) ws := by
  obtain ⟨p, e, s, m, args, below, meth, c, A, Q, ⟨hx, hb, hml, hnm, hown, hts, hK, hA⟩, rfl⟩ := C
  intro H locs ls hP hD hS hl
  exact lv_lmul hx hb hd (kk H locs ls hP hD hS hl)
theorem st_land (C : Cx l G own cc nL nm R P) {x y : Int64} (hd : decode cc pc = .ok (.land, 1)) (kk : P k n (pc + 1) lv (.long (x &&& y) :: st) ws) : P k n pc lv (.long y :: .long x :: st) ws := by
  obtain ⟨p, e, s, m, args, below, meth, c, A, Q, ⟨hx, hb, hml, hnm, hown, hts, hK, hA⟩, rfl⟩ := C
  intro H locs ls hP hD hS hl
  exact lv_land hx hb hd (kk H locs ls hP hD hS hl)
theorem st_lor (C : Cx l G own cc nL nm R P) {x y : Int64} (hd : decode cc pc = .ok (.lor, 1)) (kk : P k n (pc + 1) lv (.long (x ||| y) :: st) ws) : P k n pc lv (.long y :: .long x :: st) ws := by
  obtain ⟨p, e, s, m, args, below, meth, c, A, Q, ⟨hx, hb, hml, hnm, hown, hts, hK, hA⟩, rfl⟩ := C
  intro H locs ls hP hD hS hl
  exact lv_lor hx hb hd (kk H locs ls hP hD hS hl)
theorem st_lshl (C : Cx l G own cc nL nm R P) {x : Int64} {y : Int32} (hd : decode cc pc = .ok (.lshl, 1)) (kk : P k n (pc + 1) lv (.long (x <<< (y.toInt64 &&& 63)) :: st) ws) : P k n pc lv (.int y :: .long x :: st) ws := by
  obtain ⟨p, e, s, m, args, below, meth, c, A, Q, ⟨hx, hb, hml, hnm, hown, hts, hK, hA⟩, rfl⟩ := C
  intro H locs ls hP hD hS hl
  exact lv_lshl hx hb hd rfl (kk H locs ls hP hD hS hl)
theorem st_i2l (C : Cx l G own cc nL nm R P) {x : Int32} (hd : decode cc pc = .ok (.i2l, 1)) (kk : P k n (pc + 1) lv (.long x.toInt64 :: st) ws) : P k n pc lv (.int x :: st) ws := by
  obtain ⟨p, e, s, m, args, below, meth, c, A, Q, ⟨hx, hb, hml, hnm, hown, hts, hK, hA⟩, rfl⟩ := C
  intro H locs ls hP hD hS hl
  exact lv_i2l hx hb hd rfl (kk H locs ls hP hD hS hl)
theorem st_i2d (C : Cx l G own cc nL nm R P) {x : Int32} (hd : decode cc pc = .ok (.i2d, 1)) (kk : P k n (pc + 1) lv (.double (FP.i2d x) :: st) ws) : P k n pc lv (.int x :: st) ws := by
  obtain ⟨p, e, s, m, args, below, meth, c, A, Q, ⟨hx, hb, hml, hnm, hown, hts, hK, hA⟩, rfl⟩ := C
  intro H locs ls hP hD hS hl
  exact lv_i2d hx hb hd (kk H locs ls hP hD hS hl)
theorem st_ddiv (C : Cx l G own cc nL nm R P) {x y : UInt64} (hd : decode cc pc = .ok (.ddiv, 1)) (hne : vf_n64 (FP.ddiv x y)) (kk : P k n (pc + 1) lv (.double (FP.ddiv x y) :: st) ws) : P k n pc lv (.double y :: .double x :: st) ws := by
  obtain ⟨p, e, s, m, args, below, meth, c, A, Q, ⟨hx, hb, hml, hnm, hown, hts, hK, hA⟩, rfl⟩ := C
  intro H locs ls hP hD hS hl
  exact lv_ddiv hx hb hd hne (kk H locs ls hP hD hS hl)
theorem st_dcmp (C : Cx l G own cc nL nm R P) {x y : UInt64} {op : CmpOp} (hd : decode cc pc = .ok (.dcmp op, 1)) (kk : P k n (pc + 1) lv (.int (Op.cmpValue (FP.dcmp x y) op) :: st) ws) : P k n pc lv (.double y :: .double x :: st) ws := by
  obtain ⟨p, e, s, m, args, below, meth, c, A, Q, ⟨hx, hb, hml, hnm, hown, hts, hK, hA⟩, rfl⟩ := C
  intro H locs ls hP hD hS hl
  exact lv_dcmp hx hb hd (kk H locs ls hP hD hS hl)
theorem st_lcmp (C : Cx l G own cc nL nm R P) {x y : Int64} (hd : decode cc pc = .ok (.lcmp, 1)) (kk : P k n (pc + 1) lv (.int (lg_cmp x y) :: st) ws) : P k n pc lv (.long y :: .long x :: st) ws := by
  obtain ⟨p, e, s, m, args, below, meth, c, A, Q, ⟨hx, hb, hml, hnm, hown, hts, hK, hA⟩, rfl⟩ := C
  intro H locs ls hP hD hS hl
  exact W.lcmp hx hb hd (kk H locs ls hP hD hS hl)
theorem st_dup (C : Cx l G own cc nL nm R P) {va : Value} (hd : decode cc pc = .ok (.dup, 1)) (hc : va.category = 1) (kk : P k n (pc + 1) lv (va :: va :: st) ws) : P k n pc lv (va :: st) ws := by
  obtain ⟨p, e, s, m, args, below, meth, c, A, Q, ⟨hx, hb, hml, hnm, hown, hts, hK, hA⟩, rfl⟩ := C
  intro H locs ls hP hD hS hl
  exact lv_dup hx hb hd hc (kk H locs ls hP hD hS hl)
theorem st_dup2 (C : Cx l G own cc nL nm R P) {va vb : Value} (hd : decode cc pc = .ok (.dup2, 1)) (hc : va.category = 1) (hc2 : vb.category = 1) (kk : P k n (pc + 1) lv (va :: vb :: va :: vb :: st) ws) : P k n pc lv (va :: vb :: st) ws := by
  obtain ⟨p, e, s, m, args, below, meth, c, A, Q, ⟨hx, hb, hml, hnm, hown, hts, hK, hA⟩, rfl⟩ := C
  intro H locs ls hP hD hS hl
  exact lv_dup2_11 hx hb hd hc hc2 (kk H locs ls hP hD hS hl)
theorem st_pop (C : Cx l G own cc nL nm R P) {va : Value} (hd : decode cc pc = .ok (.pop, 1)) (hc : va.category = 1) (kk : P k n (pc + 1) lv (st) ws) : P k n pc lv (va :: st) ws := by
  obtain ⟨p, e, s, m, args, below, meth, c, A, Q, ⟨hx, hb, hml, hnm, hown, hts, hK, hA⟩, rfl⟩ := C
  intro H locs ls hP hD hS hl
  exact lv_pop hx hb hd hc (kk H locs ls hP hD hS hl)
theorem st_goto (C : Cx l G own cc nL nm R P) {off : Int} {tgt : Nat} (hd : decode cc pc = .ok (.goto off, 3)) (ht : (pc : Int) + off = (tgt : Int)) (kk : P k n tgt lv st ws) : P k n pc lv st ws := by
  obtain ⟨p, e, s, m, args, below, meth, c, A, Q, ⟨hx, hb, hml, hnm, hown, hts, hK, hA⟩, rfl⟩ := C
  intro H locs ls hP hD hS hl
  exact lv_goto hx hb hd ht (kk H locs ls hP hD hS hl)
theorem st_if_eq (C : Cx l G own cc nL nm R P) {x : Int32} {off : Int} {tgt : Nat} (hd : decode cc pc = .ok (.ifCond .eq off, 3)) (ht : (pc : Int) + off = (tgt : Int)) (kt : x = 0 → P k n tgt lv st ws) (kf : ¬ x = 0 → P k n (pc + 3) lv st ws) : P k n pc lv (.int x :: st) ws := by
  obtain ⟨p, e, s, m, args, below, meth, c, A, Q, ⟨hx, hb, hml, hnm, hown, hts, hK, hA⟩, rfl⟩ := C
  intro H locs ls hP hD hS hl
  exact lv_if_eq hx hb hd ht (fun h => kt h H locs ls hP hD hS hl) (fun h => kf h H locs ls hP hD hS hl)
theorem st_icmp_eq (C : Cx l G own cc nL nm R P) {x y : Int32} {off : Int} {tgt : Nat} (hd : decode cc pc = .ok (.if_icmp .eq off, 3)) (ht : (pc : Int) + off = (tgt : Int)) (kt : x = y → P k n tgt lv st ws) (kf : ¬ x = y → P k n (pc + 3) lv st ws) : P k n pc lv (.int y :: .int x :: st) ws := by
  obtain ⟨p, e, s, m, args, below, meth, c, A, Q, ⟨hx, hb, hml, hnm, hown, hts, hK, hA⟩, rfl⟩ := C
  intro H locs ls hP hD hS hl
  exact lv_icmp_eq hx hb hd ht (fun h => kt h H locs ls hP hD hS hl) (fun h => kf h H locs ls hP hD hS hl)
theorem st_if_ne (C : Cx l G own cc nL nm R P) {x : Int32} {off : Int} {tgt : Nat} (hd : decode cc pc = .ok (.ifCond .ne off, 3)) (ht : (pc : Int) + off = (tgt : Int)) (kt : ¬ x = 0 → P k n tgt lv st ws) (kf : x = 0 → P k n (pc + 3) lv st ws) : P k n pc lv (.int x :: st) ws := by
  obtain ⟨p, e, s, m, args, below, meth, c, A, Q, ⟨hx, hb, hml, hnm, hown, hts, hK, hA⟩, rfl⟩ := C
  intro H locs ls hP hD hS hl
  exact lv_if_ne hx hb hd ht (fun h => kt h H locs ls hP hD hS hl) (fun h => kf h H locs ls hP hD hS hl)
theorem st_icmp_ne (C : Cx l G own cc nL nm R P) {x y : Int32} {off : Int} {tgt : Nat} (hd : decode cc pc = .ok (.if_icmp .ne off, 3)) (ht : (pc : Int) + off = (tgt : Int)) (kt : ¬ x = y → P k n tgt lv st ws) (kf : x = y → P k n (pc + 3) lv st ws) : P k n pc lv (.int y :: .int x :: st) ws := by
  obtain ⟨p, e, s, m, args, below, meth, c, A, Q, ⟨hx, hb, hml, hnm, hown, hts, hK, hA⟩, rfl⟩ := C
  intro H locs ls hP hD hS hl
  exact lv_icmp_ne hx hb hd ht (fun h => kt h H locs ls hP hD hS hl) (fun h => kf h H locs ls hP hD hS hl)
theorem st_if_lt (C : Cx l G own cc nL nm R P) {x : Int32} {off : Int} {tgt : Nat} (hd : decode cc pc = .ok (.ifCond .lt off, 3)) (ht : (pc : Int) + off = (tgt : Int)) (kt : x < 0 → P k n tgt lv st ws) (kf : ¬ x < 0 → P k n (pc + 3) lv st ws) : P k n pc lv (.int x :: st) ws := by
  obtain ⟨p, e, s, m, args, below, meth, c, A, Q, ⟨hx, hb, hml, hnm, hown, hts, hK, hA⟩, rfl⟩ := C
  intro H locs ls hP hD hS hl
  exact lv_if_lt hx hb hd ht (fun h => kt h H locs ls hP hD hS hl) (fun h => kf h H locs ls hP hD hS hl)
theorem st_icmp_lt (C : Cx l G own cc nL nm R P) {x y : Int32} {off : Int} {tgt : Nat} (hd : decode cc pc = .ok (.if_icmp .lt off, 3)) (ht : (pc : Int) + off = (tgt : Int)) (kt : x < y → P k n tgt lv st ws) (kf : ¬ x < y → P k n (pc + 3) lv st ws) : P k n pc lv (.int y :: .int x :: st) ws := by
  obtain ⟨p, e, s, m, args, below, meth, c, A, Q, ⟨hx, hb, hml, hnm, hown, hts, hK, hA⟩, rfl⟩ := C
  intro H locs ls hP hD hS hl
  exact lv_icmp_lt hx hb hd ht (fun h => kt h H locs ls hP hD hS hl) (fun h => kf h H locs ls hP hD hS hl)
theorem st_if_ge (C : Cx l G own cc nL nm R P) {x : Int32} {off : Int} {tgt : Nat} (hd : decode cc pc = .ok (.ifCond .ge off, 3)) (ht : (pc : Int) + off = (tgt : Int)) (kt : 0 ≤ x → P k n tgt lv st ws) (kf : ¬ 0 ≤ x → P k n (pc + 3) lv st ws) : P k n pc lv (.int x :: st) ws := by
  obtain ⟨p, e, s, m, args, below, meth, c, A, Q, ⟨hx, hb, hml, hnm, hown, hts, hK, hA⟩, rfl⟩ := C
  intro H locs ls hP hD hS hl
  exact lv_if_ge hx hb hd ht (fun h => kt h H locs ls hP hD hS hl) (fun h => kf h H locs ls hP hD hS hl)
theorem st_icmp_ge (C : Cx l G own cc nL nm R P) {x y : Int32} {off : Int} {tgt : Nat} (hd : decode cc pc = .ok (.if_icmp .ge off, 3)) (ht : (pc : Int) + off = (tgt : Int)) (kt : y ≤ x → P k n tgt lv st ws) (kf : ¬ y ≤ x → P k n (pc + 3) lv st ws) : P k n pc lv (.int y :: .int x :: st) ws := by
  obtain ⟨p, e, s, m, args, below, meth, c, A, Q, ⟨hx, hb, hml, hnm, hown, hts, hK, hA⟩, rfl⟩ := C
  intro H locs ls hP hD hS hl
  exact lv_icmp_ge hx hb hd ht (fun h => kt h H locs ls hP hD hS hl) (fun h => kf h H locs ls hP hD hS hl)
theorem st_if_gt (C : Cx l G own cc nL nm R P) {x : Int32} {off : Int} {tgt : Nat} (hd : decode cc pc = .ok (.ifCond .gt off, 3)) (ht : (pc : Int) + off = (tgt : Int)) (kt : 0 < x → P k n tgt lv st ws) (kf : ¬ 0 < x → P k n (pc + 3) lv st ws) : P k n pc lv (.int x :: st) ws := by
  obtain ⟨p, e, s, m, args, below, meth, c, A, Q, ⟨hx, hb, hml, hnm, hown, hts, hK, hA⟩, rfl⟩ := C
  intro H locs ls hP hD hS hl
  exact lv_if_gt hx hb hd ht (fun h => kt h H locs ls hP hD hS hl) (fun h => kf h H locs ls hP hD hS hl)
theorem st_icmp_gt (C : Cx l G own cc nL nm R P) {x y : Int32} {off : Int} {tgt : Nat} (hd : decode cc pc = .ok (.if_icmp .gt off, 3)) (ht : (pc : Int) + off = (tgt : Int)) (kt : y < x → P k n tgt lv st ws) (kf : ¬ y < x → P k n (pc + 3) lv st ws) : P k n pc lv (.int y :: .int x :: st) ws := by
  obtain ⟨p, e, s, m, args, below, meth, c, A, Q, ⟨hx, hb, hml, hnm, hown, hts, hK, hA⟩, rfl⟩ := C
  intro H locs ls hP hD hS hl
  exact lv_icmp_gt hx hb hd ht (fun h => kt h H locs ls hP hD hS hl) (fun h => kf h H locs ls hP hD hS hl)
theorem st_if_le (C : Cx l G own cc nL nm R P) {x : Int32} {off : Int} {tgt : Nat} (hd : decode cc pc = .ok (.ifCond .le off, 3)) (ht : (pc : Int) + off = (tgt : Int)) (kt : x ≤ 0 → P k n tgt lv st ws) (kf : ¬ x ≤ 0 → P k n (pc + 3) lv st ws) : P k n pc lv (.int x :: st) ws := by
  obtain ⟨p, e, s, m, args, below, meth, c, A, Q, ⟨hx, hb, hml, hnm, hown, hts, hK, hA⟩, rfl⟩ := C
  intro H locs ls hP hD hS hl
  exact lv_if_le hx hb hd ht (fun h => kt h H locs ls hP hD hS hl) (fun h => kf h H locs ls hP hD hS hl)
theorem st_icmp_le (C : Cx l G own cc nL nm R P) {x y : Int32} {off : Int} {tgt : Nat} (hd : decode cc pc = .ok (.if_icmp .le off, 3)) (ht : (pc : Int) + off = (tgt : Int)) (kt : x ≤ y → P k n tgt lv st ws) (kf : ¬ x ≤ y → P k n (pc + 3) lv st ws) : P k n pc lv (.int y :: .int x :: st) ws := by
  obtain ⟨p, e, s, m, args, below, meth, c, A, Q, ⟨hx, hb, hml, hnm, hown, hts, hK, hA⟩, rfl⟩ := C
  intro H locs ls hP hD hS hl
  exact lv_icmp_le hx hb hd ht (fun h => kt h H locs ls hP hD hS hl) (fun h => kf h H locs ls hP hD hS hl)
theorem st_ifnull (C : Cx l G own cc nL nm R P) {x : Nat} {off : Int} (hd : decode cc pc = .ok (.ifnull off, 3)) (kk : P k n (pc + 3) lv st ws) : P k n pc lv (.ref x :: st) ws := by
  obtain ⟨p, e, s, m, args, below, meth, c, A, Q, ⟨hx, hb, hml, hnm, hown, hts, hK, hA⟩, rfl⟩ := C
  intro H locs ls hP hD hS hl
  exact lv_ifnull hx hb hd (kk H locs ls hP hD hS hl)
theorem st_ifnonnull (C : Cx l G own cc nL nm R P) {x : Nat} {off : Int} {tgt : Nat} (hd : decode cc pc = .ok (.ifnonnull off, 3)) (ht : (pc : Int) + off = (tgt : Int)) (kk : P k n tgt lv st ws) : P k n pc lv (.ref x :: st) ws := by
  obtain ⟨p, e, s, m, args, below, meth, c, A, Q, ⟨hx, hb, hml, hnm, hown, hts, hK, hA⟩, rfl⟩ := C
  intro H locs ls hP hD hS hl
  exact lv_ifnonnull hx hb hd ht (kk H locs ls hP hD hS hl)
theorem st_tswIn (C : Cx l G own cc nL nm R P) {dflt lo hi : Int} {offs : Array Int} {len : Nat} {x : Int32} {off : Int} {tgt : Nat} (hd : decode cc pc = .ok (.tableswitch dflt lo hi offs, len)) (h1 : ¬ x.toInt < lo) (h2 : ¬ hi < x.toInt) (ho : offs[(x.toInt - lo).toNat]? = some off) (ht : (pc : Int) + off = (tgt : Int)) (kk : P k n tgt lv st ws) : P k n pc lv (.int x :: st) ws := by
  obtain ⟨p, e, s, m, args, below, meth, c, A, Q, ⟨hx, hb, hml, hnm, hown, hts, hK, hA⟩, rfl⟩ := C
  intro H locs ls hP hD hS hl
  exact lv_tableIn hx hb hd h1 h2 ho ht (kk H locs ls hP hD hS hl)
theorem st_tswOut (C : Cx l G own cc nL nm R P) {dflt lo hi : Int} {offs : Array Int} {len : Nat} {x : Int32} {tgt : Nat} (hd : decode cc pc = .ok (.tableswitch dflt lo hi offs, len)) (h : x.toInt < lo ∨ hi < x.toInt) (ht : (pc : Int) + dflt = (tgt : Int)) (kk : P k n tgt lv st ws) : P k n pc lv (.int x :: st) ws := by
  obtain ⟨p, e, s, m, args, below, meth, c, A, Q, ⟨hx, hb, hml, hnm, hown, hts, hK, hA⟩, rfl⟩ := C
  intro H locs ls hP hD hS hl
  exact lv_tableOut hx hb hd h ht (kk H locs ls hP hD hS hl)
theorem st_ldc2 (C : Cx l G own cc nL nm R P) {index : Nat} {v : Int64} (hd : decode cc pc = .ok (.ldc2_w index, 3)) (hw : Cond.constantLong own index v ∈ WS) (kk : P k n (pc + 3) lv (.long v :: st) ws) : P k n pc lv st ws := by
  obtain ⟨p, e, s, m, args, below, meth, c, A, Q, ⟨hx, hb, hml, hnm, hown, hts, hK, hA⟩, rfl⟩ := C
  intro H locs ls hP hD hS hl
  exact lv_ldc2 hx hb hown (hts _ hw) hd (kk H locs ls hP hD hS hl)
theorem st_ldc2d (C : Cx l G own cc nL nm R P) {index : Nat} {v : UInt64} (hd : decode cc pc = .ok (.ldc2_w index, 3)) (hw : Cond.constantDouble own index v ∈ WS) (kk : P k n (pc + 3) lv (.double v :: st) ws) : P k n pc lv st ws := by
  obtain ⟨p, e, s, m, args, below, meth, c, A, Q, ⟨hx, hb, hml, hnm, hown, hts, hK, hA⟩, rfl⟩ := C
  intro H locs ls hP hD hS hl
  exact lv_ldc2d hx hb hown (hts _ hw) hd (kk H locs ls hP hD hS hl)
/-- fewer locals, by their places -/
theorem st_lv (C : Cx l G own cc nL nm R P) (ks : List Nat) {lv' : List (Nat × Value)} (hl' : lv_pick lv ks = lv') (kk : P k n pc lv' st ws) : P k n pc lv st ws := by
  obtain ⟨p, e, s, m, args, below, meth, c, A, Q, ⟨hx, hb, hml, hnm, hown, hts, hK, hA⟩, rfl⟩ := C
  intro H locs ls hP hD hS hl
  exact kk H locs ls hP hD hS (lv_sub hl ks hl')
/-- more room -/
theorem st_wide (C : Cx l G own cc nL nm R P) {k' n' : Nat} (h1 : k ≤ k') (h2 : n ≤ n') (kk : P k' n' pc lv st ws) : P k n pc lv st ws := by
  obtain ⟨p, e, s, m, args, below, meth, c, A, Q, ⟨hx, hb, hml, hnm, hown, hts, hK, hA⟩, rfl⟩ := C
  intro H locs ls hP hD hS hl
  exact W.widen h1 h2 (kk H locs ls hP hD hS hl)
/-- a field's row: own's pool entry idx names the field kf of the class ci -/
def FL (own : String) (idx ci kf : Nat) : Prop := ∃ (Cn : String) (T : u_T) (N : Nat), vwCl[ci]? = some (Cn, T, N) ∧ kf < N ∧ (Cond.fieldLink own idx (T kf).1 (T kf).2.1 (T kf).2.2.1 ∈ WS ∨ ∃ host, Cond.fieldLinkNest own idx (T kf).1 (T kf).2.1 (T kf).2.2.1 host ∈ tables_1) ∧ (∀ w ∈ u_ws Cn T N, w ∈ WS)
/-- what a class's table says: names apart, types -/
def FC (ci : Nat) (ty0 : Nat → FieldType) : Prop := ∃ (Cn : String) (T : u_T) (N : Nat), vwCl[ci]? = some (Cn, T, N) ∧ (∀ k, k < N → parseFieldDescriptor (T k).2.2.1 = some (ty0 k)) ∧ (∀ a, a < N → ∀ b, b < N → a ≠ b → (T a).2.1 ≠ (T b).2.1)
def FW (ci kf : Nat) (fin : Bool) : Prop := ∃ (Cn : String) (T : u_T) (N : Nat), vwCl[ci]? = some (Cn, T, N) ∧ (T kf).2.2.2 = fin
theorem st_get (C : Cx l G own cc nL nm R P) {idx ci kf a : Nat} {fs : List Value} {v : Value} (hf : FL own idx ci kf) (hd : decode cc pc = .ok (.getfield idx, 3)) (q0 : Nat) (he : ws[q0]? = some (a, .inr (ci, fs))) (hv : fs[kf]? = some v) (kk : P k n (pc + 3) lv (v :: st) ws) : P k n pc lv (.ref a :: st) ws := by
  obtain ⟨p, e, s, m, args, below, meth, c, A, Q, ⟨hx, hb, hml, hnm, hown, hts, hK, hA⟩, rfl⟩ := C
  intro H locs ls hP hD hS hl
  obtain ⟨Cn, T, N, hc, hk, hlk, hin⟩ := hf
  rcases hlk with h1 | ⟨host, h1⟩
  · exact va_get hx hb hts hin hown hK.1 hP q0 he hc kf hk (hts _ h1) (fun _ h => h) hv hd (kk H locs ls hP hD hS hl)
  · exact va_getN hx hb hts hin hown hK.1 hP q0 he hc kf hk (va_Nw.use rfl (hK.2 _ h1 rfl)) (fun _ h => h) hv hd (kk H locs ls hP hD hS hl)
theorem st_put (C : Cx l G own cc nL nm R P) {idx ci kf a : Nat} {ty0 : Nat → FieldType} {fs : List Value} {v : Value} (hf : FL own idx ci kf) (hC : FC ci ty0) (hW : FW ci kf false) (hd : decode cc pc = .ok (.putfield idx, 3)) (q0 : Nat) (he : ws[q0]? = some (a, .inr (ci, fs))) (hn : narrow (ty0 kf) v = v) (hfit : fits (ty0 kf) v = true) (hlen : kf < fs.length) (kk : P k n (pc + 3) lv st (ws.set q0 (a, .inr (ci, fs.set kf v)))) : P k n pc lv (v :: .ref a :: st) ws := by
  obtain ⟨p, e, s, m, args, below, meth, c, A, Q, ⟨hx, hb, hml, hnm, hown, hts, hK, hA⟩, rfl⟩ := C
  intro H locs ls hP hD hS hl
  obtain ⟨Cn, T, N, hc, hk, hlk, hin⟩ := hf
  obtain ⟨Cn1, T1, N1, hc1, hty, hnm1⟩ := hC
  obtain ⟨Cn2, T2, N2, hc2, hfin⟩ := hW
  cases hc.symm.trans hc1
  cases hc.symm.trans hc2
  rcases hlk with h1 | ⟨host, h1⟩
  · exact va_put hx hb hts hin ty0 hty hnm1 hown hK.1 hP hD hS q0 he hc kf hk (hts _ h1) (fun _ h => h) hfin (hty kf hk) hn hfit hlen hd (fun H1 locs1 hP1 hD1 hS1 => kk H1 locs1 ls hP1 hD1 hS1 hl)
  · exact va_putN hx hb hts hin ty0 hty hnm1 hown hK.1 hP hD hS q0 he hc kf hk (va_Nw.use rfl (hK.2 _ h1 rfl)) (fun _ h => h) hfin (hty kf hk) hn hfit hlen hd (fun H1 locs1 hP1 hD1 hS1 => kk H1 locs1 ls hP1 hD1 hS1 hl)
theorem st_putF (C : Cx l G own cc nL "<init>" R P) {idx ci kf a : Nat} {ty0 : Nat → FieldType} {fs : List Value} {v : Value} (hf : ∃ (Cn : String) (T : u_T) (N : Nat), vwCl[ci]? = some (Cn, T, N) ∧ kf < N ∧ Cond.fieldLink own idx (T kf).1 (T kf).2.1 (T kf).2.2.1 ∈ WS ∧ (∀ w ∈ u_ws Cn T N, w ∈ WS) ∧ (T kf).1 = own) (hC : FC ci ty0) (hW : FW ci kf true) (hd : decode cc pc = .ok (.putfield idx, 3)) (q0 : Nat) (he : ws[q0]? = some (a, .inr (ci, fs))) (hn : narrow (ty0 kf) v = v) (hfit : fits (ty0 kf) v = true) (hlen : kf < fs.length) (kk : P k n (pc + 3) lv st (ws.set q0 (a, .inr (ci, fs.set kf v)))) : P k n pc lv (v :: .ref a :: st) ws := by
  obtain ⟨p, e, s, m, args, below, meth, c, A, Q, ⟨hx, hb, hml, hnm, hown, hts, hK, hA⟩, rfl⟩ := C
  intro H locs ls hP hD hS hl
  obtain ⟨Cn, T, N, hc, hk, h1, hin, hdecl⟩ := hf
  obtain ⟨Cn1, T1, N1, hc1, hty, hnm1⟩ := hC
  obtain ⟨Cn2, T2, N2, hc2, hfin⟩ := hW
  cases hc.symm.trans hc1
  cases hc.symm.trans hc2
  exact va_putF hx hb hts hin ty0 hty hnm1 hown hK.1 hP hD hS q0 he hc kf hk (hts _ h1) (fun _ h => h) hfin hnm hdecl (hty kf hk) hn hfit hlen hd (fun H1 locs1 hP1 hD1 hS1 => kk H1 locs1 ls hP1 hD1 hS1 hl)
theorem st_iald (C : Cx l G own cc nL nm R P) {a N : Nat} {f : Nat → Int32} {i : Int32} (hd : decode cc pc = .ok (.iaload, 1)) (q0 : Nat) (he : ws[q0]? = some (a, aI G N f)) (hin : vp_in i N) (kk : P k n (pc + 1) lv (.int (f i.toNatClampNeg) :: st) ws) : P k n pc lv (.int i :: .ref a :: st) ws := by
  obtain ⟨p, e, s, m, args, below, meth, c, A, Q, ⟨hx, hb, hml, hnm, hown, hts, hK, hA⟩, rfl⟩ := C
  intro H locs ls hP hD hS hl
  exact va_iald hx hb hK.1 hP q0 0 he rfl hin hd (kk H locs ls hP hD hS hl)
theorem st_iast (C : Cx l G own cc nL nm R P) {a N : Nat} {f : Nat → Int32} {i x : Int32} (hd : decode cc pc = .ok (.iastore, 1)) (q0 : Nat) (he : ws[q0]? = some (a, aI G N f)) (hin : vp_in i N) (kk : P k n (pc + 1) lv st (ws.set q0 (a, aI G N (upd f i.toNatClampNeg x)))) : P k n pc lv (.int x :: .int i :: .ref a :: st) ws := by
  obtain ⟨p, e, s, m, args, below, meth, c, A, Q, ⟨hx, hb, hml, hnm, hown, hts, hK, hA⟩, rfl⟩ := C
  intro H locs ls hP hD hS hl
  exact va_iast hx hb hK.1 hP hD hS q0 0 he rfl hin hd (fun H1 locs1 hP1 hD1 hS1 => kk H1 locs1 ls hP1 hD1 hS1 hl)
theorem st_lald (C : Cx l G own cc nL nm R P) {a N : Nat} {f : Nat → Int64} {i : Int32} (hd : decode cc pc = .ok (.laload, 1)) (q0 : Nat) (he : ws[q0]? = some (a, aJ G N f)) (hin : vp_in i N) (kk : P k n (pc + 1) lv (.long (f i.toNatClampNeg) :: st) ws) : P k n pc lv (.int i :: .ref a :: st) ws := by
  obtain ⟨p, e, s, m, args, below, meth, c, A, Q, ⟨hx, hb, hml, hnm, hown, hts, hK, hA⟩, rfl⟩ := C
  intro H locs ls hP hD hS hl
  exact va_lald hx hb hK.1 hP q0 1 he rfl hin hd (kk H locs ls hP hD hS hl)
theorem st_last (C : Cx l G own cc nL nm R P) {a N : Nat} {f : Nat → Int64} {i : Int32} {x : Int64} (hd : decode cc pc = .ok (.lastore, 1)) (q0 : Nat) (he : ws[q0]? = some (a, aJ G N f)) (hin : vp_in i N) (kk : P k n (pc + 1) lv st (ws.set q0 (a, aJ G N (vp_updL f i.toNatClampNeg x)))) : P k n pc lv (.long x :: .int i :: .ref a :: st) ws := by
  obtain ⟨p, e, s, m, args, below, meth, c, A, Q, ⟨hx, hb, hml, hnm, hown, hts, hK, hA⟩, rfl⟩ := C
  intro H locs ls hP hD hS hl
  exact va_last hx hb hK.1 hP hD hS q0 1 he rfl hin hd (fun H1 locs1 hP1 hD1 hS1 => kk H1 locs1 ls hP1 hD1 hS1 hl)
theorem st_aald (C : Cx l G own cc nL nm R P) {a N b : Nat} {f : Nat → Option Nat} {i : Int32} (hd : decode cc pc = .ok (.aaload, 1)) (q0 : Nat) (he : ws[q0]? = some (a, aQ G N f)) (hin : vp_in i N) (hb9 : f i.toNatClampNeg = some b) (kk : P k n (pc + 1) lv (.ref b :: st) ws) : P k n pc lv (.int i :: .ref a :: st) ws := by
  obtain ⟨p, e, s, m, args, below, meth, c, A, Q, ⟨hx, hb, hml, hnm, hown, hts, hK, hA⟩, rfl⟩ := C
  intro H locs ls hP hD hS hl
  exact va_aldq hx hb hK.1 hP q0 2 he rfl hin hd (by rw [hb9]; exact kk H locs ls hP hD hS hl)
theorem st_alenI (C : Cx l G own cc nL nm R P) {a N : Nat} {f : Nat → Int32} {v : Int32} (hd : decode cc pc = .ok (.arraylength, 1)) (q0 : Nat) (he : ws[q0]? = some (a, aI G N f)) (hv : Int32.ofNat N = v) (kk : P k n (pc + 1) lv (.int v :: st) ws) : P k n pc lv (.ref a :: st) ws := by
  obtain ⟨p, e, s, m, args, below, meth, c, A, Q, ⟨hx, hb, hml, hnm, hown, hts, hK, hA⟩, rfl⟩ := C
  intro H locs ls hP hD hS hl
  exact va_alen hx hb hK.1 hP q0 0 he rfl hv hd (kk H locs ls hP hD hS hl)
theorem st_alenJ (C : Cx l G own cc nL nm R P) {a N : Nat} {f : Nat → Int64} {v : Int32} (hd : decode cc pc = .ok (.arraylength, 1)) (q0 : Nat) (he : ws[q0]? = some (a, aJ G N f)) (hv : Int32.ofNat N = v) (kk : P k n (pc + 1) lv (.int v :: st) ws) : P k n pc lv (.ref a :: st) ws := by
  obtain ⟨p, e, s, m, args, below, meth, c, A, Q, ⟨hx, hb, hml, hnm, hown, hts, hK, hA⟩, rfl⟩ := C
  intro H locs ls hP hD hS hl
  exact va_alen hx hb hK.1 hP q0 1 he rfl hv hd (kk H locs ls hP hD hS hl)
end Steps
end
section
/-! calls: the callee's cells are some places of the caller's; behind the call they hold what the contract says, in place -/
def put : va_W → List Nat → va_W → va_W
  | ws, i :: is, e :: es => put (ws.set i e) is es
  | ws, _, _ => ws
theorem put_nil (ws es : va_W) : put ws [] es = ws := by unfold put; rfl
theorem put_nil' (ws : va_W) (is : List Nat) : put ws is [] = ws := by cases is <;> (unfold put; rfl)
theorem put_cons (ws : va_W) (i : Nat) (is : List Nat) (e : Nat × va_E) (es : va_W) : put ws (i :: is) (e :: es) = put (ws.set i e) is es := by rw [put]
theorem put_len : ∀ (is : List Nat) (es ws : va_W), (put ws is es).length = ws.length
  | [], es, ws => by rw [put_nil]
  | i :: is, [], ws => by rw [put_nil']
  | i :: is, e :: es, ws => by rw [put_cons, put_len is es]; simp
/-- the addresses stay -/
theorem put_fst : ∀ (is : List Nat) (es ws : va_W), (∀ (j i : Nat) (e : Nat × va_E), is[j]? = some i → es[j]? = some e → ∃ e0, ws[i]? = some e0 ∧ e0.1 = e.1) → ∀ (k : Nat) (q : Nat × va_E), (put ws is es)[k]? = some q → ∃ q0, ws[k]? = some q0 ∧ q0.1 = q.1
  | [], es, ws, _, k, q, h => by rw [put_nil] at h; exact ⟨q, h, rfl⟩
  | i :: is, [], ws, _, k, q, h => by rw [put_nil'] at h; exact ⟨q, h, rfl⟩
  | i :: is, e :: es, ws, hh, k, q, h => by
    rw [put_cons] at h
    obtain ⟨e0, h0, h1⟩ := hh 0 i e rfl rfl
    have hi : i < ws.length := (List.getElem?_eq_some_iff.mp h0).1
    have step : ∀ (k : Nat) (q : Nat × va_E), (ws.set i e)[k]? = some q → ∃ q0, ws[k]? = some q0 ∧ q0.1 = q.1 := by
      intro k q hk
      by_cases hki : k = i
      · subst hki
        rw [List.getElem?_set_self hi] at hk
        cases hk
        exact ⟨e0, h0, h1⟩
      · rw [List.getElem?_set_ne (Ne.symm hki)] at hk
        exact ⟨q, hk, rfl⟩
    obtain ⟨q1, a1, a2⟩ := put_fst is es (ws.set i e) (fun j i' e' hj he => by
      obtain ⟨e0', b1, b2⟩ := hh (j + 1) i' e' hj he
      by_cases hii : i' = i
      · subst hii
        rw [h0] at b1
        cases b1
        exact ⟨e, List.getElem?_set_self hi, h1.symm.trans b2⟩
      · exact ⟨e0', by rw [List.getElem?_set_ne (Ne.symm hii)]; exact b1, b2⟩) k q h
    obtain ⟨q2, a3, a4⟩ := step k q1 a1
    exact ⟨q2, a3, a4.trans a2⟩
theorem put_get : ∀ (is : List Nat) (es ws : va_W) (k : Nat) (q : Nat × va_E), (put ws is es)[k]? = some q → (∃ j : Nat, is[j]? = some k ∧ es[j]? = some q) ∨ ((∀ j : Nat, is[j]? = some k → es.length ≤ j) ∧ ws[k]? = some q)
  | [], es, ws, k, q, h => by rw [put_nil] at h; exact Or.inr ⟨fun j hj => by simp at hj, h⟩
  | i :: is, [], ws, k, q, h => by rw [put_nil'] at h; exact Or.inr ⟨fun j hj => by simp, h⟩
  | i :: is, e :: es, ws, k, q, h => by
    rw [put_cons] at h
    rcases put_get is es (ws.set i e) k q h with ⟨j, h1, h2⟩ | ⟨h1, h2⟩
    · exact Or.inl ⟨j + 1, h1, h2⟩
    · by_cases hki : k = i
      · subst hki
        by_cases hk : k < ws.length
        · rw [List.getElem?_set_self hk] at h2
          exact Or.inl ⟨0, rfl, h2⟩
        · have : (ws.set k e)[k]? = none := List.getElem?_eq_none (by simp; omega)
          rw [this] at h2
          cases h2
      · rw [List.getElem?_set_ne (Ne.symm hki)] at h2
        refine Or.inr ⟨fun j hj => ?_, h2⟩
        cases j with
        | zero => exact absurd (Option.some.inj hj).symm hki
        | succ j =>
          have := h1 j hj
          simp only [List.length_cons]
          omega
theorem fst_at {w1 wc : va_W} (h : w1.map (·.1) = wc.map (·.1)) {j : Nat} {q : Nat × va_E} (hq : w1[j]? = some q) : ∃ q0, wc[j]? = some q0 ∧ q0.1 = q.1 := by
  have h1 : (w1.map (·.1))[j]? = some q.1 := by rw [List.getElem?_map, hq]; rfl
  rw [h, List.getElem?_map] at h1
  cases h2 : wc[j]? with
  | none => rw [h2] at h1; cases h1
  | some q0 => rw [h2] at h1; exact ⟨q0, rfl, by simpa using h1⟩
theorem isC_at {ws wc : va_W} {isC : List Nat} (hC : isC.map (fun i => ws[i]?) = wc.map some) {j i : Nat} (hj : isC[j]? = some i) : ∃ q, wc[j]? = some q ∧ ws[i]? = some q := by
  have h1 : (isC.map (fun i => ws[i]?))[j]? = some (ws[i]?) := by rw [List.getElem?_map, hj]; rfl
  rw [hC, List.getElem?_map] at h1
  cases h2 : wc[j]? with
  | none => rw [h2] at h1; cases h1
  | some q => rw [h2] at h1; exact ⟨q, rfl, (Option.some.inj h1).symm⟩
theorem isC_at' {ws wc : va_W} {isC : List Nat} (hC : isC.map (fun i => ws[i]?) = wc.map some) {j : Nat} {q : Nat × va_E} (hj : wc[j]? = some q) : ∃ i, isC[j]? = some i ∧ ws[i]? = some q := by
  have h1 : (wc.map some)[j]? = some (some q) := by rw [List.getElem?_map, hj]; rfl
  rw [← hC, List.getElem?_map] at h1
  cases h2 : isC[j]? with
  | none => rw [h2] at h1; cases h1
  | some i => rw [h2] at h1; exact ⟨i, rfl, Option.some.inj h1⟩
/-- behind a call -/
theorem put_join {A0 : Nat → Prop} {D : va_G} {cl : List vw_C} {ws wc w1 w2 : va_W} {H H1 : Heap} (hP : va_P D cl ws H) (hD : va_D A0 ws) (isC : List Nat) (hC : isC.map (fun i => ws[i]?) = wc.map some)
    (hk : ∀ q : Nat, q < H.size → ¬ va_A wc H.size q → H1[q]? = H[q]?) (hF : ∀ q, va_A wc H.size q → A0 q) (h1 : w1.map (·.1) = wc.map (·.1)) (hP1 : va_P D cl (w1 ++ w2) H1) (hD1 : va_D (va_A wc H.size) (w1 ++ w2)) : va_P D cl (put ws isC w1 ++ w2) H1 ∧ va_D A0 (put ws isC w1 ++ w2) := by
  have hlen : w1.length = wc.length := by have := congrArg List.length h1; simpa using this
  have hlenC : isC.length = wc.length := by have := congrArg List.length hC; simpa using this
  have hfst : ∀ (k : Nat) (q : Nat × va_E), (put ws isC w1)[k]? = some q → ∃ q0, ws[k]? = some q0 ∧ q0.1 = q.1 := put_fst isC w1 ws (fun j i e hj he => by
    obtain ⟨q0, a1, a2⟩ := fst_at h1 he
    obtain ⟨q1, b1, b2⟩ := isC_at hC hj
    rw [a1] at b1
    cases b1
    exact ⟨q0, b2, a2⟩)
  have hPp : va_P D cl (put ws isC w1) H1 := by
    intro k q hq
    rcases put_get isC w1 ws k q hq with ⟨j, a1, a2⟩ | ⟨a1, a2⟩
    · exact hP1 j q (by rw [List.getElem?_append_left (List.getElem?_eq_some_iff.mp a2).1]; exact a2)
    · refine (hP k q a2).kept (hk q.1 (hP k q a2).lt (fun ha => ?_))
      rcases ha with ⟨j, e, hj⟩ | hj
      · obtain ⟨i, b1, b2⟩ := isC_at' hC hj
        have hki := hD.1 k i q (q.1, e) a2 b2 rfl
        subst hki
        have := a1 j b1
        have hl := (List.getElem?_eq_some_iff.mp hj).1
        omega
      · have := (hP k q a2).lt
        omega
  have hD2 : va_D (va_A wc H.size) w2 := ⟨fun i j p q hi hj hpq => by
    have := hD1.1 (w1.length + i) (w1.length + j) p q (by rw [List.getElem?_append_right (by omega)]; simpa using hi) (by rw [List.getElem?_append_right (by omega)]; simpa using hj) hpq
    omega, fun k q hq => hD1.2 (w1.length + k) q (by rw [List.getElem?_append_right (by omega)]; simpa using hq)⟩
  have hDp : va_D A0 (put ws isC w1) := ⟨fun i j p q hi hj hpq => by
    obtain ⟨p0, a1, a2⟩ := hfst i p hi
    obtain ⟨q0, b1, b2⟩ := hfst j q hj
    exact hD.1 i j p0 q0 a1 b1 (a2.trans (hpq.trans b2.symm)), fun k q hq => by
    obtain ⟨q0, a1, a2⟩ := hfst k q hq
    rw [← a2]
    exact hD.2 k q0 a1⟩
  refine ⟨va_P.app hPp (fun k q hq => hP1 (w1.length + k) q (by rw [List.getElem?_append_right (by omega)]; simpa using hq)), va_D.app hDp (hD2.weaken (fun k q _ h => hF q.1 h)) (fun i j p q hi hj hpq => ?_)⟩
  obtain ⟨p0, a1, a2⟩ := hfst i p hi
  have hplt := (hP i p0 a1).lt
  have hqn : H.size ≤ q.1 := by
    rcases hD2.2 j q hj with ⟨k, e, hk9⟩ | hk9
    · have e9 : (wc.map (·.1))[k]? = some q.1 := by rw [List.getElem?_map, hk9]; rfl
      rw [← h1, List.getElem?_map] at e9
      cases h3 : w1[k]? with
      | none => rw [h3] at e9; cases e9
      | some q3 =>
        rw [h3] at e9
        have hk1 : k < w1.length := (List.getElem?_eq_some_iff.mp h3).1
        have := hD1.1 k (w1.length + j) q3 q (by rw [List.getElem?_append_left hk1]; exact h3) (by rw [List.getElem?_append_right (by omega)]; simpa using hj) (by simpa using e9)
        omega
    · exact hk9
  rw [← hpq, ← a2] at hqn
  omega
/-! what the tables say of a method, and of a call's place -/
def MF (y : MethodName) (bytes : ByteArray) (maxL : Nat) (ret : Option FieldType) (na : Nat) : Prop :=
  Cond.code y bytes maxL ret ∈ WS ∧ Cond.initialized y.cls ∈ WS ∧ (y.cls ≠ "java/lang/invoke/MethodHandle" ∧ y.cls ≠ "java/lang/invoke/VarHandle" ∧ (parseMethodDescriptor y.desc).map (fun d => d.parameters.length) = some na)
def ML (own : String) (idx : Nat) (y : MethodName) : Prop := Cond.methodLink own idx y ∈ WS ∨ ∃ host, Cond.methodLinkNest own idx y host ∈ tables_1
theorem ws_good {y : MethodName} {bytes : ByteArray} {maxL : Nat} {ret : Option FieldType} (h : Cond.code y bytes maxL ret ∈ WS) : GoodIn WS (Cond.code y bytes maxL ret :: WS) :=
  WS_good (fun w hw => (List.mem_cons.mp hw).elim (fun e => e ▸ h) id) (fun _ h => h)
section Calls9
variable {l : Launch} {G : wG} {own : String} {cc : ByteArray} {nL : Nat} {nm : String} {R : Room} {P : PT} {k n pc : Nat} {lv : List (Nat × Value)} {st : List Value} {ws : va_W}
/-- from a run of the callee to the caller's next pc -/
theorem run_join {p : Program} {e : Env} {s : State} {m : MethodId} {args : Array Value} {below : List Frame} {meth : Method} {c : Code} {A : Nat → Prop} {Q : State → Prop} {H : Heap} {locs : List Loc} {ls : Array Slot} {wc : va_W} {mc ms : Nat} {st0 : List Value} {Qr : Option Value → va_W → va_W → Prop} {a : Array Value}
    (hr : va_Run p l e R s m args below meth c H locs k n mc ms (F0 m pc ls st0) st (conQc G wc H.size Qr a) (va_A wc H.size)) (hK : KU G s) (hP : va_P G.1 vwCl ws H) (hD : va_D A ws) (hS : va_S A s.heap H locs) (hA : ∀ q : Nat, s.heap.size ≤ q → A q) (isC : List Nat) (hC : isC.map (fun i => ws[i]?) = wc.map some)
    (kk : ∀ (r : Option Value) (w1 w2 : va_W), Qr r w1 w2 → ∀ (H1 : Heap) (locs1 : List Loc), va_P G.1 vwCl (put ws isC w1 ++ w2) H1 → va_D A (put ws isC w1 ++ w2) → va_S A s.heap H1 locs1 → W p l e R s m args below meth c H1 locs1 (k + mc) (n + ms) Q (F0 m (pc + 3) ls (r.toList ++ st))) :
    W p l e R s m args below meth c H locs k n Q (F0 m pc ls st0) := by
  intro T hT X
  obtain ⟨v, st₀, t, T', L, h0, X', hL, e1, e2, ⟨r, w1, w2, hv, hq, h1, hP1, hD1, hz, hk⟩, hst⟩ := hr T hT X
  cases hv
  rw [h0] at hz hk
  have hF := va_free (wc := wc) hD hS hA isC hC
  obtain ⟨j1, j2⟩ := put_join hP hD isC hC hk hF h1 hP1 hD1
  rw [← e1] at j1 hz hk
  obtain ⟨t2, a1, b1⟩ := kk v w1 w2 hq T'.heap (locs ++ L) j1 j2 ⟨Nat.le_trans hS.1 hz, fun q g1 g2 => by rw [hk q (Nat.lt_of_lt_of_le g1 hS.1) (fun z => g2 (hF q z))]; exact hS.2.1 q g1 g2, fun q hq => by
      rcases List.mem_append.mp hq with h | h
      · exact hS.2.2 q h
      · exact hF _ (hL q h)⟩ T' rfl X'
  exact ⟨t2, hst t2 a1, b1⟩
theorem st_callV (C : Cx l G own cc nL nm R P) {y : MethodName} {bytes : ByteArray} {maxL : Nat} {ret : Option FieldType} {na d mc ms idx b ci : Nat} {fs : List Value} {As st0 : List Value} {wc : va_W} {Qr : Option Value → va_W → va_W → Prop} {T : u_T} {N : Nat}
    (hc : Con l G y bytes maxL ret d mc ms (.ref b :: As) wc Qr) (hy : MF y bytes maxL ret na) (hi : Cond.instanceMethod y ∈ WS ∧ Cond.selects y.cls y y ∈ WS) (hl : ML own idx y) (hd : decode cc pc = .ok (.invokevirtual idx, 3)) (isC : List Nat) (hC : isC.map (fun i => ws[i]?) = wc.map some) (hnd9 : va_nd isC = true) (hn : As.length = na) (hst : st0 = As.reverse ++ .ref b :: st) (hW : (st.map fun v => v.category).sum ≤ 8)
    (hb : wc[0]? = some (b, .inr (ci, fs))) (hcl : vwCl[ci]? = some (y.cls, T, N)) (hR : d + 1 ≤ R.frames ∧ 8 + (maxL + 11) + 38 * d ≤ R.locals) (hroom : k + mc ≤ R.cells ∧ n + ms ≤ R.slots)
    (kk : ∀ (r : Option Value) (w1 w2 : va_W), Qr r w1 w2 → P (k + mc) (n + ms) (pc + 3) lv (r.toList ++ st) (put ws isC w1 ++ w2)) : P k n pc lv st0 ws := by
  obtain ⟨p, e, s, m, args, below, meth, c, A, Q, ⟨hx, hb9, hml, hnm, hown, hts, hK, hA⟩, rfl⟩ := C
  intro H locs ls hP hD hS hl9
  obtain ⟨y1, y2, y3⟩ := hy
  have hPc : va_P G.1 vwCl wc H := fun j q hj => by
    obtain ⟨i, -, h2⟩ := isC_at' hC hj
    exact hP i q h2
  have hnd : va_D (fun _ => True) wc := (hD.sub isC hnd9 hC).weaken (fun _ _ _ _ => trivial)
  have hpre : PreV s H y.cls b (conPc G (.ref b :: As) wc H.size) As := ⟨conPc_blind _ _ _ _, va_recv hK.1 hPc hcl hb, fun U hU hW9 => ⟨rfl, by rw [hU], by rw [hU]; exact hPc, KU.warm hW9 hK, hnd⟩⟩
  subst hst
  rcases hl with h1 | ⟨host, h1⟩
  · have cw : CallW R s args own y.cls idx y bytes maxL ret (.code y bytes maxL ret :: WS) (rmD d mc ms) mc ms na :=
      ⟨callB_of na hts (ws_good y1) rfl rfl rfl (hts _ y2) (hts _ h1) y3 hR, hts _ hi.1, hts _ hi.2⟩
    exact run_join (va_runV (As := As) (rest := st) ⟨hx, hb9, hml, hown, hts⟩ (hc H.size) cw hpre rfl hn hl9.1 rfl (lv_room hW) hd hroom) hK hP hD hS hA isC hC (fun r w1 w2 hq H1 locs1 hP1 hD1 hS1 => kk r w1 w2 hq H1 locs1 ls hP1 hD1 hS1 hl9)
  · have cw := va_cnB (R := R) (index := idx) (maxL := maxL) (bytes := bytes) (ret := ret) (rm := rmD d mc ms) (mc := mc) (ms := ms) na hts (ws_good y1) rfl rfl rfl (hK.2 _ h1 rfl) (hts _ y2) y3 hR
    exact run_join (va_runVN (As := As) (rest := st) ⟨hx, hb9, hml, hown, hts⟩ (hc H.size) ⟨cw, hts _ hi.1, hts _ hi.2⟩ hpre rfl hn hl9.1 rfl (lv_room hW) hd hroom) hK hP hD hS hA isC hC (fun r w1 w2 hq H1 locs1 hP1 hD1 hS1 => kk r w1 w2 hq H1 locs1 ls hP1 hD1 hS1 hl9)
theorem st_callS (C : Cx l G own cc nL nm R P) {y : MethodName} {bytes : ByteArray} {maxL : Nat} {ret : Option FieldType} {na d mc ms idx : Nat} {As st0 : List Value} {wc : va_W} {Qr : Option Value → va_W → va_W → Prop}
    (hc : Con l G y bytes maxL ret d mc ms As wc Qr) (hy : MF y bytes maxL ret na) (hi : Cond.static y ∈ WS) (hl : ML own idx y) (hd : decode cc pc = .ok (.invokestatic idx, 3)) (isC : List Nat) (hC : isC.map (fun i => ws[i]?) = wc.map some) (hnd9 : va_nd isC = true) (hn : As.length = na) (hst : st0 = As.reverse ++ st) (hW : (st.map fun v => v.category).sum ≤ 8)
    (hR : d + 1 ≤ R.frames ∧ 8 + (maxL + 11) + 38 * d ≤ R.locals) (hroom : k + mc ≤ R.cells ∧ n + ms ≤ R.slots)
    (kk : ∀ (r : Option Value) (w1 w2 : va_W), Qr r w1 w2 → P (k + mc) (n + ms) (pc + 3) lv (r.toList ++ st) (put ws isC w1 ++ w2)) : P k n pc lv st0 ws := by
  obtain ⟨p, e, s, m, args, below, meth, c, A, Q, ⟨hx, hb9, hml, hnm, hown, hts, hK, hA⟩, rfl⟩ := C
  intro H locs ls hP hD hS hl9
  obtain ⟨y1, y2, y3⟩ := hy
  have hPc : va_P G.1 vwCl wc H := fun j q hj => by
    obtain ⟨i, -, h2⟩ := isC_at' hC hj
    exact hP i q h2
  have hnd : va_D (fun _ => True) wc := (hD.sub isC hnd9 hC).weaken (fun _ _ _ _ => trivial)
  have hpre : PreS s H (conPc G As wc H.size) As := ⟨conPc_blind _ _ _ _, fun U hU hW9 => ⟨rfl, by rw [hU], by rw [hU]; exact hPc, KU.warm hW9 hK, hnd⟩⟩
  subst hst
  rcases hl with h1 | ⟨host, h1⟩
  · have cw : CallB R s args own idx y bytes maxL ret (.code y bytes maxL ret :: WS) (rmD d mc ms) mc ms na ∧ (Cond.static y).before args s = true :=
      ⟨callB_of na hts (ws_good y1) rfl rfl rfl (hts _ y2) (hts _ h1) y3 hR, hts _ hi⟩
    exact run_join (va_runS (As := As) (rest := st) ⟨hx, hb9, hml, hown, hts⟩ (hc H.size) cw hpre rfl hn hl9.1 rfl (lv_room hW) hd hroom) hK hP hD hS hA isC hC (fun r w1 w2 hq H1 locs1 hP1 hD1 hS1 => kk r w1 w2 hq H1 locs1 ls hP1 hD1 hS1 hl9)
  · have cw := va_cnB (R := R) (index := idx) (maxL := maxL) (bytes := bytes) (ret := ret) (rm := rmD d mc ms) (mc := mc) (ms := ms) na hts (ws_good y1) rfl rfl rfl (hK.2 _ h1 rfl) (hts _ y2) y3 hR
    exact run_join (va_runSN (As := As) (rest := st) ⟨hx, hb9, hml, hown, hts⟩ (hc H.size) ⟨cw, hts _ hi, trivial⟩ hpre rfl hn hl9.1 rfl (lv_room hW) hd hroom) hK hP hD hS hA isC hC (fun r w1 w2 hq H1 locs1 hP1 hD1 hS1 => kk r w1 w2 hq H1 locs1 ls hP1 hD1 hS1 hl9)
theorem st_callI (C : Cx l G own cc nL nm R P) {y : MethodName} {bytes : ByteArray} {maxL : Nat} {na d mc ms idx b : Nat} {As st0 : List Value} {wc : va_W} {Qr : Option Value → va_W → va_W → Prop}
    (hc : Con l G y bytes maxL none d mc ms (.ref b :: As) wc Qr) (hy : MF y bytes maxL none na) (hi : y.name = "<init>" ∧ Cond.instanceMethod y ∈ WS) (hl : ML own idx y) (hd : decode cc pc = .ok (.invokespecial idx, 3)) (isC : List Nat) (hC : isC.map (fun i => ws[i]?) = wc.map some) (hnd9 : va_nd isC = true) (hn : As.length = na) (hst : st0 = As.reverse ++ .ref b :: st) (hW : (st.map fun v => v.category).sum ≤ 8)
    (hR : d + 1 ≤ R.frames ∧ 8 + (maxL + 11) + 38 * d ≤ R.locals) (hroom : k + mc ≤ R.cells ∧ n + ms ≤ R.slots)
    (kk : ∀ (r : Option Value) (w1 w2 : va_W), Qr r w1 w2 → P (k + mc) (n + ms) (pc + 3) lv (r.toList ++ st) (put ws isC w1 ++ w2)) : P k n pc lv st0 ws := by
  obtain ⟨p, e, s, m, args, below, meth, c, A, Q, ⟨hx, hb9, hml, hnm, hown, hts, hK, hA⟩, rfl⟩ := C
  intro H locs ls hP hD hS hl9
  obtain ⟨y1, y2, y3⟩ := hy
  have hPc : va_P G.1 vwCl wc H := fun j q hj => by
    obtain ⟨i, -, h2⟩ := isC_at' hC hj
    exact hP i q h2
  have hnd : va_D (fun _ => True) wc := (hD.sub isC hnd9 hC).weaken (fun _ _ _ _ => trivial)
  have hpre : PreS s H (conPc G (.ref b :: As) wc H.size) (.ref b :: As) := ⟨conPc_blind _ _ _ _, fun U hU hW9 => ⟨rfl, by rw [hU], by rw [hU]; exact hPc, KU.warm hW9 hK, hnd⟩⟩
  subst hst
  rcases hl with h1 | ⟨host, h1⟩
  · have cw : CallB R s args own idx y bytes maxL none (.code y bytes maxL none :: WS) (rmD d mc ms) mc ms na ∧ y.name = "<init>" ∧ (Cond.instanceMethod y).before args s = true :=
      ⟨callB_of na hts (ws_good y1) rfl rfl rfl (hts _ y2) (hts _ h1) y3 hR, hi.1, hts _ hi.2⟩
    exact run_join (va_runI (As := As) (rest := st) ⟨hx, hb9, hml, hown, hts⟩ (hc H.size) cw hpre rfl hn hl9.1 rfl (lv_room hW) hd hroom) hK hP hD hS hA isC hC (fun r w1 w2 hq H1 locs1 hP1 hD1 hS1 => kk r w1 w2 hq H1 locs1 ls hP1 hD1 hS1 hl9)
  · have cw := va_cnB (R := R) (index := idx) (maxL := maxL) (bytes := bytes) (ret := none) (rm := rmD d mc ms) (mc := mc) (ms := ms) na hts (ws_good y1) rfl rfl rfl (hK.2 _ h1 rfl) (hts _ y2) y3 hR
    exact run_join (va_runIN (As := As) (rest := st) ⟨hx, hb9, hml, hown, hts⟩ (hc H.size) ⟨cw, hi.1, hts _ hi.2⟩ hpre rfl hn hl9.1 rfl (lv_room hW) hd hroom) hK hP hD hS hA isC hC (fun r w1 w2 hq H1 locs1 hP1 hD1 hS1 => kk r w1 w2 hq H1 locs1 ls hP1 hD1 hS1 hl9)
/-! calls of methods that make no cell -/
def Con0 (l : Launch) (G : wG) (y : MethodName) (bytes : ByteArray) (maxL : Nat) (ret : Option FieldType) (d : Nat) (av : List Value) (wc : va_W) (Q0 : Option Value → va_W → Prop) : Prop := Con l G y bytes maxL ret d 0 0 av wc (fun r w1 w2 => w2 = [] ∧ Q0 r w1)
theorem st_cV (C : Cx l G own cc nL nm R P) {y : MethodName} {bytes : ByteArray} {maxL : Nat} {ret : Option FieldType} {na d idx b ci : Nat} {fs : List Value} {As st0 : List Value} {wc : va_W} {Q0 : Option Value → va_W → Prop} {T : u_T} {N : Nat}
    (hc : Con0 l G y bytes maxL ret d (.ref b :: As) wc Q0) (hy : MF y bytes maxL ret na) (hi : Cond.instanceMethod y ∈ WS ∧ Cond.selects y.cls y y ∈ WS) (hl : ML own idx y) (hd : decode cc pc = .ok (.invokevirtual idx, 3)) (isC : List Nat) (hC : isC.map (fun i => ws[i]?) = wc.map some) (hnd9 : va_nd isC = true) (hn : As.length = na) (hst : st0 = As.reverse ++ .ref b :: st) (hW : (st.map fun v => v.category).sum ≤ 8)
    (hb : wc[0]? = some (b, .inr (ci, fs))) (hcl : vwCl[ci]? = some (y.cls, T, N)) (hR : d + 1 ≤ R.frames ∧ 8 + (maxL + 11) + 38 * d ≤ R.locals) (hroom : k ≤ R.cells ∧ n ≤ R.slots)
    (kk : ∀ (r : Option Value) (w1 : va_W), Q0 r w1 → P k n (pc + 3) lv (r.toList ++ st) (put ws isC w1)) : P k n pc lv st0 ws :=
  st_callV C hc hy hi hl hd isC hC hnd9 hn hst hW hb hcl hR hroom (fun r w1 w2 h => by rw [h.1, List.append_nil]; exact kk r w1 h.2)
theorem st_cS (C : Cx l G own cc nL nm R P) {y : MethodName} {bytes : ByteArray} {maxL : Nat} {ret : Option FieldType} {na d idx : Nat} {As st0 : List Value} {wc : va_W} {Q0 : Option Value → va_W → Prop}
    (hc : Con0 l G y bytes maxL ret d As wc Q0) (hy : MF y bytes maxL ret na) (hi : Cond.static y ∈ WS) (hl : ML own idx y) (hd : decode cc pc = .ok (.invokestatic idx, 3)) (isC : List Nat) (hC : isC.map (fun i => ws[i]?) = wc.map some) (hnd9 : va_nd isC = true) (hn : As.length = na) (hst : st0 = As.reverse ++ st) (hW : (st.map fun v => v.category).sum ≤ 8)
    (hR : d + 1 ≤ R.frames ∧ 8 + (maxL + 11) + 38 * d ≤ R.locals) (hroom : k ≤ R.cells ∧ n ≤ R.slots)
    (kk : ∀ (r : Option Value) (w1 : va_W), Q0 r w1 → P k n (pc + 3) lv (r.toList ++ st) (put ws isC w1)) : P k n pc lv st0 ws :=
  st_callS C hc hy hi hl hd isC hC hnd9 hn hst hW hR hroom (fun r w1 w2 h => by rw [h.1, List.append_nil]; exact kk r w1 h.2)
end Calls9
/-! a method's own contract out of its walk -/
def isRet (ret : Option FieldType) (ins : Instr) (st : List Value) (r : Option Value) : Prop :=
  (ret = none ∧ ins = .return_ ∧ st = [] ∧ r = none) ∨ (∃ v, ret = some .int ∧ ins = .ireturn ∧ st = [.int v] ∧ r = some (.int v)) ∨ (∃ v, ret = some .boolean ∧ (v = 0 ∨ v = 1) ∧ ins = .ireturn ∧ st = [.int v] ∧ r = some (.int v)) ∨
  (∃ v, ret = some .long ∧ ins = .lreturn ∧ st = [.long v] ∧ r = some (.long v)) ∨ (∃ v, ret = some .double ∧ ins = .dreturn ∧ st = [.double v] ∧ r = some (.double v)) ∨ (∃ v C, ret = some (.object C) ∧ ins = .areturn ∧ st = [.ref v] ∧ r = some (.ref v))
def Rt (cc : ByteArray) (ret : Option FieldType) (mc ms : Nat) (wc : va_W) (Qr : Option Value → va_W → va_W → Prop) (P : PT) : Prop :=
  ∀ (k n pc : Nat) (lv : List (Nat × Value)) (st : List Value) (ws : va_W) (ins : Instr) (r : Option Value), k ≤ mc → n ≤ ms → decode cc pc = .ok (ins, 1) → isRet ret ins st r → (ws.take wc.length).map (·.1) = wc.map (·.1) → Qr r (ws.take wc.length) (ws.drop wc.length) → P k n pc lv st ws
theorem Con.mk {l : Launch} {G : wG} {y : MethodName} {bytes : ByteArray} {maxL : Nat} {ret : Option FieldType} {d mc ms : Nat} {av : List Value} {wc : va_W} {Qr : Option Value → va_W → va_W → Prop} (hpl : plainName y.cls = true) (hav : (lg_sl av).length ≤ maxL)
    (h : ∀ P : PT, Cx l G y.cls bytes maxL y.name (rmD d mc ms) P → Rt bytes ret mc ms wc Qr P → P 0 0 0 (lv_args 0 av) [] wc) : Con l G y bytes maxL ret d mc ms av wc Qr := by
  intro sz
  refine Met.ofW (cc := bytes) (maxL := maxL) (ret := ret) hpl rfl ?_
  intro p e s m args below meth c s₁ B hml hv
  obtain ⟨rfl, hsz, hP, hK, hD0⟩ := hv
  have hx := B.exec
  have hb := B.bytes
  have hr := B.returns
  have hts0 := atoms_spec (ws := Cond.code y bytes maxL ret :: WS) B.pre
  have hts : ∀ w ∈ WS, w.before av.toArray s = true := fun w hw => hts0 w (List.mem_cons_of_mem _ hw)
  have hown : s.vm.findClass y.cls = some m.cls := findClass_of_methodNamed B.named
  have hlocks := B.notSynchronized
  have hin : meth.name = y.name := (name_of_methodNamed B.named B.method).1
  subst hsz
  have hD := hD0.self (sz := s.heap.size)
  have hA : ∀ q : Nat, s.heap.size ≤ q → va_A wc s.heap.size q := fun q h => Or.inr h
  have hS : va_S (va_A wc s.heap.size) s.heap s.heap [] := va_S.rf
  have hl := lv_entry av (n := maxL) hav
  rw [lg_entry_eq]
  refine h _ ⟨p, e, s, m, av.toArray, below, meth, c, va_A wc s.heap.size, MQ below (conQc G wc s.heap.size Qr) av.toArray s mc ms (va_A wc s.heap.size), ⟨hx, hb, hml, hin, hown, hts, hK, hA⟩, rfl⟩ ?_ s.heap [] _ hP hD hS hl
  intro k n pc lv st ws ins r hk hn hd hret hfst hq H locs ls hP1 hD1 hS1 hl1
  refine W.widen hk hn ?_
  have hend : ∀ t : State, t.heap = H → s.WarmedH t.vm → conQc G wc s.heap.size Qr av.toArray s (.returned r) t := fun t ht hW => ⟨r, ws.take wc.length, ws.drop wc.length, rfl, hq, hfst, by rw [List.take_append_drop, ht]; exact hP1, by rw [List.take_append_drop]; exact hD1, hS1.F ht⟩
  rcases hret with ⟨h1, rfl, rfl, rfl⟩ | ⟨v, h1, rfl, rfl, rfl⟩ | ⟨v, h1, hv, rfl, rfl, rfl⟩ | ⟨v, h1, rfl, rfl, rfl⟩ | ⟨v, h1, rfl, rfl, rfl⟩ | ⟨v, Cn, h1, rfl, rfl, rfl⟩
  · exact W.vret hx hb (hr.trans h1) hend hS1.2.2 hd
  · exact W.iret hx hb (hr.trans h1) hend hS1.2.2 hd
  · exact W.zret hx hb (hr.trans h1) (by rcases hv with rfl | rfl <;> rfl) hend hS1.2.2 hd
  · exact W.lret hx hb (hr.trans h1) hend hS1.2.2 hd
  · exact W.dret hx hb (hr.trans h1) hend hS1.2.2 hd
  · exact W.aret hx hb (hr.trans h1) (Or.inl ⟨_, rfl⟩) (Or.inr ⟨_, rfl⟩) hend hS1.2.2 hd
end
section
/-! what the tables say of fields, methods and places of calls: by program -/
def RJM : String := "java/lang/Math"
def RJD : String := "java/lang/Double"
abbrev cJM_max : ByteArray := prog_14_method_65_code
def yJM_max : MethodName := ⟨RJM, "max", "(II)I"⟩
def LJM_max_0 : List (Nat × Instr × Nat) := [(0, .iload_n 0, 1), (1, .iload_n 1, 1), (2, .if_icmp .lt 7, 3), (5, .iload_n 0, 1), (6, .goto 4, 3), (9, .iload_n 1, 1), (10, .ireturn, 1)]
theorem DJM_max_0 : dOK cJM_max LJM_max_0 := by unfold dOK; decide +kernel
abbrev cJM_min : ByteArray := prog_14_method_69_code
def yJM_min : MethodName := ⟨RJM, "min", "(II)I"⟩
def LJM_min_0 : List (Nat × Instr × Nat) := [(0, .iload_n 0, 1), (1, .iload_n 1, 1), (2, .if_icmp .gt 7, 3), (5, .iload_n 0, 1), (6, .goto 4, 3), (9, .iload_n 1, 1), (10, .ireturn, 1)]
theorem DJM_min_0 : dOK cJM_min LJM_min_0 := by unfold dOK; decide +kernel
abbrev cJD_dtl : ByteArray := prog_9_method_23_code
def yJD_dtl : MethodName := ⟨RJD, "doubleToLongBits", "(D)J"⟩
def LJD_dtl_0 : List (Nat × Instr × Nat) := [(0, .dload_n 0, 1), (1, .invokestatic 122, 3), (4, .ifCond .ne 8, 3), (7, .dload_n 0, 1), (8, .invokestatic 134, 3), (11, .lreturn, 1), (12, .ldc2_w 137, 3), (15, .lreturn, 1)]
theorem DJD_dtl_0 : dOK cJD_dtl LJD_dtl_0 := by unfold dOK; decide +kernel
abbrev cJD_isNaN : ByteArray := prog_9_method_6_code
def yJD_isNaN : MethodName := ⟨RJD, "isNaN", "(D)Z"⟩
def LJD_isNaN_0 : List (Nat × Instr × Nat) := [(0, .dload_n 0, 1), (1, .dload_n 0, 1), (2, .dcmp .l, 1), (3, .ifCond .eq 7, 3), (6, .iconst 1, 1), (7, .goto 4, 3), (10, .iconst 0, 1), (11, .ireturn, 1)]
theorem DJD_isNaN_0 : dOK cJD_isNaN LJD_isNaN_0 := by unfold dOK; decide +kernel
theorem uw_0 : ∀ w ∈ u_ws RX1 TX1 9, w ∈ WS := fun w h => List.mem_filter.mpr ⟨(by decide +kernel : ∀ w ∈ u_ws RX1 TX1 9, w ∈ lw_tbl) w h, (List.all_eq_true.mp (by decide +kernel : (u_ws RX1 TX1 9).all goodWord = true) w h)⟩
theorem fc_0 : FC 0 tyX1 := ⟨RX1, TX1, 9, rfl, tyX1_ok, nmX1⟩
theorem uw_1 : ∀ w ∈ u_ws RX2 TX2 3, w ∈ WS := fun w h => List.mem_filter.mpr ⟨(by decide +kernel : ∀ w ∈ u_ws RX2 TX2 3, w ∈ lw_tbl) w h, (List.all_eq_true.mp (by decide +kernel : (u_ws RX2 TX2 3).all goodWord = true) w h)⟩
theorem fc_1 : FC 1 tyX2 := ⟨RX2, TX2, 3, rfl, tyX2_ok, nmX2⟩
theorem uw_2 : ∀ w ∈ u_ws RX3 TX3 6, w ∈ WS := fun w h => List.mem_filter.mpr ⟨(by decide +kernel : ∀ w ∈ u_ws RX3 TX3 6, w ∈ lw_tbl) w h, (List.all_eq_true.mp (by decide +kernel : (u_ws RX3 TX3 6).all goodWord = true) w h)⟩
theorem fc_2 : FC 2 tyX3 := ⟨RX3, TX3, 6, rfl, tyX3_ok, nmX3⟩
theorem uw_3 : ∀ w ∈ u_ws RX4 TX4 4, w ∈ WS := fun w h => List.mem_filter.mpr ⟨(by decide +kernel : ∀ w ∈ u_ws RX4 TX4 4, w ∈ lw_tbl) w h, (List.all_eq_true.mp (by decide +kernel : (u_ws RX4 TX4 4).all goodWord = true) w h)⟩
theorem fc_3 : FC 3 tyX4 := ⟨RX4, TX4, 4, rfl, tyX4_ok, nmX4⟩
theorem uw_4 : ∀ w ∈ u_ws RX5 TX5 5, w ∈ WS := fun w h => List.mem_filter.mpr ⟨(by decide +kernel : ∀ w ∈ u_ws RX5 TX5 5, w ∈ lw_tbl) w h, (List.all_eq_true.mp (by decide +kernel : (u_ws RX5 TX5 5).all goodWord = true) w h)⟩
theorem fc_4 : FC 4 tyX5 := ⟨RX5, TX5, 5, rfl, tyX5_ok, nmX5⟩
theorem uw_5 : ∀ w ∈ u_ws RX6 TX6 18, w ∈ WS := fun w h => List.mem_filter.mpr ⟨(by decide +kernel : ∀ w ∈ u_ws RX6 TX6 18, w ∈ lw_tbl) w h, (List.all_eq_true.mp (by decide +kernel : (u_ws RX6 TX6 18).all goodWord = true) w h)⟩
theorem fc_5 : FC 5 tyX6 := ⟨RX6, TX6, 18, rfl, tyX6_ok, nmX6⟩
theorem fl_RX1_9 : FL RX1 9 0 0 := ⟨RX1, TX1, 9, rfl, by decide, Or.inl (WS_in 75 (by decide +kernel) rfl), uw_0⟩
theorem ff_RX1_9 : ∃ (Cn : String) (T : u_T) (N : Nat), vwCl[0]? = some (Cn, T, N) ∧ 0 < N ∧ Cond.fieldLink RX1 9 (T 0).1 (T 0).2.1 (T 0).2.2.1 ∈ WS ∧ (∀ w ∈ u_ws Cn T N, w ∈ WS) ∧ (T 0).1 = RX1 := ⟨RX1, TX1, 9, rfl, by decide, (WS_in 75 (by decide +kernel) rfl), uw_0, rfl⟩
theorem fl_RX1_15 : FL RX1 15 0 1 := ⟨RX1, TX1, 9, rfl, by decide, Or.inl (WS_in 76 (by decide +kernel) rfl), uw_0⟩
theorem ff_RX1_15 : ∃ (Cn : String) (T : u_T) (N : Nat), vwCl[0]? = some (Cn, T, N) ∧ 1 < N ∧ Cond.fieldLink RX1 15 (T 1).1 (T 1).2.1 (T 1).2.2.1 ∈ WS ∧ (∀ w ∈ u_ws Cn T N, w ∈ WS) ∧ (T 1).1 = RX1 := ⟨RX1, TX1, 9, rfl, by decide, (WS_in 76 (by decide +kernel) rfl), uw_0, rfl⟩
theorem fl_RX1_31 : FL RX1 31 0 2 := ⟨RX1, TX1, 9, rfl, by decide, Or.inl (WS_in 77 (by decide +kernel) rfl), uw_0⟩
theorem fl_RX1_34 : FL RX1 34 0 3 := ⟨RX1, TX1, 9, rfl, by decide, Or.inl (WS_in 78 (by decide +kernel) rfl), uw_0⟩
theorem fl_RX1_24 : FL RX1 24 0 4 := ⟨RX1, TX1, 9, rfl, by decide, Or.inl (WS_in 79 (by decide +kernel) rfl), uw_0⟩
theorem fl_RX3_30 : FL RX3 30 0 4 := ⟨RX1, TX1, 9, rfl, by decide, Or.inr ⟨_, List.mem_of_getElem? (i := 38) (by decide +kernel : tables_1[38]? = some (Cond.fieldLinkNest RX3 30 (TX1 4).1 (TX1 4).2.1 (TX1 4).2.2.1 "FoldedKeys"))⟩, uw_0⟩
theorem fl_RX5_78 : FL RX5 78 0 4 := ⟨RX1, TX1, 9, rfl, by decide, Or.inr ⟨_, List.mem_of_getElem? (i := 39) (by decide +kernel : tables_1[39]? = some (Cond.fieldLinkNest RX5 78 (TX1 4).1 (TX1 4).2.1 (TX1 4).2.2.1 "FoldedKeys"))⟩, uw_0⟩
theorem fl_RX1_28 : FL RX1 28 0 5 := ⟨RX1, TX1, 9, rfl, by decide, Or.inl (WS_in 82 (by decide +kernel) rfl), uw_0⟩
theorem fl_RX5_106 : FL RX5 106 0 5 := ⟨RX1, TX1, 9, rfl, by decide, Or.inr ⟨_, List.mem_of_getElem? (i := 41) (by decide +kernel : tables_1[41]? = some (Cond.fieldLinkNest RX5 106 (TX1 5).1 (TX1 5).2.1 (TX1 5).2.2.1 "FoldedKeys"))⟩, uw_0⟩
theorem fl_RX1_37 : FL RX1 37 0 6 := ⟨RX1, TX1, 9, rfl, by decide, Or.inl (WS_in 84 (by decide +kernel) rfl), uw_0⟩
theorem fl_RX5_233 : FL RX5 233 0 6 := ⟨RX1, TX1, 9, rfl, by decide, Or.inr ⟨_, List.mem_of_getElem? (i := 43) (by decide +kernel : tables_1[43]? = some (Cond.fieldLinkNest RX5 233 (TX1 6).1 (TX1 6).2.1 (TX1 6).2.2.1 "FoldedKeys"))⟩, uw_0⟩
theorem fl_RX1_40 : FL RX1 40 0 7 := ⟨RX1, TX1, 9, rfl, by decide, Or.inl (WS_in 86 (by decide +kernel) rfl), uw_0⟩
theorem fl_RX5_236 : FL RX5 236 0 7 := ⟨RX1, TX1, 9, rfl, by decide, Or.inr ⟨_, List.mem_of_getElem? (i := 45) (by decide +kernel : tables_1[45]? = some (Cond.fieldLinkNest RX5 236 (TX1 7).1 (TX1 7).2.1 (TX1 7).2.2.1 "FoldedKeys"))⟩, uw_0⟩
theorem fl_RX1_43 : FL RX1 43 0 8 := ⟨RX1, TX1, 9, rfl, by decide, Or.inl (WS_in 88 (by decide +kernel) rfl), uw_0⟩
theorem fl_RX5_239 : FL RX5 239 0 8 := ⟨RX1, TX1, 9, rfl, by decide, Or.inr ⟨_, List.mem_of_getElem? (i := 47) (by decide +kernel : tables_1[47]? = some (Cond.fieldLinkNest RX5 239 (TX1 8).1 (TX1 8).2.1 (TX1 8).2.2.1 "FoldedKeys"))⟩, uw_0⟩
theorem fl_RX2_11 : FL RX2 11 1 0 := ⟨RX2, TX2, 3, rfl, by decide, Or.inl (WS_in 119 (by decide +kernel) rfl), uw_1⟩
theorem ff_RX2_11 : ∃ (Cn : String) (T : u_T) (N : Nat), vwCl[1]? = some (Cn, T, N) ∧ 0 < N ∧ Cond.fieldLink RX2 11 (T 0).1 (T 0).2.1 (T 0).2.2.1 ∈ WS ∧ (∀ w ∈ u_ws Cn T N, w ∈ WS) ∧ (T 0).1 = RX2 := ⟨RX2, TX2, 3, rfl, by decide, (WS_in 119 (by decide +kernel) rfl), uw_1, rfl⟩
theorem fl_RX2_18 : FL RX2 18 1 1 := ⟨RX2, TX2, 3, rfl, by decide, Or.inl (WS_in 120 (by decide +kernel) rfl), uw_1⟩
theorem fl_RX2_30 : FL RX2 30 1 2 := ⟨RX2, TX2, 3, rfl, by decide, Or.inl (WS_in 121 (by decide +kernel) rfl), uw_1⟩
theorem fl_RX5_161 : FL RX5 161 1 2 := ⟨RX2, TX2, 3, rfl, by decide, Or.inr ⟨_, List.mem_of_getElem? (i := 80) (by decide +kernel : tables_1[80]? = some (Cond.fieldLinkNest RX5 161 (TX2 2).1 (TX2 2).2.1 (TX2 2).2.2.1 "FoldedKeys"))⟩, uw_1⟩
theorem fl_RX3_11 : FL RX3 11 2 0 := ⟨RX3, TX3, 6, rfl, by decide, Or.inl (WS_in 136 (by decide +kernel) rfl), uw_2⟩
theorem ff_RX3_11 : ∃ (Cn : String) (T : u_T) (N : Nat), vwCl[2]? = some (Cn, T, N) ∧ 0 < N ∧ Cond.fieldLink RX3 11 (T 0).1 (T 0).2.1 (T 0).2.2.1 ∈ WS ∧ (∀ w ∈ u_ws Cn T N, w ∈ WS) ∧ (T 0).1 = RX3 := ⟨RX3, TX3, 6, rfl, by decide, (WS_in 136 (by decide +kernel) rfl), uw_2, rfl⟩
theorem fl_RX3_17 : FL RX3 17 2 1 := ⟨RX3, TX3, 6, rfl, by decide, Or.inl (WS_in 137 (by decide +kernel) rfl), uw_2⟩
theorem ff_RX3_17 : ∃ (Cn : String) (T : u_T) (N : Nat), vwCl[2]? = some (Cn, T, N) ∧ 1 < N ∧ Cond.fieldLink RX3 17 (T 1).1 (T 1).2.1 (T 1).2.2.1 ∈ WS ∧ (∀ w ∈ u_ws Cn T N, w ∈ WS) ∧ (T 1).1 = RX3 := ⟨RX3, TX3, 6, rfl, by decide, (WS_in 137 (by decide +kernel) rfl), uw_2, rfl⟩
theorem fl_RX3_21 : FL RX3 21 2 2 := ⟨RX3, TX3, 6, rfl, by decide, Or.inl (WS_in 138 (by decide +kernel) rfl), uw_2⟩
theorem ff_RX3_21 : ∃ (Cn : String) (T : u_T) (N : Nat), vwCl[2]? = some (Cn, T, N) ∧ 2 < N ∧ Cond.fieldLink RX3 21 (T 2).1 (T 2).2.1 (T 2).2.2.1 ∈ WS ∧ (∀ w ∈ u_ws Cn T N, w ∈ WS) ∧ (T 2).1 = RX3 := ⟨RX3, TX3, 6, rfl, by decide, (WS_in 138 (by decide +kernel) rfl), uw_2, rfl⟩
theorem fl_RX3_24 : FL RX3 24 2 3 := ⟨RX3, TX3, 6, rfl, by decide, Or.inl (WS_in 139 (by decide +kernel) rfl), uw_2⟩
theorem ff_RX3_24 : ∃ (Cn : String) (T : u_T) (N : Nat), vwCl[2]? = some (Cn, T, N) ∧ 3 < N ∧ Cond.fieldLink RX3 24 (T 3).1 (T 3).2.1 (T 3).2.2.1 ∈ WS ∧ (∀ w ∈ u_ws Cn T N, w ∈ WS) ∧ (T 3).1 = RX3 := ⟨RX3, TX3, 6, rfl, by decide, (WS_in 139 (by decide +kernel) rfl), uw_2, rfl⟩
theorem fl_RX3_40 : FL RX3 40 2 4 := ⟨RX3, TX3, 6, rfl, by decide, Or.inl (WS_in 140 (by decide +kernel) rfl), uw_2⟩
theorem fl_RX3_43 : FL RX3 43 2 5 := ⟨RX3, TX3, 6, rfl, by decide, Or.inl (WS_in 141 (by decide +kernel) rfl), uw_2⟩
theorem fl_RX5_193 : FL RX5 193 2 5 := ⟨RX3, TX3, 6, rfl, by decide, Or.inr ⟨_, List.mem_of_getElem? (i := 100) (by decide +kernel : tables_1[100]? = some (Cond.fieldLinkNest RX5 193 (TX3 5).1 (TX3 5).2.1 (TX3 5).2.2.1 "FoldedKeys"))⟩, uw_2⟩
theorem fl_RX4_9 : FL RX4 9 3 0 := ⟨RX4, TX4, 4, rfl, by decide, Or.inl (WS_in 163 (by decide +kernel) rfl), uw_3⟩
theorem ff_RX4_9 : ∃ (Cn : String) (T : u_T) (N : Nat), vwCl[3]? = some (Cn, T, N) ∧ 0 < N ∧ Cond.fieldLink RX4 9 (T 0).1 (T 0).2.1 (T 0).2.2.1 ∈ WS ∧ (∀ w ∈ u_ws Cn T N, w ∈ WS) ∧ (T 0).1 = RX4 := ⟨RX4, TX4, 4, rfl, by decide, (WS_in 163 (by decide +kernel) rfl), uw_3, rfl⟩
theorem fl_RX4_15 : FL RX4 15 3 1 := ⟨RX4, TX4, 4, rfl, by decide, Or.inl (WS_in 164 (by decide +kernel) rfl), uw_3⟩
theorem fl_RX5_144 : FL RX5 144 3 1 := ⟨RX4, TX4, 4, rfl, by decide, Or.inr ⟨_, List.mem_of_getElem? (i := 123) (by decide +kernel : tables_1[123]? = some (Cond.fieldLinkNest RX5 144 (TX4 1).1 (TX4 1).2.1 (TX4 1).2.2.1 "FoldedKeys"))⟩, uw_3⟩
theorem fl_RX4_19 : FL RX4 19 3 2 := ⟨RX4, TX4, 4, rfl, by decide, Or.inl (WS_in 166 (by decide +kernel) rfl), uw_3⟩
theorem fl_RX5_153 : FL RX5 153 3 2 := ⟨RX4, TX4, 4, rfl, by decide, Or.inr ⟨_, List.mem_of_getElem? (i := 125) (by decide +kernel : tables_1[125]? = some (Cond.fieldLinkNest RX5 153 (TX4 2).1 (TX4 2).2.1 (TX4 2).2.2.1 "FoldedKeys"))⟩, uw_3⟩
theorem fl_RX4_22 : FL RX4 22 3 3 := ⟨RX4, TX4, 4, rfl, by decide, Or.inl (WS_in 168 (by decide +kernel) rfl), uw_3⟩
theorem fl_RX5_10 : FL RX5 10 4 0 := ⟨RX5, TX5, 5, rfl, by decide, Or.inl (WS_in 178 (by decide +kernel) rfl), uw_4⟩
theorem ff_RX5_10 : ∃ (Cn : String) (T : u_T) (N : Nat), vwCl[4]? = some (Cn, T, N) ∧ 0 < N ∧ Cond.fieldLink RX5 10 (T 0).1 (T 0).2.1 (T 0).2.2.1 ∈ WS ∧ (∀ w ∈ u_ws Cn T N, w ∈ WS) ∧ (T 0).1 = RX5 := ⟨RX5, TX5, 5, rfl, by decide, (WS_in 178 (by decide +kernel) rfl), uw_4, rfl⟩
theorem fl_RX5_16 : FL RX5 16 4 1 := ⟨RX5, TX5, 5, rfl, by decide, Or.inl (WS_in 179 (by decide +kernel) rfl), uw_4⟩
theorem ff_RX5_16 : ∃ (Cn : String) (T : u_T) (N : Nat), vwCl[4]? = some (Cn, T, N) ∧ 1 < N ∧ Cond.fieldLink RX5 16 (T 1).1 (T 1).2.1 (T 1).2.2.1 ∈ WS ∧ (∀ w ∈ u_ws Cn T N, w ∈ WS) ∧ (T 1).1 = RX5 := ⟨RX5, TX5, 5, rfl, by decide, (WS_in 179 (by decide +kernel) rfl), uw_4, rfl⟩
theorem fl_RX5_22 : FL RX5 22 4 2 := ⟨RX5, TX5, 5, rfl, by decide, Or.inl (WS_in 180 (by decide +kernel) rfl), uw_4⟩
theorem ff_RX5_22 : ∃ (Cn : String) (T : u_T) (N : Nat), vwCl[4]? = some (Cn, T, N) ∧ 2 < N ∧ Cond.fieldLink RX5 22 (T 2).1 (T 2).2.1 (T 2).2.2.1 ∈ WS ∧ (∀ w ∈ u_ws Cn T N, w ∈ WS) ∧ (T 2).1 = RX5 := ⟨RX5, TX5, 5, rfl, by decide, (WS_in 180 (by decide +kernel) rfl), uw_4, rfl⟩
theorem fl_RX5_29 : FL RX5 29 4 3 := ⟨RX5, TX5, 5, rfl, by decide, Or.inl (WS_in 181 (by decide +kernel) rfl), uw_4⟩
theorem ff_RX5_29 : ∃ (Cn : String) (T : u_T) (N : Nat), vwCl[4]? = some (Cn, T, N) ∧ 3 < N ∧ Cond.fieldLink RX5 29 (T 3).1 (T 3).2.1 (T 3).2.2.1 ∈ WS ∧ (∀ w ∈ u_ws Cn T N, w ∈ WS) ∧ (T 3).1 = RX5 := ⟨RX5, TX5, 5, rfl, by decide, (WS_in 181 (by decide +kernel) rfl), uw_4, rfl⟩
theorem fl_RX5_36 : FL RX5 36 4 4 := ⟨RX5, TX5, 5, rfl, by decide, Or.inl (WS_in 182 (by decide +kernel) rfl), uw_4⟩
theorem ff_RX5_36 : ∃ (Cn : String) (T : u_T) (N : Nat), vwCl[4]? = some (Cn, T, N) ∧ 4 < N ∧ Cond.fieldLink RX5 36 (T 4).1 (T 4).2.1 (T 4).2.2.1 ∈ WS ∧ (∀ w ∈ u_ws Cn T N, w ∈ WS) ∧ (T 4).1 = RX5 := ⟨RX5, TX5, 5, rfl, by decide, (WS_in 182 (by decide +kernel) rfl), uw_4, rfl⟩
theorem fl_RX6_7 : FL RX6 7 5 0 := ⟨RX6, TX6, 18, rfl, by decide, Or.inl (WS_in 713 (by decide +kernel) rfl), uw_5⟩
theorem ff_RX6_7 : ∃ (Cn : String) (T : u_T) (N : Nat), vwCl[5]? = some (Cn, T, N) ∧ 0 < N ∧ Cond.fieldLink RX6 7 (T 0).1 (T 0).2.1 (T 0).2.2.1 ∈ WS ∧ (∀ w ∈ u_ws Cn T N, w ∈ WS) ∧ (T 0).1 = RX6 := ⟨RX6, TX6, 18, rfl, by decide, (WS_in 713 (by decide +kernel) rfl), uw_5, rfl⟩
theorem fl_RX6_13 : FL RX6 13 5 1 := ⟨RX6, TX6, 18, rfl, by decide, Or.inl (WS_in 714 (by decide +kernel) rfl), uw_5⟩
theorem ff_RX6_13 : ∃ (Cn : String) (T : u_T) (N : Nat), vwCl[5]? = some (Cn, T, N) ∧ 1 < N ∧ Cond.fieldLink RX6 13 (T 1).1 (T 1).2.1 (T 1).2.2.1 ∈ WS ∧ (∀ w ∈ u_ws Cn T N, w ∈ WS) ∧ (T 1).1 = RX6 := ⟨RX6, TX6, 18, rfl, by decide, (WS_in 714 (by decide +kernel) rfl), uw_5, rfl⟩
theorem fl_RX6_16 : FL RX6 16 5 2 := ⟨RX6, TX6, 18, rfl, by decide, Or.inl (WS_in 715 (by decide +kernel) rfl), uw_5⟩
theorem ff_RX6_16 : ∃ (Cn : String) (T : u_T) (N : Nat), vwCl[5]? = some (Cn, T, N) ∧ 2 < N ∧ Cond.fieldLink RX6 16 (T 2).1 (T 2).2.1 (T 2).2.2.1 ∈ WS ∧ (∀ w ∈ u_ws Cn T N, w ∈ WS) ∧ (T 2).1 = RX6 := ⟨RX6, TX6, 18, rfl, by decide, (WS_in 715 (by decide +kernel) rfl), uw_5, rfl⟩
theorem fl_RX6_52 : FL RX6 52 5 3 := ⟨RX6, TX6, 18, rfl, by decide, Or.inl (WS_in 716 (by decide +kernel) rfl), uw_5⟩
theorem fl_RX6_19 : FL RX6 19 5 4 := ⟨RX6, TX6, 18, rfl, by decide, Or.inl (WS_in 717 (by decide +kernel) rfl), uw_5⟩
theorem ff_RX6_19 : ∃ (Cn : String) (T : u_T) (N : Nat), vwCl[5]? = some (Cn, T, N) ∧ 4 < N ∧ Cond.fieldLink RX6 19 (T 4).1 (T 4).2.1 (T 4).2.2.1 ∈ WS ∧ (∀ w ∈ u_ws Cn T N, w ∈ WS) ∧ (T 4).1 = RX6 := ⟨RX6, TX6, 18, rfl, by decide, (WS_in 717 (by decide +kernel) rfl), uw_5, rfl⟩
theorem fl_RX6_129 : FL RX6 129 5 5 := ⟨RX6, TX6, 18, rfl, by decide, Or.inl (WS_in 718 (by decide +kernel) rfl), uw_5⟩
theorem fl_RX6_40 : FL RX6 40 5 6 := ⟨RX6, TX6, 18, rfl, by decide, Or.inl (WS_in 719 (by decide +kernel) rfl), uw_5⟩
theorem fl_RX6_132 : FL RX6 132 5 7 := ⟨RX6, TX6, 18, rfl, by decide, Or.inl (WS_in 720 (by decide +kernel) rfl), uw_5⟩
theorem fl_RX6_135 : FL RX6 135 5 8 := ⟨RX6, TX6, 18, rfl, by decide, Or.inl (WS_in 721 (by decide +kernel) rfl), uw_5⟩
theorem fl_RX6_22 : FL RX6 22 5 9 := ⟨RX6, TX6, 18, rfl, by decide, Or.inl (WS_in 722 (by decide +kernel) rfl), uw_5⟩
theorem ff_RX6_22 : ∃ (Cn : String) (T : u_T) (N : Nat), vwCl[5]? = some (Cn, T, N) ∧ 9 < N ∧ Cond.fieldLink RX6 22 (T 9).1 (T 9).2.1 (T 9).2.2.1 ∈ WS ∧ (∀ w ∈ u_ws Cn T N, w ∈ WS) ∧ (T 9).1 = RX6 := ⟨RX6, TX6, 18, rfl, by decide, (WS_in 722 (by decide +kernel) rfl), uw_5, rfl⟩
theorem fl_RX6_25 : FL RX6 25 5 10 := ⟨RX6, TX6, 18, rfl, by decide, Or.inl (WS_in 723 (by decide +kernel) rfl), uw_5⟩
theorem ff_RX6_25 : ∃ (Cn : String) (T : u_T) (N : Nat), vwCl[5]? = some (Cn, T, N) ∧ 10 < N ∧ Cond.fieldLink RX6 25 (T 10).1 (T 10).2.1 (T 10).2.2.1 ∈ WS ∧ (∀ w ∈ u_ws Cn T N, w ∈ WS) ∧ (T 10).1 = RX6 := ⟨RX6, TX6, 18, rfl, by decide, (WS_in 723 (by decide +kernel) rfl), uw_5, rfl⟩
theorem fl_RX6_28 : FL RX6 28 5 11 := ⟨RX6, TX6, 18, rfl, by decide, Or.inl (WS_in 724 (by decide +kernel) rfl), uw_5⟩
theorem ff_RX6_28 : ∃ (Cn : String) (T : u_T) (N : Nat), vwCl[5]? = some (Cn, T, N) ∧ 11 < N ∧ Cond.fieldLink RX6 28 (T 11).1 (T 11).2.1 (T 11).2.2.1 ∈ WS ∧ (∀ w ∈ u_ws Cn T N, w ∈ WS) ∧ (T 11).1 = RX6 := ⟨RX6, TX6, 18, rfl, by decide, (WS_in 724 (by decide +kernel) rfl), uw_5, rfl⟩
theorem fl_RX6_31 : FL RX6 31 5 12 := ⟨RX6, TX6, 18, rfl, by decide, Or.inl (WS_in 725 (by decide +kernel) rfl), uw_5⟩
theorem ff_RX6_31 : ∃ (Cn : String) (T : u_T) (N : Nat), vwCl[5]? = some (Cn, T, N) ∧ 12 < N ∧ Cond.fieldLink RX6 31 (T 12).1 (T 12).2.1 (T 12).2.2.1 ∈ WS ∧ (∀ w ∈ u_ws Cn T N, w ∈ WS) ∧ (T 12).1 = RX6 := ⟨RX6, TX6, 18, rfl, by decide, (WS_in 725 (by decide +kernel) rfl), uw_5, rfl⟩
theorem fl_RX6_34 : FL RX6 34 5 13 := ⟨RX6, TX6, 18, rfl, by decide, Or.inl (WS_in 726 (by decide +kernel) rfl), uw_5⟩
theorem ff_RX6_34 : ∃ (Cn : String) (T : u_T) (N : Nat), vwCl[5]? = some (Cn, T, N) ∧ 13 < N ∧ Cond.fieldLink RX6 34 (T 13).1 (T 13).2.1 (T 13).2.2.1 ∈ WS ∧ (∀ w ∈ u_ws Cn T N, w ∈ WS) ∧ (T 13).1 = RX6 := ⟨RX6, TX6, 18, rfl, by decide, (WS_in 726 (by decide +kernel) rfl), uw_5, rfl⟩
theorem fl_RX6_37 : FL RX6 37 5 14 := ⟨RX6, TX6, 18, rfl, by decide, Or.inl (WS_in 727 (by decide +kernel) rfl), uw_5⟩
theorem ff_RX6_37 : ∃ (Cn : String) (T : u_T) (N : Nat), vwCl[5]? = some (Cn, T, N) ∧ 14 < N ∧ Cond.fieldLink RX6 37 (T 14).1 (T 14).2.1 (T 14).2.2.1 ∈ WS ∧ (∀ w ∈ u_ws Cn T N, w ∈ WS) ∧ (T 14).1 = RX6 := ⟨RX6, TX6, 18, rfl, by decide, (WS_in 727 (by decide +kernel) rfl), uw_5, rfl⟩
theorem fl_RX6_81 : FL RX6 81 5 15 := ⟨RX6, TX6, 18, rfl, by decide, Or.inl (WS_in 728 (by decide +kernel) rfl), uw_5⟩
theorem fl_RX6_84 : FL RX6 84 5 16 := ⟨RX6, TX6, 18, rfl, by decide, Or.inl (WS_in 729 (by decide +kernel) rfl), uw_5⟩
theorem fl_RX6_48 : FL RX6 48 5 17 := ⟨RX6, TX6, 18, rfl, by decide, Or.inl (WS_in 730 (by decide +kernel) rfl), uw_5⟩
theorem fw_0_0 : FW 0 0 true := ⟨RX1, TX1, 9, rfl, rfl⟩
theorem fw_0_1 : FW 0 1 true := ⟨RX1, TX1, 9, rfl, rfl⟩
theorem fw_0_2 : FW 0 2 false := ⟨RX1, TX1, 9, rfl, rfl⟩
theorem fw_0_3 : FW 0 3 false := ⟨RX1, TX1, 9, rfl, rfl⟩
theorem fw_0_4 : FW 0 4 false := ⟨RX1, TX1, 9, rfl, rfl⟩
theorem fw_0_5 : FW 0 5 false := ⟨RX1, TX1, 9, rfl, rfl⟩
theorem fw_0_6 : FW 0 6 false := ⟨RX1, TX1, 9, rfl, rfl⟩
theorem fw_0_7 : FW 0 7 false := ⟨RX1, TX1, 9, rfl, rfl⟩
theorem fw_0_8 : FW 0 8 false := ⟨RX1, TX1, 9, rfl, rfl⟩
theorem fw_1_0 : FW 1 0 true := ⟨RX2, TX2, 3, rfl, rfl⟩
theorem fw_1_1 : FW 1 1 false := ⟨RX2, TX2, 3, rfl, rfl⟩
theorem fw_1_2 : FW 1 2 false := ⟨RX2, TX2, 3, rfl, rfl⟩
theorem fw_2_0 : FW 2 0 true := ⟨RX3, TX3, 6, rfl, rfl⟩
theorem fw_2_1 : FW 2 1 true := ⟨RX3, TX3, 6, rfl, rfl⟩
theorem fw_2_2 : FW 2 2 true := ⟨RX3, TX3, 6, rfl, rfl⟩
theorem fw_2_3 : FW 2 3 true := ⟨RX3, TX3, 6, rfl, rfl⟩
theorem fw_2_4 : FW 2 4 false := ⟨RX3, TX3, 6, rfl, rfl⟩
theorem fw_2_5 : FW 2 5 false := ⟨RX3, TX3, 6, rfl, rfl⟩
theorem fw_3_0 : FW 3 0 true := ⟨RX4, TX4, 4, rfl, rfl⟩
theorem fw_3_1 : FW 3 1 false := ⟨RX4, TX4, 4, rfl, rfl⟩
theorem fw_3_2 : FW 3 2 false := ⟨RX4, TX4, 4, rfl, rfl⟩
theorem fw_3_3 : FW 3 3 false := ⟨RX4, TX4, 4, rfl, rfl⟩
theorem fw_4_0 : FW 4 0 true := ⟨RX5, TX5, 5, rfl, rfl⟩
theorem fw_4_1 : FW 4 1 true := ⟨RX5, TX5, 5, rfl, rfl⟩
theorem fw_4_2 : FW 4 2 true := ⟨RX5, TX5, 5, rfl, rfl⟩
theorem fw_4_3 : FW 4 3 true := ⟨RX5, TX5, 5, rfl, rfl⟩
theorem fw_4_4 : FW 4 4 true := ⟨RX5, TX5, 5, rfl, rfl⟩
theorem fw_5_0 : FW 5 0 true := ⟨RX6, TX6, 18, rfl, rfl⟩
theorem fw_5_1 : FW 5 1 true := ⟨RX6, TX6, 18, rfl, rfl⟩
theorem fw_5_2 : FW 5 2 true := ⟨RX6, TX6, 18, rfl, rfl⟩
theorem fw_5_3 : FW 5 3 false := ⟨RX6, TX6, 18, rfl, rfl⟩
theorem fw_5_4 : FW 5 4 true := ⟨RX6, TX6, 18, rfl, rfl⟩
theorem fw_5_5 : FW 5 5 false := ⟨RX6, TX6, 18, rfl, rfl⟩
theorem fw_5_6 : FW 5 6 false := ⟨RX6, TX6, 18, rfl, rfl⟩
theorem fw_5_7 : FW 5 7 false := ⟨RX6, TX6, 18, rfl, rfl⟩
theorem fw_5_8 : FW 5 8 false := ⟨RX6, TX6, 18, rfl, rfl⟩
theorem fw_5_9 : FW 5 9 true := ⟨RX6, TX6, 18, rfl, rfl⟩
theorem fw_5_10 : FW 5 10 true := ⟨RX6, TX6, 18, rfl, rfl⟩
theorem fw_5_11 : FW 5 11 true := ⟨RX6, TX6, 18, rfl, rfl⟩
theorem fw_5_12 : FW 5 12 true := ⟨RX6, TX6, 18, rfl, rfl⟩
theorem fw_5_13 : FW 5 13 true := ⟨RX6, TX6, 18, rfl, rfl⟩
theorem fw_5_14 : FW 5 14 true := ⟨RX6, TX6, 18, rfl, rfl⟩
theorem fw_5_15 : FW 5 15 false := ⟨RX6, TX6, 18, rfl, rfl⟩
theorem fw_5_16 : FW 5 16 false := ⟨RX6, TX6, 18, rfl, rfl⟩
theorem fw_5_17 : FW 5 17 false := ⟨RX6, TX6, 18, rfl, rfl⟩
theorem mf_X5_init : MF yX5_init cX5_init 1 none 0 := ⟨(WS_in 62 (by decide +kernel) rfl), (WS_in 43 (by decide +kernel) rfl), by decide +kernel, by decide +kernel, by decide +kernel⟩
theorem mi_X5_init : yX5_init.name = "<init>" ∧ Cond.instanceMethod yX5_init ∈ WS := ⟨rfl, (WS_in 61 (by decide +kernel) rfl)⟩
theorem mf_X1_init : MF yX1_init cX1_init 1 none 0 := ⟨(WS_in 70 (by decide +kernel) rfl), (WS_in 44 (by decide +kernel) rfl), by decide +kernel, by decide +kernel, by decide +kernel⟩
theorem mi_X1_init : yX1_init.name = "<init>" ∧ Cond.instanceMethod yX1_init ∈ WS := ⟨rfl, (WS_in 69 (by decide +kernel) rfl)⟩
theorem mf_X0_of : MF yX0_of cX0_of 3 (some .int) 3 := ⟨(WS_in 74 (by decide +kernel) rfl), (WS_in 45 (by decide +kernel) rfl), by decide +kernel, by decide +kernel, by decide +kernel⟩
theorem ms_X0_of : Cond.static yX0_of ∈ WS := (WS_in 73 (by decide +kernel) rfl)
theorem mf_X2_init : MF yX2_init cX2_init 2 none 0 := ⟨(WS_in 114 (by decide +kernel) rfl), (WS_in 46 (by decide +kernel) rfl), by decide +kernel, by decide +kernel, by decide +kernel⟩
theorem mi_X2_init : yX2_init.name = "<init>" ∧ Cond.instanceMethod yX2_init ∈ WS := ⟨rfl, (WS_in 113 (by decide +kernel) rfl)⟩
theorem mf_X3_init : MF yX3_init cX3_init 1 none 0 := ⟨(WS_in 134 (by decide +kernel) rfl), (WS_in 47 (by decide +kernel) rfl), by decide +kernel, by decide +kernel, by decide +kernel⟩
theorem mi_X3_init : yX3_init.name = "<init>" ∧ Cond.instanceMethod yX3_init ∈ WS := ⟨rfl, (WS_in 133 (by decide +kernel) rfl)⟩
theorem mf_X4_init : MF yX4_init cX4_init 1 none 0 := ⟨(WS_in 161 (by decide +kernel) rfl), (WS_in 48 (by decide +kernel) rfl), by decide +kernel, by decide +kernel, by decide +kernel⟩
theorem mi_X4_init : yX4_init.name = "<init>" ∧ Cond.instanceMethod yX4_init ∈ WS := ⟨rfl, (WS_in 160 (by decide +kernel) rfl)⟩
theorem mf_X5_clearBuffer : MF yX5_clearBuffer cX5_clearBuffer 2 (some .int) 0 := ⟨(WS_in 197 (by decide +kernel) rfl), (WS_in 43 (by decide +kernel) rfl), by decide +kernel, by decide +kernel, by decide +kernel⟩
theorem mi_X5_clearBuffer : Cond.instanceMethod yX5_clearBuffer ∈ WS ∧ Cond.selects yX5_clearBuffer.cls yX5_clearBuffer yX5_clearBuffer ∈ WS := ⟨(WS_in 195 (by decide +kernel) rfl), (WS_in 196 (by decide +kernel) rfl)⟩
theorem mf_X5_firstError : MF yX5_firstError cX5_firstError 1 (some .int) 0 := ⟨(WS_in 201 (by decide +kernel) rfl), (WS_in 43 (by decide +kernel) rfl), by decide +kernel, by decide +kernel, by decide +kernel⟩
theorem mi_X5_firstError : Cond.instanceMethod yX5_firstError ∈ WS ∧ Cond.selects yX5_firstError.cls yX5_firstError yX5_firstError ∈ WS := ⟨(WS_in 199 (by decide +kernel) rfl), (WS_in 200 (by decide +kernel) rfl)⟩
theorem mf_X5_readText : MF yX5_readText cX5_readText 1 (some .int) 0 := ⟨(WS_in 205 (by decide +kernel) rfl), (WS_in 43 (by decide +kernel) rfl), by decide +kernel, by decide +kernel, by decide +kernel⟩
theorem mi_X5_readText : Cond.instanceMethod yX5_readText ∈ WS ∧ Cond.selects yX5_readText.cls yX5_readText yX5_readText ∈ WS := ⟨(WS_in 204 (by decide +kernel) rfl), (WS_in 0 (by decide +kernel) rfl)⟩
theorem mf_X1_copyFrom : MF yX1_copyFrom cX1_copyFrom 3 none 1 := ⟨(WS_in 209 (by decide +kernel) rfl), (WS_in 44 (by decide +kernel) rfl), by decide +kernel, by decide +kernel, by decide +kernel⟩
theorem mi_X1_copyFrom : Cond.instanceMethod yX1_copyFrom ∈ WS ∧ Cond.selects yX1_copyFrom.cls yX1_copyFrom yX1_copyFrom ∈ WS := ⟨(WS_in 207 (by decide +kernel) rfl), (WS_in 208 (by decide +kernel) rfl)⟩
theorem mf_X1_clear : MF yX1_clear cX1_clear 2 none 0 := ⟨(WS_in 213 (by decide +kernel) rfl), (WS_in 44 (by decide +kernel) rfl), by decide +kernel, by decide +kernel, by decide +kernel⟩
theorem mi_X1_clear : Cond.instanceMethod yX1_clear ∈ WS ∧ Cond.selects yX1_clear.cls yX1_clear yX1_clear ∈ WS := ⟨(WS_in 211 (by decide +kernel) rfl), (WS_in 212 (by decide +kernel) rfl)⟩
theorem mf_X4_readInto : MF yX4_readInto cX4_readInto 3 (some .int) 1 := ⟨(WS_in 217 (by decide +kernel) rfl), (WS_in 48 (by decide +kernel) rfl), by decide +kernel, by decide +kernel, by decide +kernel⟩
theorem mi_X4_readInto : Cond.instanceMethod yX4_readInto ∈ WS ∧ Cond.selects yX4_readInto.cls yX4_readInto yX4_readInto ∈ WS := ⟨(WS_in 215 (by decide +kernel) rfl), (WS_in 216 (by decide +kernel) rfl)⟩
theorem mf_X4_codeAt : MF yX4_codeAt cX4_codeAt 2 (some .int) 1 := ⟨(WS_in 221 (by decide +kernel) rfl), (WS_in 48 (by decide +kernel) rfl), by decide +kernel, by decide +kernel, by decide +kernel⟩
theorem mi_X4_codeAt : Cond.instanceMethod yX4_codeAt ∈ WS ∧ Cond.selects yX4_codeAt.cls yX4_codeAt yX4_codeAt ∈ WS := ⟨(WS_in 219 (by decide +kernel) rfl), (WS_in 220 (by decide +kernel) rfl)⟩
theorem mf_X4_take : MF yX4_take cX4_take 3 (some .boolean) 2 := ⟨(WS_in 225 (by decide +kernel) rfl), (WS_in 48 (by decide +kernel) rfl), by decide +kernel, by decide +kernel, by decide +kernel⟩
theorem mi_X4_take : Cond.instanceMethod yX4_take ∈ WS ∧ Cond.selects yX4_take.cls yX4_take yX4_take ∈ WS := ⟨(WS_in 224 (by decide +kernel) rfl), (WS_in 1 (by decide +kernel) rfl)⟩
theorem mf_X4_takeKey : MF yX4_takeKey cX4_takeKey 3 (some .boolean) 2 := ⟨(WS_in 229 (by decide +kernel) rfl), (WS_in 48 (by decide +kernel) rfl), by decide +kernel, by decide +kernel, by decide +kernel⟩
theorem mi_X4_takeKey : Cond.instanceMethod yX4_takeKey ∈ WS ∧ Cond.selects yX4_takeKey.cls yX4_takeKey yX4_takeKey ∈ WS := ⟨(WS_in 228 (by decide +kernel) rfl), (WS_in 2 (by decide +kernel) rfl)⟩
theorem mf_X1_keys : MF yX1_keys cX1_keys 1 (some .int) 0 := ⟨(WS_in 233 (by decide +kernel) rfl), (WS_in 44 (by decide +kernel) rfl), by decide +kernel, by decide +kernel, by decide +kernel⟩
theorem mi_X1_keys : Cond.instanceMethod yX1_keys ∈ WS ∧ Cond.selects yX1_keys.cls yX1_keys yX1_keys ∈ WS := ⟨(WS_in 231 (by decide +kernel) rfl), (WS_in 232 (by decide +kernel) rfl)⟩
theorem mf_X1_putKey : MF yX1_putKey cX1_putKey 6 none 2 := ⟨(WS_in 237 (by decide +kernel) rfl), (WS_in 44 (by decide +kernel) rfl), by decide +kernel, by decide +kernel, by decide +kernel⟩
theorem mi_X1_putKey : Cond.instanceMethod yX1_putKey ∈ WS ∧ Cond.selects yX1_putKey.cls yX1_putKey yX1_putKey ∈ WS := ⟨(WS_in 235 (by decide +kernel) rfl), (WS_in 236 (by decide +kernel) rfl)⟩
theorem mf_X0_firstOf : MF yX0_firstOf cX0_firstOf 1 (some .int) 1 := ⟨(WS_in 240 (by decide +kernel) rfl), (WS_in 45 (by decide +kernel) rfl), by decide +kernel, by decide +kernel, by decide +kernel⟩
theorem ms_X0_firstOf : Cond.static yX0_firstOf ∈ WS := (WS_in 239 (by decide +kernel) rfl)
theorem mf_X0_secondOf : MF yX0_secondOf cX0_secondOf 1 (some .int) 1 := ⟨(WS_in 243 (by decide +kernel) rfl), (WS_in 45 (by decide +kernel) rfl), by decide +kernel, by decide +kernel, by decide +kernel⟩
theorem ms_X0_secondOf : Cond.static yX0_secondOf ∈ WS := (WS_in 242 (by decide +kernel) rfl)
theorem mf_X0_cellOf : MF yX0_cellOf cX0_cellOf 1 (some .int) 1 := ⟨(WS_in 246 (by decide +kernel) rfl), (WS_in 45 (by decide +kernel) rfl), by decide +kernel, by decide +kernel, by decide +kernel⟩
theorem ms_X0_cellOf : Cond.static yX0_cellOf ∈ WS := (WS_in 245 (by decide +kernel) rfl)
theorem mf_X4_takeLadder : MF yX4_takeLadder cX4_takeLadder 2 (some .boolean) 1 := ⟨(WS_in 250 (by decide +kernel) rfl), (WS_in 48 (by decide +kernel) rfl), by decide +kernel, by decide +kernel, by decide +kernel⟩
theorem mi_X4_takeLadder : Cond.instanceMethod yX4_takeLadder ∈ WS ∧ Cond.selects yX4_takeLadder.cls yX4_takeLadder yX4_takeLadder ∈ WS := ⟨(WS_in 249 (by decide +kernel) rfl), (WS_in 3 (by decide +kernel) rfl)⟩
theorem mf_X1_setLadder : MF yX1_setLadder cX1_setLadder 3 none 2 := ⟨(WS_in 254 (by decide +kernel) rfl), (WS_in 44 (by decide +kernel) rfl), by decide +kernel, by decide +kernel, by decide +kernel⟩
theorem mi_X1_setLadder : Cond.instanceMethod yX1_setLadder ∈ WS ∧ Cond.selects yX1_setLadder.cls yX1_setLadder yX1_setLadder ∈ WS := ⟨(WS_in 252 (by decide +kernel) rfl), (WS_in 253 (by decide +kernel) rfl)⟩
theorem mf_X5_isCell : MF yX5_isCell cX5_isCell 1 (some .boolean) 1 := ⟨(WS_in 257 (by decide +kernel) rfl), (WS_in 43 (by decide +kernel) rfl), by decide +kernel, by decide +kernel, by decide +kernel⟩
theorem ms_X5_isCell : Cond.static yX5_isCell ∈ WS := (WS_in 256 (by decide +kernel) rfl)
theorem mf_X4_takeDoor : MF yX4_takeDoor cX4_takeDoor 3 (some .boolean) 2 := ⟨(WS_in 261 (by decide +kernel) rfl), (WS_in 48 (by decide +kernel) rfl), by decide +kernel, by decide +kernel, by decide +kernel⟩
theorem mi_X4_takeDoor : Cond.instanceMethod yX4_takeDoor ∈ WS ∧ Cond.selects yX4_takeDoor.cls yX4_takeDoor yX4_takeDoor ∈ WS := ⟨(WS_in 260 (by decide +kernel) rfl), (WS_in 4 (by decide +kernel) rfl)⟩
theorem mf_X1_setLock : MF yX1_setLock cX1_setLock 3 none 2 := ⟨(WS_in 265 (by decide +kernel) rfl), (WS_in 44 (by decide +kernel) rfl), by decide +kernel, by decide +kernel, by decide +kernel⟩
theorem mi_X1_setLock : Cond.instanceMethod yX1_setLock ∈ WS ∧ Cond.selects yX1_setLock.cls yX1_setLock yX1_setLock ∈ WS := ⟨(WS_in 263 (by decide +kernel) rfl), (WS_in 264 (by decide +kernel) rfl)⟩
theorem mf_X5_isDoor : MF yX5_isDoor cX5_isDoor 1 (some .boolean) 1 := ⟨(WS_in 268 (by decide +kernel) rfl), (WS_in 43 (by decide +kernel) rfl), by decide +kernel, by decide +kernel, by decide +kernel⟩
theorem ms_X5_isDoor : Cond.static yX5_isDoor ∈ WS := (WS_in 267 (by decide +kernel) rfl)
theorem mf_X5_bestFold : MF yX5_bestFold cX5_bestFold 6 (some .int) 0 := ⟨(WS_in 272 (by decide +kernel) rfl), (WS_in 43 (by decide +kernel) rfl), by decide +kernel, by decide +kernel, by decide +kernel⟩
theorem mi_X5_bestFold : Cond.instanceMethod yX5_bestFold ∈ WS ∧ Cond.selects yX5_bestFold.cls yX5_bestFold yX5_bestFold ∈ WS := ⟨(WS_in 270 (by decide +kernel) rfl), (WS_in 271 (by decide +kernel) rfl)⟩
theorem mf_X3_run : MF yX3_run cX3_run 8 none 1 := ⟨(WS_in 276 (by decide +kernel) rfl), (WS_in 47 (by decide +kernel) rfl), by decide +kernel, by decide +kernel, by decide +kernel⟩
theorem mi_X3_run : Cond.instanceMethod yX3_run ∈ WS ∧ Cond.selects yX3_run.cls yX3_run yX3_run ∈ WS := ⟨(WS_in 274 (by decide +kernel) rfl), (WS_in 275 (by decide +kernel) rfl)⟩
theorem mf_X3_forget : MF yX3_forget cX3_forget 2 none 0 := ⟨(WS_in 280 (by decide +kernel) rfl), (WS_in 47 (by decide +kernel) rfl), by decide +kernel, by decide +kernel, by decide +kernel⟩
theorem mi_X3_forget : Cond.instanceMethod yX3_forget ∈ WS ∧ Cond.selects yX3_forget.cls yX3_forget yX3_forget ∈ WS := ⟨(WS_in 279 (by decide +kernel) rfl), (WS_in 5 (by decide +kernel) rfl)⟩
theorem mf_X3_add : MF yX3_add cX3_add 9 none 4 := ⟨(WS_in 284 (by decide +kernel) rfl), (WS_in 47 (by decide +kernel) rfl), by decide +kernel, by decide +kernel, by decide +kernel⟩
theorem mi_X3_add : Cond.instanceMethod yX3_add ∈ WS ∧ Cond.selects yX3_add.cls yX3_add yX3_add ∈ WS := ⟨(WS_in 283 (by decide +kernel) rfl), (WS_in 6 (by decide +kernel) rfl)⟩
theorem mf_X3_codeOf : MF yX3_codeOf cX3_codeOf 1 (some .int) 1 := ⟨(WS_in 288 (by decide +kernel) rfl), (WS_in 47 (by decide +kernel) rfl), by decide +kernel, by decide +kernel, by decide +kernel⟩
theorem ms_X3_codeOf : Cond.static yX3_codeOf ∈ WS := (WS_in 287 (by decide +kernel) rfl)
theorem mf_X1_after : MF yX1_after cX1_after 6 (some .int) 2 := ⟨(WS_in 292 (by decide +kernel) rfl), (WS_in 44 (by decide +kernel) rfl), by decide +kernel, by decide +kernel, by decide +kernel⟩
theorem mi_X1_after : Cond.instanceMethod yX1_after ∈ WS ∧ Cond.selects yX1_after.cls yX1_after yX1_after ∈ WS := ⟨(WS_in 290 (by decide +kernel) rfl), (WS_in 291 (by decide +kernel) rfl)⟩
theorem mf_X1_bowIn : MF yX1_bowIn cX1_bowIn 3 (some .int) 2 := ⟨(WS_in 296 (by decide +kernel) rfl), (WS_in 44 (by decide +kernel) rfl), by decide +kernel, by decide +kernel, by decide +kernel⟩
theorem mi_X1_bowIn : Cond.instanceMethod yX1_bowIn ∈ WS ∧ Cond.selects yX1_bowIn.cls yX1_bowIn yX1_bowIn ∈ WS := ⟨(WS_in 294 (by decide +kernel) rfl), (WS_in 295 (by decide +kernel) rfl)⟩
theorem mf_X0_swapped : MF yX0_swapped cX0_swapped 2 (some .int) 1 := ⟨(WS_in 299 (by decide +kernel) rfl), (WS_in 45 (by decide +kernel) rfl), by decide +kernel, by decide +kernel, by decide +kernel⟩
theorem ms_X0_swapped : Cond.static yX0_swapped ∈ WS := (WS_in 298 (by decide +kernel) rfl)
theorem mf_X0_swappedPlace : MF yX0_swappedPlace cX0_swappedPlace 2 (some .int) 2 := ⟨(WS_in 304 (by decide +kernel) rfl), (WS_in 45 (by decide +kernel) rfl), by decide +kernel, by decide +kernel, by decide +kernel⟩
theorem ms_X0_swappedPlace : Cond.static yX0_swappedPlace ∈ WS := (WS_in 303 (by decide +kernel) rfl)
theorem mf_X1_targetOf : MF yX1_targetOf cX1_targetOf 3 (some .int) 2 := ⟨(WS_in 310 (by decide +kernel) rfl), (WS_in 44 (by decide +kernel) rfl), by decide +kernel, by decide +kernel, by decide +kernel⟩
theorem mi_X1_targetOf : Cond.instanceMethod yX1_targetOf ∈ WS ∧ Cond.selects yX1_targetOf.cls yX1_targetOf yX1_targetOf ∈ WS := ⟨(WS_in 309 (by decide +kernel) rfl), (WS_in 7 (by decide +kernel) rfl)⟩
theorem mf_X1_cellBelow : MF yX1_cellBelow cX1_cellBelow 2 (some .int) 1 := ⟨(WS_in 314 (by decide +kernel) rfl), (WS_in 44 (by decide +kernel) rfl), by decide +kernel, by decide +kernel, by decide +kernel⟩
theorem mi_X1_cellBelow : Cond.instanceMethod yX1_cellBelow ∈ WS ∧ Cond.selects yX1_cellBelow.cls yX1_cellBelow yX1_cellBelow ∈ WS := ⟨(WS_in 312 (by decide +kernel) rfl), (WS_in 313 (by decide +kernel) rfl)⟩
theorem mf_X1_floorOf : MF yX1_floorOf cX1_floorOf 2 (some .int) 1 := ⟨(WS_in 318 (by decide +kernel) rfl), (WS_in 44 (by decide +kernel) rfl), by decide +kernel, by decide +kernel, by decide +kernel⟩
theorem mi_X1_floorOf : Cond.instanceMethod yX1_floorOf ∈ WS ∧ Cond.selects yX1_floorOf.cls yX1_floorOf yX1_floorOf ∈ WS := ⟨(WS_in 316 (by decide +kernel) rfl), (WS_in 317 (by decide +kernel) rfl)⟩
theorem mf_X1_byLadder : MF yX1_byLadder cX1_byLadder 3 (some .int) 2 := ⟨(WS_in 322 (by decide +kernel) rfl), (WS_in 44 (by decide +kernel) rfl), by decide +kernel, by decide +kernel, by decide +kernel⟩
theorem mi_X1_byLadder : Cond.instanceMethod yX1_byLadder ∈ WS ∧ Cond.selects yX1_byLadder.cls yX1_byLadder yX1_byLadder ∈ WS := ⟨(WS_in 321 (by decide +kernel) rfl), (WS_in 8 (by decide +kernel) rfl)⟩
theorem mf_X1_cellAbove : MF yX1_cellAbove cX1_cellAbove 2 (some .int) 1 := ⟨(WS_in 326 (by decide +kernel) rfl), (WS_in 44 (by decide +kernel) rfl), by decide +kernel, by decide +kernel, by decide +kernel⟩
theorem mi_X1_cellAbove : Cond.instanceMethod yX1_cellAbove ∈ WS ∧ Cond.selects yX1_cellAbove.cls yX1_cellAbove yX1_cellAbove ∈ WS := ⟨(WS_in 324 (by decide +kernel) rfl), (WS_in 325 (by decide +kernel) rfl)⟩
theorem mf_X1_lockOnWay : MF yX1_lockOnWay cX1_lockOnWay 3 (some .int) 2 := ⟨(WS_in 330 (by decide +kernel) rfl), (WS_in 44 (by decide +kernel) rfl), by decide +kernel, by decide +kernel, by decide +kernel⟩
theorem mi_X1_lockOnWay : Cond.instanceMethod yX1_lockOnWay ∈ WS ∧ Cond.selects yX1_lockOnWay.cls yX1_lockOnWay yX1_lockOnWay ∈ WS := ⟨(WS_in 329 (by decide +kernel) rfl), (WS_in 9 (by decide +kernel) rfl)⟩
theorem mf_X1_lockBehind : MF yX1_lockBehind cX1_lockBehind 2 (some .int) 1 := ⟨(WS_in 334 (by decide +kernel) rfl), (WS_in 44 (by decide +kernel) rfl), by decide +kernel, by decide +kernel, by decide +kernel⟩
theorem mi_X1_lockBehind : Cond.instanceMethod yX1_lockBehind ∈ WS ∧ Cond.selects yX1_lockBehind.cls yX1_lockBehind yX1_lockBehind ∈ WS := ⟨(WS_in 332 (by decide +kernel) rfl), (WS_in 333 (by decide +kernel) rfl)⟩
theorem mf_X0_movedTo : MF yX0_movedTo cX0_movedTo 2 (some .int) 2 := ⟨(WS_in 337 (by decide +kernel) rfl), (WS_in 45 (by decide +kernel) rfl), by decide +kernel, by decide +kernel, by decide +kernel⟩
theorem ms_X0_movedTo : Cond.static yX0_movedTo ∈ WS := (WS_in 336 (by decide +kernel) rfl)
theorem mf_X3_sumOfLengths : MF yX3_sumOfLengths cX3_sumOfLengths 3 (some .int) 0 := ⟨(WS_in 341 (by decide +kernel) rfl), (WS_in 47 (by decide +kernel) rfl), by decide +kernel, by decide +kernel, by decide +kernel⟩
theorem mi_X3_sumOfLengths : Cond.instanceMethod yX3_sumOfLengths ∈ WS ∧ Cond.selects yX3_sumOfLengths.cls yX3_sumOfLengths yX3_sumOfLengths ∈ WS := ⟨(WS_in 339 (by decide +kernel) rfl), (WS_in 340 (by decide +kernel) rfl)⟩
theorem mf_JM_max : MF yJM_max cJM_max 2 (some .int) 2 := ⟨(WS_in 344 (by decide +kernel) rfl), (WS_in 55 (by decide +kernel) rfl), by decide +kernel, by decide +kernel, by decide +kernel⟩
theorem ms_JM_max : Cond.static yJM_max ∈ WS := (WS_in 343 (by decide +kernel) rfl)
theorem mf_X5_reached : MF yX5_reached cX5_reached 1 (some .double) 0 := ⟨(WS_in 348 (by decide +kernel) rfl), (WS_in 43 (by decide +kernel) rfl), by decide +kernel, by decide +kernel, by decide +kernel⟩
theorem mi_X5_reached : Cond.instanceMethod yX5_reached ∈ WS ∧ Cond.selects yX5_reached.cls yX5_reached yX5_reached ∈ WS := ⟨(WS_in 346 (by decide +kernel) rfl), (WS_in 347 (by decide +kernel) rfl)⟩
theorem mf_X5_digest : MF yX5_digest cX5_digest 5 (some .long) 0 := ⟨(WS_in 353 (by decide +kernel) rfl), (WS_in 43 (by decide +kernel) rfl), by decide +kernel, by decide +kernel, by decide +kernel⟩
theorem mi_X5_digest : Cond.instanceMethod yX5_digest ∈ WS ∧ Cond.selects yX5_digest.cls yX5_digest yX5_digest ∈ WS := ⟨(WS_in 351 (by decide +kernel) rfl), (WS_in 352 (by decide +kernel) rfl)⟩
theorem mf_X5_digestOfLooks : MF yX5_digestOfLooks cX5_digestOfLooks 7 (some .long) 1 := ⟨(WS_in 358 (by decide +kernel) rfl), (WS_in 43 (by decide +kernel) rfl), by decide +kernel, by decide +kernel, by decide +kernel⟩
theorem mi_X5_digestOfLooks : Cond.instanceMethod yX5_digestOfLooks ∈ WS ∧ Cond.selects yX5_digestOfLooks.cls yX5_digestOfLooks yX5_digestOfLooks ∈ WS := ⟨(WS_in 357 (by decide +kernel) rfl), (WS_in 10 (by decide +kernel) rfl)⟩
theorem mf_X5_numberInAll : MF yX5_numberInAll cX5_numberInAll 2 (some .int) 1 := ⟨(WS_in 362 (by decide +kernel) rfl), (WS_in 43 (by decide +kernel) rfl), by decide +kernel, by decide +kernel, by decide +kernel⟩
theorem mi_X5_numberInAll : Cond.instanceMethod yX5_numberInAll ∈ WS ∧ Cond.selects yX5_numberInAll.cls yX5_numberInAll yX5_numberInAll ∈ WS := ⟨(WS_in 361 (by decide +kernel) rfl), (WS_in 11 (by decide +kernel) rfl)⟩
theorem mf_X1_doors : MF yX1_doors cX1_doors 3 (some .int) 0 := ⟨(WS_in 367 (by decide +kernel) rfl), (WS_in 44 (by decide +kernel) rfl), by decide +kernel, by decide +kernel, by decide +kernel⟩
theorem mi_X1_doors : Cond.instanceMethod yX1_doors ∈ WS ∧ Cond.selects yX1_doors.cls yX1_doors yX1_doors ∈ WS := ⟨(WS_in 365 (by decide +kernel) rfl), (WS_in 366 (by decide +kernel) rfl)⟩
theorem mf_X1_laddersBetween : MF yX1_laddersBetween cX1_laddersBetween 3 (some .int) 0 := ⟨(WS_in 371 (by decide +kernel) rfl), (WS_in 44 (by decide +kernel) rfl), by decide +kernel, by decide +kernel, by decide +kernel⟩
theorem mi_X1_laddersBetween : Cond.instanceMethod yX1_laddersBetween ∈ WS ∧ Cond.selects yX1_laddersBetween.cls yX1_laddersBetween yX1_laddersBetween ∈ WS := ⟨(WS_in 369 (by decide +kernel) rfl), (WS_in 370 (by decide +kernel) rfl)⟩
theorem mf_X3_mostLength : MF yX3_mostLength cX3_mostLength 3 (some .int) 0 := ⟨(WS_in 375 (by decide +kernel) rfl), (WS_in 47 (by decide +kernel) rfl), by decide +kernel, by decide +kernel, by decide +kernel⟩
theorem mi_X3_mostLength : Cond.instanceMethod yX3_mostLength ∈ WS ∧ Cond.selects yX3_mostLength.cls yX3_mostLength yX3_mostLength ∈ WS := ⟨(WS_in 373 (by decide +kernel) rfl), (WS_in 374 (by decide +kernel) rfl)⟩
theorem mf_X5_mix : MF yX5_mix cX5_mix 4 (some .long) 2 := ⟨(WS_in 378 (by decide +kernel) rfl), (WS_in 43 (by decide +kernel) rfl), by decide +kernel, by decide +kernel, by decide +kernel⟩
theorem ms_X5_mix : Cond.static yX5_mix ∈ WS := (WS_in 377 (by decide +kernel) rfl)
theorem mf_X5_numberOfWalker : MF yX5_numberOfWalker cX5_numberOfWalker 2 (some .int) 1 := ⟨(WS_in 383 (by decide +kernel) rfl), (WS_in 43 (by decide +kernel) rfl), by decide +kernel, by decide +kernel, by decide +kernel⟩
theorem mi_X5_numberOfWalker : Cond.instanceMethod yX5_numberOfWalker ∈ WS ∧ Cond.selects yX5_numberOfWalker.cls yX5_numberOfWalker yX5_numberOfWalker ∈ WS := ⟨(WS_in 382 (by decide +kernel) rfl), (WS_in 12 (by decide +kernel) rfl)⟩
theorem mf_X5_numberOfCell : MF yX5_numberOfCell cX5_numberOfCell 3 (some .int) 2 := ⟨(WS_in 389 (by decide +kernel) rfl), (WS_in 43 (by decide +kernel) rfl), by decide +kernel, by decide +kernel, by decide +kernel⟩
theorem mi_X5_numberOfCell : Cond.instanceMethod yX5_numberOfCell ∈ WS ∧ Cond.selects yX5_numberOfCell.cls yX5_numberOfCell yX5_numberOfCell ∈ WS := ⟨(WS_in 388 (by decide +kernel) rfl), (WS_in 13 (by decide +kernel) rfl)⟩
theorem mf_X1_ladderIn : MF yX1_ladderIn cX1_ladderIn 2 (some .int) 1 := ⟨(WS_in 394 (by decide +kernel) rfl), (WS_in 44 (by decide +kernel) rfl), by decide +kernel, by decide +kernel, by decide +kernel⟩
theorem mi_X1_ladderIn : Cond.instanceMethod yX1_ladderIn ∈ WS ∧ Cond.selects yX1_ladderIn.cls yX1_ladderIn yX1_ladderIn ∈ WS := ⟨(WS_in 392 (by decide +kernel) rfl), (WS_in 393 (by decide +kernel) rfl)⟩
theorem mf_X3_lengthTo : MF yX3_lengthTo cX3_lengthTo 2 (some .int) 1 := ⟨(WS_in 401 (by decide +kernel) rfl), (WS_in 47 (by decide +kernel) rfl), by decide +kernel, by decide +kernel, by decide +kernel⟩
theorem mi_X3_lengthTo : Cond.instanceMethod yX3_lengthTo ∈ WS ∧ Cond.selects yX3_lengthTo.cls yX3_lengthTo yX3_lengthTo ∈ WS := ⟨(WS_in 399 (by decide +kernel) rfl), (WS_in 400 (by decide +kernel) rfl)⟩
theorem mf_X1_reasonAgainst : MF yX1_reasonAgainst cX1_reasonAgainst 3 (some .int) 1 := ⟨(WS_in 406 (by decide +kernel) rfl), (WS_in 44 (by decide +kernel) rfl), by decide +kernel, by decide +kernel, by decide +kernel⟩
theorem mi_X1_reasonAgainst : Cond.instanceMethod yX1_reasonAgainst ∈ WS ∧ Cond.selects yX1_reasonAgainst.cls yX1_reasonAgainst yX1_reasonAgainst ∈ WS := ⟨(WS_in 404 (by decide +kernel) rfl), (WS_in 405 (by decide +kernel) rfl)⟩
theorem mf_X3_stepTo : MF yX3_stepTo cX3_stepTo 5 (some .int) 2 := ⟨(WS_in 411 (by decide +kernel) rfl), (WS_in 47 (by decide +kernel) rfl), by decide +kernel, by decide +kernel, by decide +kernel⟩
theorem mi_X3_stepTo : Cond.instanceMethod yX3_stepTo ∈ WS ∧ Cond.selects yX3_stepTo.cls yX3_stepTo yX3_stepTo ∈ WS := ⟨(WS_in 409 (by decide +kernel) rfl), (WS_in 410 (by decide +kernel) rfl)⟩
theorem mf_X3_entryAt : MF yX3_entryAt cX3_entryAt 2 (some .int) 1 := ⟨(WS_in 415 (by decide +kernel) rfl), (WS_in 47 (by decide +kernel) rfl), by decide +kernel, by decide +kernel, by decide +kernel⟩
theorem mi_X3_entryAt : Cond.instanceMethod yX3_entryAt ∈ WS ∧ Cond.selects yX3_entryAt.cls yX3_entryAt yX3_entryAt ∈ WS := ⟨(WS_in 414 (by decide +kernel) rfl), (WS_in 14 (by decide +kernel) rfl)⟩
theorem mf_X3_beforeOf : MF yX3_beforeOf cX3_beforeOf 1 (some .int) 1 := ⟨(WS_in 418 (by decide +kernel) rfl), (WS_in 47 (by decide +kernel) rfl), by decide +kernel, by decide +kernel, by decide +kernel⟩
theorem ms_X3_beforeOf : Cond.static yX3_beforeOf ∈ WS := (WS_in 417 (by decide +kernel) rfl)
theorem mf_X3_stepOf : MF yX3_stepOf cX3_stepOf 1 (some .int) 1 := ⟨(WS_in 421 (by decide +kernel) rfl), (WS_in 47 (by decide +kernel) rfl), by decide +kernel, by decide +kernel, by decide +kernel⟩
theorem ms_X3_stepOf : Cond.static yX3_stepOf ∈ WS := (WS_in 420 (by decide +kernel) rfl)
theorem mf_X5_reachedWithoutKey : MF yX5_reachedWithoutKey cX5_reachedWithoutKey 2 (some .int) 1 := ⟨(WS_in 425 (by decide +kernel) rfl), (WS_in 43 (by decide +kernel) rfl), by decide +kernel, by decide +kernel, by decide +kernel⟩
theorem mi_X5_reachedWithoutKey : Cond.instanceMethod yX5_reachedWithoutKey ∈ WS ∧ Cond.selects yX5_reachedWithoutKey.cls yX5_reachedWithoutKey yX5_reachedWithoutKey ∈ WS := ⟨(WS_in 424 (by decide +kernel) rfl), (WS_in 15 (by decide +kernel) rfl)⟩
theorem mf_X5_reachedWithDoor : MF yX5_reachedWithDoor cX5_reachedWithDoor 3 (some .int) 2 := ⟨(WS_in 430 (by decide +kernel) rfl), (WS_in 43 (by decide +kernel) rfl), by decide +kernel, by decide +kernel, by decide +kernel⟩
theorem mi_X5_reachedWithDoor : Cond.instanceMethod yX5_reachedWithDoor ∈ WS ∧ Cond.selects yX5_reachedWithDoor.cls yX5_reachedWithDoor yX5_reachedWithDoor ∈ WS := ⟨(WS_in 429 (by decide +kernel) rfl), (WS_in 16 (by decide +kernel) rfl)⟩
theorem mf_X5_bitsOfShare : MF yX5_bitsOfShare cX5_bitsOfShare 6 (some .long) 1 := ⟨(WS_in 434 (by decide +kernel) rfl), (WS_in 43 (by decide +kernel) rfl), by decide +kernel, by decide +kernel, by decide +kernel⟩
theorem ms_X5_bitsOfShare : Cond.static yX5_bitsOfShare ∈ WS := (WS_in 433 (by decide +kernel) rfl)
theorem mf_X5_door : MF yX5_door cX5_door 4 (some .int) 2 := ⟨(WS_in 446 (by decide +kernel) rfl), (WS_in 43 (by decide +kernel) rfl), by decide +kernel, by decide +kernel, by decide +kernel⟩
theorem mi_X5_door : Cond.instanceMethod yX5_door ∈ WS ∧ Cond.selects yX5_door.cls yX5_door yX5_door ∈ WS := ⟨(WS_in 444 (by decide +kernel) rfl), (WS_in 445 (by decide +kernel) rfl)⟩
theorem mf_X5_isBow : MF yX5_isBow cX5_isBow 1 (some .boolean) 1 := ⟨(WS_in 518 (by decide +kernel) rfl), (WS_in 43 (by decide +kernel) rfl), by decide +kernel, by decide +kernel, by decide +kernel⟩
theorem ms_X5_isBow : Cond.static yX5_isBow ∈ WS := (WS_in 517 (by decide +kernel) rfl)
theorem mf_X2_push : MF yX2_push cX2_push 3 none 1 := ⟨(WS_in 538 (by decide +kernel) rfl), (WS_in 46 (by decide +kernel) rfl), by decide +kernel, by decide +kernel, by decide +kernel⟩
theorem mi_X2_push : Cond.instanceMethod yX2_push ∈ WS ∧ Cond.selects yX2_push.cls yX2_push yX2_push ∈ WS := ⟨(WS_in 536 (by decide +kernel) rfl), (WS_in 537 (by decide +kernel) rfl)⟩
theorem mf_X2_slotAt : MF yX2_slotAt cX2_slotAt 2 (some (.object "FoldedKeys$Corridor")) 1 := ⟨(WS_in 542 (by decide +kernel) rfl), (WS_in 46 (by decide +kernel) rfl), by decide +kernel, by decide +kernel, by decide +kernel⟩
theorem mi_X2_slotAt : Cond.instanceMethod yX2_slotAt ∈ WS ∧ Cond.selects yX2_slotAt.cls yX2_slotAt yX2_slotAt ∈ WS := ⟨(WS_in 541 (by decide +kernel) rfl), (WS_in 18 (by decide +kernel) rfl)⟩
theorem mf_JM_min : MF yJM_min cJM_min 2 (some .int) 2 := ⟨(WS_in 546 (by decide +kernel) rfl), (WS_in 55 (by decide +kernel) rfl), by decide +kernel, by decide +kernel, by decide +kernel⟩
theorem ms_JM_min : Cond.static yJM_min ∈ WS := (WS_in 545 (by decide +kernel) rfl)
theorem mf_X5_key : MF yX5_key cX5_key 4 (some .int) 2 := ⟨(WS_in 554 (by decide +kernel) rfl), (WS_in 43 (by decide +kernel) rfl), by decide +kernel, by decide +kernel, by decide +kernel⟩
theorem mi_X5_key : Cond.instanceMethod yX5_key ∈ WS ∧ Cond.selects yX5_key.cls yX5_key yX5_key ∈ WS := ⟨(WS_in 552 (by decide +kernel) rfl), (WS_in 553 (by decide +kernel) rfl)⟩
theorem mf_X5_ladder : MF yX5_ladder cX5_ladder 4 (some .int) 2 := ⟨(WS_in 580 (by decide +kernel) rfl), (WS_in 43 (by decide +kernel) rfl), by decide +kernel, by decide +kernel, by decide +kernel⟩
theorem mi_X5_ladder : Cond.instanceMethod yX5_ladder ∈ WS ∧ Cond.selects yX5_ladder.cls yX5_ladder yX5_ladder ∈ WS := ⟨(WS_in 578 (by decide +kernel) rfl), (WS_in 579 (by decide +kernel) rfl)⟩
theorem mf_X5_fold : MF yX5_fold cX5_fold 3 (some .int) 1 := ⟨(WS_in 588 (by decide +kernel) rfl), (WS_in 43 (by decide +kernel) rfl), by decide +kernel, by decide +kernel, by decide +kernel⟩
theorem mi_X5_fold : Cond.instanceMethod yX5_fold ∈ WS ∧ Cond.selects yX5_fold.cls yX5_fold yX5_fold ∈ WS := ⟨(WS_in 586 (by decide +kernel) rfl), (WS_in 587 (by decide +kernel) rfl)⟩
theorem mf_X5_stand : MF yX5_stand cX5_stand 3 (some .int) 1 := ⟨(WS_in 596 (by decide +kernel) rfl), (WS_in 43 (by decide +kernel) rfl), by decide +kernel, by decide +kernel, by decide +kernel⟩
theorem mi_X5_stand : Cond.instanceMethod yX5_stand ∈ WS ∧ Cond.selects yX5_stand.cls yX5_stand yX5_stand ∈ WS := ⟨(WS_in 594 (by decide +kernel) rfl), (WS_in 595 (by decide +kernel) rfl)⟩
theorem mf_X5_step : MF yX5_step cX5_step 2 (some .int) 1 := ⟨(WS_in 604 (by decide +kernel) rfl), (WS_in 43 (by decide +kernel) rfl), by decide +kernel, by decide +kernel, by decide +kernel⟩
theorem mi_X5_step : Cond.instanceMethod yX5_step ∈ WS ∧ Cond.selects yX5_step.cls yX5_step yX5_step ∈ WS := ⟨(WS_in 602 (by decide +kernel) rfl), (WS_in 603 (by decide +kernel) rfl)⟩
theorem mf_X5_isStep : MF yX5_isStep cX5_isStep 1 (some .boolean) 1 := ⟨(WS_in 607 (by decide +kernel) rfl), (WS_in 43 (by decide +kernel) rfl), by decide +kernel, by decide +kernel, by decide +kernel⟩
theorem ms_X5_isStep : Cond.static yX5_isStep ∈ WS := (WS_in 606 (by decide +kernel) rfl)
theorem mf_X1_take : MF yX1_take cX1_take 3 none 1 := ⟨(WS_in 613 (by decide +kernel) rfl), (WS_in 44 (by decide +kernel) rfl), by decide +kernel, by decide +kernel, by decide +kernel⟩
theorem mi_X1_take : Cond.instanceMethod yX1_take ∈ WS ∧ Cond.selects yX1_take.cls yX1_take yX1_take ∈ WS := ⟨(WS_in 611 (by decide +kernel) rfl), (WS_in 612 (by decide +kernel) rfl)⟩
theorem mf_X5_walk : MF yX5_walk cX5_walk 4 (some .int) 1 := ⟨(WS_in 620 (by decide +kernel) rfl), (WS_in 43 (by decide +kernel) rfl), by decide +kernel, by decide +kernel, by decide +kernel⟩
theorem mi_X5_walk : Cond.instanceMethod yX5_walk ∈ WS ∧ Cond.selects yX5_walk.cls yX5_walk yX5_walk ∈ WS := ⟨(WS_in 618 (by decide +kernel) rfl), (WS_in 619 (by decide +kernel) rfl)⟩
theorem mf_X5_append : MF yX5_append cX5_append 2 (some .int) 1 := ⟨(WS_in 628 (by decide +kernel) rfl), (WS_in 43 (by decide +kernel) rfl), by decide +kernel, by decide +kernel, by decide +kernel⟩
theorem mi_X5_append : Cond.instanceMethod yX5_append ∈ WS ∧ Cond.selects yX5_append.cls yX5_append yX5_append ∈ WS := ⟨(WS_in 626 (by decide +kernel) rfl), (WS_in 627 (by decide +kernel) rfl)⟩
theorem mf_X4_add : MF yX4_add cX4_add 2 none 1 := ⟨(WS_in 634 (by decide +kernel) rfl), (WS_in 48 (by decide +kernel) rfl), by decide +kernel, by decide +kernel, by decide +kernel⟩
theorem mi_X4_add : Cond.instanceMethod yX4_add ∈ WS ∧ Cond.selects yX4_add.cls yX4_add yX4_add ∈ WS := ⟨(WS_in 632 (by decide +kernel) rfl), (WS_in 633 (by decide +kernel) rfl)⟩
theorem mf_X5_corridor : MF yX5_corridor cX5_corridor 1 (some .int) 0 := ⟨(WS_in 641 (by decide +kernel) rfl), (WS_in 43 (by decide +kernel) rfl), by decide +kernel, by decide +kernel, by decide +kernel⟩
theorem mi_X5_corridor : Cond.instanceMethod yX5_corridor ∈ WS ∧ Cond.selects yX5_corridor.cls yX5_corridor yX5_corridor ∈ WS := ⟨(WS_in 639 (by decide +kernel) rfl), (WS_in 640 (by decide +kernel) rfl)⟩
theorem mf_X5_undo : MF yX5_undo cX5_undo 1 (some .int) 0 := ⟨(WS_in 649 (by decide +kernel) rfl), (WS_in 43 (by decide +kernel) rfl), by decide +kernel, by decide +kernel, by decide +kernel⟩
theorem mi_X5_undo : Cond.instanceMethod yX5_undo ∈ WS ∧ Cond.selects yX5_undo.cls yX5_undo yX5_undo ∈ WS := ⟨(WS_in 647 (by decide +kernel) rfl), (WS_in 648 (by decide +kernel) rfl)⟩
theorem mf_X2_popInto : MF yX2_popInto cX2_popInto 4 none 1 := ⟨(WS_in 654 (by decide +kernel) rfl), (WS_in 46 (by decide +kernel) rfl), by decide +kernel, by decide +kernel, by decide +kernel⟩
theorem mi_X2_popInto : Cond.instanceMethod yX2_popInto ∈ WS ∧ Cond.selects yX2_popInto.cls yX2_popInto yX2_popInto ∈ WS := ⟨(WS_in 652 (by decide +kernel) rfl), (WS_in 653 (by decide +kernel) rfl)⟩
theorem mf_X5_cell : MF yX5_cell cX5_cell 3 (some .int) 2 := ⟨(WS_in 661 (by decide +kernel) rfl), (WS_in 43 (by decide +kernel) rfl), by decide +kernel, by decide +kernel, by decide +kernel⟩
theorem mi_X5_cell : Cond.instanceMethod yX5_cell ∈ WS ∧ Cond.selects yX5_cell.cls yX5_cell yX5_cell ∈ WS := ⟨(WS_in 659 (by decide +kernel) rfl), (WS_in 660 (by decide +kernel) rfl)⟩
theorem mf_X5_walker : MF yX5_walker cX5_walker 2 (some .int) 1 := ⟨(WS_in 669 (by decide +kernel) rfl), (WS_in 43 (by decide +kernel) rfl), by decide +kernel, by decide +kernel, by decide +kernel⟩
theorem mi_X5_walker : Cond.instanceMethod yX5_walker ∈ WS ∧ Cond.selects yX5_walker.cls yX5_walker yX5_walker ∈ WS := ⟨(WS_in 667 (by decide +kernel) rfl), (WS_in 668 (by decide +kernel) rfl)⟩
theorem mf_X5_plan : MF yX5_plan cX5_plan 3 (some .int) 2 := ⟨(WS_in 677 (by decide +kernel) rfl), (WS_in 43 (by decide +kernel) rfl), by decide +kernel, by decide +kernel, by decide +kernel⟩
theorem mi_X5_plan : Cond.instanceMethod yX5_plan ∈ WS ∧ Cond.selects yX5_plan.cls yX5_plan yX5_plan ∈ WS := ⟨(WS_in 675 (by decide +kernel) rfl), (WS_in 676 (by decide +kernel) rfl)⟩
theorem mf_X5_count : MF yX5_count cX5_count 2 (some .int) 1 := ⟨(WS_in 685 (by decide +kernel) rfl), (WS_in 43 (by decide +kernel) rfl), by decide +kernel, by decide +kernel, by decide +kernel⟩
theorem mi_X5_count : Cond.instanceMethod yX5_count ∈ WS ∧ Cond.selects yX5_count.cls yX5_count yX5_count ∈ WS := ⟨(WS_in 683 (by decide +kernel) rfl), (WS_in 684 (by decide +kernel) rfl)⟩
theorem mf_X5_refusal : MF yX5_refusal cX5_refusal 2 (some .int) 1 := ⟨(WS_in 692 (by decide +kernel) rfl), (WS_in 43 (by decide +kernel) rfl), by decide +kernel, by decide +kernel, by decide +kernel⟩
theorem mi_X5_refusal : Cond.instanceMethod yX5_refusal ∈ WS ∧ Cond.selects yX5_refusal.cls yX5_refusal yX5_refusal ∈ WS := ⟨(WS_in 690 (by decide +kernel) rfl), (WS_in 691 (by decide +kernel) rfl)⟩
theorem mf_X5_ifDoor : MF yX5_ifDoor cX5_ifDoor 3 (some .int) 2 := ⟨(WS_in 699 (by decide +kernel) rfl), (WS_in 43 (by decide +kernel) rfl), by decide +kernel, by decide +kernel, by decide +kernel⟩
theorem mi_X5_ifDoor : Cond.instanceMethod yX5_ifDoor ∈ WS ∧ Cond.selects yX5_ifDoor.cls yX5_ifDoor yX5_ifDoor ∈ WS := ⟨(WS_in 697 (by decide +kernel) rfl), (WS_in 698 (by decide +kernel) rfl)⟩
theorem mf_X5_without : MF yX5_without cX5_without 2 (some .int) 1 := ⟨(WS_in 706 (by decide +kernel) rfl), (WS_in 43 (by decide +kernel) rfl), by decide +kernel, by decide +kernel, by decide +kernel⟩
theorem mi_X5_without : Cond.instanceMethod yX5_without ∈ WS ∧ Cond.selects yX5_without.cls yX5_without yX5_without ∈ WS := ⟨(WS_in 704 (by decide +kernel) rfl), (WS_in 705 (by decide +kernel) rfl)⟩
theorem mf_X6_init : MF yX6_init cX6_init 1 none 0 := ⟨(WS_in 711 (by decide +kernel) rfl), (WS_in 49 (by decide +kernel) rfl), by decide +kernel, by decide +kernel, by decide +kernel⟩
theorem mi_X6_init : yX6_init.name = "<init>" ∧ Cond.instanceMethod yX6_init ∈ WS := ⟨rfl, (WS_in 710 (by decide +kernel) rfl)⟩
theorem mf_X6_thrown : MF yX6_thrown cX6_thrown 1 (some .int) 0 := ⟨(WS_in 771 (by decide +kernel) rfl), (WS_in 49 (by decide +kernel) rfl), by decide +kernel, by decide +kernel, by decide +kernel⟩
theorem mi_X6_thrown : Cond.instanceMethod yX6_thrown ∈ WS ∧ Cond.selects yX6_thrown.cls yX6_thrown yX6_thrown ∈ WS := ⟨(WS_in 769 (by decide +kernel) rfl), (WS_in 770 (by decide +kernel) rfl)⟩
theorem mf_X6_undo : MF yX6_undo cX6_undo 1 (some .int) 0 := ⟨(WS_in 775 (by decide +kernel) rfl), (WS_in 49 (by decide +kernel) rfl), by decide +kernel, by decide +kernel, by decide +kernel⟩
theorem mi_X6_undo : Cond.instanceMethod yX6_undo ∈ WS ∧ Cond.selects yX6_undo.cls yX6_undo yX6_undo ∈ WS := ⟨(WS_in 773 (by decide +kernel) rfl), (WS_in 774 (by decide +kernel) rfl)⟩
theorem mf_X6_fails : MF yX6_fails cX6_fails 2 (some .int) 1 := ⟨(WS_in 779 (by decide +kernel) rfl), (WS_in 49 (by decide +kernel) rfl), by decide +kernel, by decide +kernel, by decide +kernel⟩
theorem mi_X6_fails : Cond.instanceMethod yX6_fails ∈ WS ∧ Cond.selects yX6_fails.cls yX6_fails yX6_fails ∈ WS := ⟨(WS_in 778 (by decide +kernel) rfl), (WS_in 19 (by decide +kernel) rfl)⟩
theorem mf_X6_copies : MF yX6_copies cX6_copies 5 none 4 := ⟨(WS_in 782 (by decide +kernel) rfl), (WS_in 49 (by decide +kernel) rfl), by decide +kernel, by decide +kernel, by decide +kernel⟩
theorem ms_X6_copies : Cond.static yX6_copies ∈ WS := (WS_in 781 (by decide +kernel) rfl)
theorem mf_X6_door : MF yX6_door cX6_door 3 (some .int) 2 := ⟨(WS_in 786 (by decide +kernel) rfl), (WS_in 49 (by decide +kernel) rfl), by decide +kernel, by decide +kernel, by decide +kernel⟩
theorem mi_X6_door : Cond.instanceMethod yX6_door ∈ WS ∧ Cond.selects yX6_door.cls yX6_door yX6_door ∈ WS := ⟨(WS_in 784 (by decide +kernel) rfl), (WS_in 785 (by decide +kernel) rfl)⟩
theorem mf_X6_in : MF yX6_in cX6_in 3 (some .boolean) 3 := ⟨(WS_in 789 (by decide +kernel) rfl), (WS_in 49 (by decide +kernel) rfl), by decide +kernel, by decide +kernel, by decide +kernel⟩
theorem ms_X6_in : Cond.static yX6_in ∈ WS := (WS_in 788 (by decide +kernel) rfl)
theorem mf_X6_saves : MF yX6_saves cX6_saves 2 none 0 := ⟨(WS_in 793 (by decide +kernel) rfl), (WS_in 49 (by decide +kernel) rfl), by decide +kernel, by decide +kernel, by decide +kernel⟩
theorem mi_X6_saves : Cond.instanceMethod yX6_saves ∈ WS ∧ Cond.selects yX6_saves.cls yX6_saves yX6_saves ∈ WS := ⟨(WS_in 792 (by decide +kernel) rfl), (WS_in 20 (by decide +kernel) rfl)⟩
theorem mf_X6_changes : MF yX6_changes cX6_changes 4 (some .int) 2 := ⟨(WS_in 797 (by decide +kernel) rfl), (WS_in 49 (by decide +kernel) rfl), by decide +kernel, by decide +kernel, by decide +kernel⟩
theorem mi_X6_changes : Cond.instanceMethod yX6_changes ∈ WS ∧ Cond.selects yX6_changes.cls yX6_changes yX6_changes ∈ WS := ⟨(WS_in 796 (by decide +kernel) rfl), (WS_in 21 (by decide +kernel) rfl)⟩
theorem mf_X6_key : MF yX6_key cX6_key 3 (some .int) 2 := ⟨(WS_in 801 (by decide +kernel) rfl), (WS_in 49 (by decide +kernel) rfl), by decide +kernel, by decide +kernel, by decide +kernel⟩
theorem mi_X6_key : Cond.instanceMethod yX6_key ∈ WS ∧ Cond.selects yX6_key.cls yX6_key yX6_key ∈ WS := ⟨(WS_in 799 (by decide +kernel) rfl), (WS_in 800 (by decide +kernel) rfl)⟩
theorem mf_X6_isCell : MF yX6_isCell cX6_isCell 1 (some .boolean) 1 := ⟨(WS_in 804 (by decide +kernel) rfl), (WS_in 49 (by decide +kernel) rfl), by decide +kernel, by decide +kernel, by decide +kernel⟩
theorem ms_X6_isCell : Cond.static yX6_isCell ∈ WS := (WS_in 803 (by decide +kernel) rfl)
theorem mf_X6_keys : MF yX6_keys cX6_keys 3 (some .int) 0 := ⟨(WS_in 808 (by decide +kernel) rfl), (WS_in 49 (by decide +kernel) rfl), by decide +kernel, by decide +kernel, by decide +kernel⟩
theorem mi_X6_keys : Cond.instanceMethod yX6_keys ∈ WS ∧ Cond.selects yX6_keys.cls yX6_keys yX6_keys ∈ WS := ⟨(WS_in 807 (by decide +kernel) rfl), (WS_in 22 (by decide +kernel) rfl)⟩
theorem mf_X6_ladder : MF yX6_ladder cX6_ladder 3 (some .int) 2 := ⟨(WS_in 812 (by decide +kernel) rfl), (WS_in 49 (by decide +kernel) rfl), by decide +kernel, by decide +kernel, by decide +kernel⟩
theorem mi_X6_ladder : Cond.instanceMethod yX6_ladder ∈ WS ∧ Cond.selects yX6_ladder.cls yX6_ladder yX6_ladder ∈ WS := ⟨(WS_in 810 (by decide +kernel) rfl), (WS_in 811 (by decide +kernel) rfl)⟩
theorem mf_X6_fold : MF yX6_fold cX6_fold 2 (some .int) 1 := ⟨(WS_in 816 (by decide +kernel) rfl), (WS_in 49 (by decide +kernel) rfl), by decide +kernel, by decide +kernel, by decide +kernel⟩
theorem mi_X6_fold : Cond.instanceMethod yX6_fold ∈ WS ∧ Cond.selects yX6_fold.cls yX6_fold yX6_fold ∈ WS := ⟨(WS_in 814 (by decide +kernel) rfl), (WS_in 815 (by decide +kernel) rfl)⟩
theorem mf_X6_stand : MF yX6_stand cX6_stand 2 (some .int) 1 := ⟨(WS_in 820 (by decide +kernel) rfl), (WS_in 49 (by decide +kernel) rfl), by decide +kernel, by decide +kernel, by decide +kernel⟩
theorem mi_X6_stand : Cond.instanceMethod yX6_stand ∈ WS ∧ Cond.selects yX6_stand.cls yX6_stand yX6_stand ∈ WS := ⟨(WS_in 818 (by decide +kernel) rfl), (WS_in 819 (by decide +kernel) rfl)⟩
theorem mf_X6_step : MF yX6_step cX6_step 2 (some .int) 1 := ⟨(WS_in 824 (by decide +kernel) rfl), (WS_in 49 (by decide +kernel) rfl), by decide +kernel, by decide +kernel, by decide +kernel⟩
theorem mi_X6_step : Cond.instanceMethod yX6_step ∈ WS ∧ Cond.selects yX6_step.cls yX6_step yX6_step ∈ WS := ⟨(WS_in 822 (by decide +kernel) rfl), (WS_in 823 (by decide +kernel) rfl)⟩
theorem mf_X6_refused : MF yX6_refused cX6_refused 4 (some .int) 2 := ⟨(WS_in 827 (by decide +kernel) rfl), (WS_in 49 (by decide +kernel) rfl), by decide +kernel, by decide +kernel, by decide +kernel⟩
theorem ms_X6_refused : Cond.static yX6_refused ∈ WS := (WS_in 826 (by decide +kernel) rfl)
theorem mf_X6_leads : MF yX6_leads cX6_leads 4 (some .int) 3 := ⟨(WS_in 830 (by decide +kernel) rfl), (WS_in 49 (by decide +kernel) rfl), by decide +kernel, by decide +kernel, by decide +kernel⟩
theorem ms_X6_leads : Cond.static yX6_leads ∈ WS := (WS_in 829 (by decide +kernel) rfl)
theorem mf_X6_below : MF yX6_below cX6_below 3 (some .int) 2 := ⟨(WS_in 833 (by decide +kernel) rfl), (WS_in 49 (by decide +kernel) rfl), by decide +kernel, by decide +kernel, by decide +kernel⟩
theorem ms_X6_below : Cond.static yX6_below ∈ WS := (WS_in 832 (by decide +kernel) rfl)
theorem mf_X6_above : MF yX6_above cX6_above 3 (some .int) 2 := ⟨(WS_in 836 (by decide +kernel) rfl), (WS_in 49 (by decide +kernel) rfl), by decide +kernel, by decide +kernel, by decide +kernel⟩
theorem ms_X6_above : Cond.static yX6_above ∈ WS := (WS_in 835 (by decide +kernel) rfl)
theorem mf_X6_lockOn : MF yX6_lockOn cX6_lockOn 3 (some .int) 3 := ⟨(WS_in 839 (by decide +kernel) rfl), (WS_in 49 (by decide +kernel) rfl), by decide +kernel, by decide +kernel, by decide +kernel⟩
theorem ms_X6_lockOn : Cond.static yX6_lockOn ∈ WS := (WS_in 838 (by decide +kernel) rfl)
theorem mf_X6_goes : MF yX6_goes cX6_goes 4 none 2 := ⟨(WS_in 842 (by decide +kernel) rfl), (WS_in 49 (by decide +kernel) rfl), by decide +kernel, by decide +kernel, by decide +kernel⟩
theorem ms_X6_goes : Cond.static yX6_goes ∈ WS := (WS_in 841 (by decide +kernel) rfl)
theorem mf_X6_walk : MF yX6_walk cX6_walk 4 (some .int) 1 := ⟨(WS_in 846 (by decide +kernel) rfl), (WS_in 49 (by decide +kernel) rfl), by decide +kernel, by decide +kernel, by decide +kernel⟩
theorem mi_X6_walk : Cond.instanceMethod yX6_walk ∈ WS ∧ Cond.selects yX6_walk.cls yX6_walk yX6_walk ∈ WS := ⟨(WS_in 844 (by decide +kernel) rfl), (WS_in 845 (by decide +kernel) rfl)⟩
theorem mf_X6_laysNow : MF yX6_laysNow cX6_laysNow 1 none 0 := ⟨(WS_in 850 (by decide +kernel) rfl), (WS_in 49 (by decide +kernel) rfl), by decide +kernel, by decide +kernel, by decide +kernel⟩
theorem mi_X6_laysNow : Cond.instanceMethod yX6_laysNow ∈ WS ∧ Cond.selects yX6_laysNow.cls yX6_laysNow yX6_laysNow ∈ WS := ⟨(WS_in 849 (by decide +kernel) rfl), (WS_in 23 (by decide +kernel) rfl)⟩
theorem mf_X6_lays : MF yX6_lays cX6_lays 6 none 1 := ⟨(WS_in 854 (by decide +kernel) rfl), (WS_in 49 (by decide +kernel) rfl), by decide +kernel, by decide +kernel, by decide +kernel⟩
theorem mi_X6_lays : Cond.instanceMethod yX6_lays ∈ WS ∧ Cond.selects yX6_lays.cls yX6_lays yX6_lays ∈ WS := ⟨(WS_in 853 (by decide +kernel) rfl), (WS_in 24 (by decide +kernel) rfl)⟩
theorem mf_X6_begins : MF yX6_begins cX6_begins 6 (some .int) 1 := ⟨(WS_in 858 (by decide +kernel) rfl), (WS_in 49 (by decide +kernel) rfl), by decide +kernel, by decide +kernel, by decide +kernel⟩
theorem mi_X6_begins : Cond.instanceMethod yX6_begins ∈ WS ∧ Cond.selects yX6_begins.cls yX6_begins yX6_begins ∈ WS := ⟨(WS_in 857 (by decide +kernel) rfl), (WS_in 25 (by decide +kernel) rfl)⟩
theorem mf_X6_behind : MF yX6_behind cX6_behind 10 (some .int) 3 := ⟨(WS_in 862 (by decide +kernel) rfl), (WS_in 49 (by decide +kernel) rfl), by decide +kernel, by decide +kernel, by decide +kernel⟩
theorem mi_X6_behind : Cond.instanceMethod yX6_behind ∈ WS ∧ Cond.selects yX6_behind.cls yX6_behind yX6_behind ∈ WS := ⟨(WS_in 861 (by decide +kernel) rfl), (WS_in 26 (by decide +kernel) rfl)⟩
theorem mf_X6_changed : MF yX6_changed cX6_changed 8 (some .int) 3 := ⟨(WS_in 866 (by decide +kernel) rfl), (WS_in 49 (by decide +kernel) rfl), by decide +kernel, by decide +kernel, by decide +kernel⟩
theorem mi_X6_changed : Cond.instanceMethod yX6_changed ∈ WS ∧ Cond.selects yX6_changed.cls yX6_changed yX6_changed ∈ WS := ⟨(WS_in 865 (by decide +kernel) rfl), (WS_in 27 (by decide +kernel) rfl)⟩
theorem mf_X6_steps : MF yX6_steps cX6_steps 2 (some .int) 1 := ⟨(WS_in 870 (by decide +kernel) rfl), (WS_in 49 (by decide +kernel) rfl), by decide +kernel, by decide +kernel, by decide +kernel⟩
theorem mi_X6_steps : Cond.instanceMethod yX6_steps ∈ WS ∧ Cond.selects yX6_steps.cls yX6_steps yX6_steps ∈ WS := ⟨(WS_in 869 (by decide +kernel) rfl), (WS_in 28 (by decide +kernel) rfl)⟩
theorem mf_X6_stepAt : MF yX6_stepAt cX6_stepAt 4 (some .int) 2 := ⟨(WS_in 874 (by decide +kernel) rfl), (WS_in 49 (by decide +kernel) rfl), by decide +kernel, by decide +kernel, by decide +kernel⟩
theorem mi_X6_stepAt : Cond.instanceMethod yX6_stepAt ∈ WS ∧ Cond.selects yX6_stepAt.cls yX6_stepAt yX6_stepAt ∈ WS := ⟨(WS_in 873 (by decide +kernel) rfl), (WS_in 29 (by decide +kernel) rfl)⟩
theorem mf_X6_append : MF yX6_append cX6_append 2 (some .int) 1 := ⟨(WS_in 878 (by decide +kernel) rfl), (WS_in 49 (by decide +kernel) rfl), by decide +kernel, by decide +kernel, by decide +kernel⟩
theorem mi_X6_append : Cond.instanceMethod yX6_append ∈ WS ∧ Cond.selects yX6_append.cls yX6_append yX6_append ∈ WS := ⟨(WS_in 876 (by decide +kernel) rfl), (WS_in 877 (by decide +kernel) rfl)⟩
theorem mf_X6_clearBuffer : MF yX6_clearBuffer cX6_clearBuffer 2 (some .int) 0 := ⟨(WS_in 882 (by decide +kernel) rfl), (WS_in 49 (by decide +kernel) rfl), by decide +kernel, by decide +kernel, by decide +kernel⟩
theorem mi_X6_clearBuffer : Cond.instanceMethod yX6_clearBuffer ∈ WS ∧ Cond.selects yX6_clearBuffer.cls yX6_clearBuffer yX6_clearBuffer ∈ WS := ⟨(WS_in 880 (by decide +kernel) rfl), (WS_in 881 (by decide +kernel) rfl)⟩
theorem mf_X6_firstError : MF yX6_firstError cX6_firstError 2 (some .int) 0 := ⟨(WS_in 886 (by decide +kernel) rfl), (WS_in 49 (by decide +kernel) rfl), by decide +kernel, by decide +kernel, by decide +kernel⟩
theorem mi_X6_firstError : Cond.instanceMethod yX6_firstError ∈ WS ∧ Cond.selects yX6_firstError.cls yX6_firstError yX6_firstError ∈ WS := ⟨(WS_in 884 (by decide +kernel) rfl), (WS_in 885 (by decide +kernel) rfl)⟩
theorem mf_X6_isText : MF yX6_isText cX6_isText 4 (some .boolean) 0 := ⟨(WS_in 890 (by decide +kernel) rfl), (WS_in 49 (by decide +kernel) rfl), by decide +kernel, by decide +kernel, by decide +kernel⟩
theorem mi_X6_isText : Cond.instanceMethod yX6_isText ∈ WS ∧ Cond.selects yX6_isText.cls yX6_isText yX6_isText ∈ WS := ⟨(WS_in 889 (by decide +kernel) rfl), (WS_in 30 (by decide +kernel) rfl)⟩
theorem mf_X6_isAt : MF yX6_isAt cX6_isAt 3 (some .boolean) 2 := ⟨(WS_in 894 (by decide +kernel) rfl), (WS_in 49 (by decide +kernel) rfl), by decide +kernel, by decide +kernel, by decide +kernel⟩
theorem mi_X6_isAt : Cond.instanceMethod yX6_isAt ∈ WS ∧ Cond.selects yX6_isAt.cls yX6_isAt yX6_isAt ∈ WS := ⟨(WS_in 893 (by decide +kernel) rfl), (WS_in 31 (by decide +kernel) rfl)⟩
theorem mf_X6_corridor : MF yX6_corridor cX6_corridor 2 (some .int) 0 := ⟨(WS_in 898 (by decide +kernel) rfl), (WS_in 49 (by decide +kernel) rfl), by decide +kernel, by decide +kernel, by decide +kernel⟩
theorem mi_X6_corridor : Cond.instanceMethod yX6_corridor ∈ WS ∧ Cond.selects yX6_corridor.cls yX6_corridor yX6_corridor ∈ WS := ⟨(WS_in 896 (by decide +kernel) rfl), (WS_in 897 (by decide +kernel) rfl)⟩
theorem mf_X6_cell : MF yX6_cell cX6_cell 3 (some .int) 2 := ⟨(WS_in 902 (by decide +kernel) rfl), (WS_in 49 (by decide +kernel) rfl), by decide +kernel, by decide +kernel, by decide +kernel⟩
theorem mi_X6_cell : Cond.instanceMethod yX6_cell ∈ WS ∧ Cond.selects yX6_cell.cls yX6_cell yX6_cell ∈ WS := ⟨(WS_in 900 (by decide +kernel) rfl), (WS_in 901 (by decide +kernel) rfl)⟩
theorem mf_X6_ofCell : MF yX6_ofCell cX6_ofCell 3 (some .int) 2 := ⟨(WS_in 906 (by decide +kernel) rfl), (WS_in 49 (by decide +kernel) rfl), by decide +kernel, by decide +kernel, by decide +kernel⟩
theorem mi_X6_ofCell : Cond.instanceMethod yX6_ofCell ∈ WS ∧ Cond.selects yX6_ofCell.cls yX6_ofCell yX6_ofCell ∈ WS := ⟨(WS_in 905 (by decide +kernel) rfl), (WS_in 32 (by decide +kernel) rfl)⟩
theorem mf_X6_walker : MF yX6_walker cX6_walker 2 (some .int) 1 := ⟨(WS_in 910 (by decide +kernel) rfl), (WS_in 49 (by decide +kernel) rfl), by decide +kernel, by decide +kernel, by decide +kernel⟩
theorem mi_X6_walker : Cond.instanceMethod yX6_walker ∈ WS ∧ Cond.selects yX6_walker.cls yX6_walker yX6_walker ∈ WS := ⟨(WS_in 908 (by decide +kernel) rfl), (WS_in 909 (by decide +kernel) rfl)⟩
theorem mf_X6_plan : MF yX6_plan cX6_plan 3 (some .int) 2 := ⟨(WS_in 914 (by decide +kernel) rfl), (WS_in 49 (by decide +kernel) rfl), by decide +kernel, by decide +kernel, by decide +kernel⟩
theorem mi_X6_plan : Cond.instanceMethod yX6_plan ∈ WS ∧ Cond.selects yX6_plan.cls yX6_plan yX6_plan ∈ WS := ⟨(WS_in 912 (by decide +kernel) rfl), (WS_in 913 (by decide +kernel) rfl)⟩
theorem mf_X6_planned : MF yX6_planned cX6_planned 3 (some .int) 2 := ⟨(WS_in 918 (by decide +kernel) rfl), (WS_in 49 (by decide +kernel) rfl), by decide +kernel, by decide +kernel, by decide +kernel⟩
theorem mi_X6_planned : Cond.instanceMethod yX6_planned ∈ WS ∧ Cond.selects yX6_planned.cls yX6_planned yX6_planned ∈ WS := ⟨(WS_in 917 (by decide +kernel) rfl), (WS_in 33 (by decide +kernel) rfl)⟩
theorem mf_X6_count : MF yX6_count cX6_count 2 (some .int) 1 := ⟨(WS_in 922 (by decide +kernel) rfl), (WS_in 49 (by decide +kernel) rfl), by decide +kernel, by decide +kernel, by decide +kernel⟩
theorem mi_X6_count : Cond.instanceMethod yX6_count ∈ WS ∧ Cond.selects yX6_count.cls yX6_count yX6_count ∈ WS := ⟨(WS_in 920 (by decide +kernel) rfl), (WS_in 921 (by decide +kernel) rfl)⟩
theorem mf_X6_counted : MF yX6_counted cX6_counted 2 (some .int) 1 := ⟨(WS_in 926 (by decide +kernel) rfl), (WS_in 49 (by decide +kernel) rfl), by decide +kernel, by decide +kernel, by decide +kernel⟩
theorem mi_X6_counted : Cond.instanceMethod yX6_counted ∈ WS ∧ Cond.selects yX6_counted.cls yX6_counted yX6_counted ∈ WS := ⟨(WS_in 925 (by decide +kernel) rfl), (WS_in 34 (by decide +kernel) rfl)⟩
theorem mf_X6_doors : MF yX6_doors cX6_doors 3 (some .int) 0 := ⟨(WS_in 930 (by decide +kernel) rfl), (WS_in 49 (by decide +kernel) rfl), by decide +kernel, by decide +kernel, by decide +kernel⟩
theorem mi_X6_doors : Cond.instanceMethod yX6_doors ∈ WS ∧ Cond.selects yX6_doors.cls yX6_doors yX6_doors ∈ WS := ⟨(WS_in 929 (by decide +kernel) rfl), (WS_in 35 (by decide +kernel) rfl)⟩
theorem mf_X6_ladders : MF yX6_ladders cX6_ladders 3 (some .int) 0 := ⟨(WS_in 934 (by decide +kernel) rfl), (WS_in 49 (by decide +kernel) rfl), by decide +kernel, by decide +kernel, by decide +kernel⟩
theorem mi_X6_ladders : Cond.instanceMethod yX6_ladders ∈ WS ∧ Cond.selects yX6_ladders.cls yX6_ladders yX6_ladders ∈ WS := ⟨(WS_in 933 (by decide +kernel) rfl), (WS_in 36 (by decide +kernel) rfl)⟩
theorem mf_X6_reachable : MF yX6_reachable cX6_reachable 3 (some .int) 0 := ⟨(WS_in 938 (by decide +kernel) rfl), (WS_in 49 (by decide +kernel) rfl), by decide +kernel, by decide +kernel, by decide +kernel⟩
theorem mi_X6_reachable : Cond.instanceMethod yX6_reachable ∈ WS ∧ Cond.selects yX6_reachable.cls yX6_reachable yX6_reachable ∈ WS := ⟨(WS_in 937 (by decide +kernel) rfl), (WS_in 37 (by decide +kernel) rfl)⟩
theorem mf_X6_longest : MF yX6_longest cX6_longest 3 (some .int) 0 := ⟨(WS_in 942 (by decide +kernel) rfl), (WS_in 49 (by decide +kernel) rfl), by decide +kernel, by decide +kernel, by decide +kernel⟩
theorem mi_X6_longest : Cond.instanceMethod yX6_longest ∈ WS ∧ Cond.selects yX6_longest.cls yX6_longest yX6_longest ∈ WS := ⟨(WS_in 941 (by decide +kernel) rfl), (WS_in 38 (by decide +kernel) rfl)⟩
theorem mf_X6_refusal : MF yX6_refusal cX6_refusal 2 (some .int) 1 := ⟨(WS_in 946 (by decide +kernel) rfl), (WS_in 49 (by decide +kernel) rfl), by decide +kernel, by decide +kernel, by decide +kernel⟩
theorem mi_X6_refusal : Cond.instanceMethod yX6_refusal ∈ WS ∧ Cond.selects yX6_refusal.cls yX6_refusal yX6_refusal ∈ WS := ⟨(WS_in 944 (by decide +kernel) rfl), (WS_in 945 (by decide +kernel) rfl)⟩
theorem mf_X6_ifDoor : MF yX6_ifDoor cX6_ifDoor 3 (some .int) 2 := ⟨(WS_in 950 (by decide +kernel) rfl), (WS_in 49 (by decide +kernel) rfl), by decide +kernel, by decide +kernel, by decide +kernel⟩
theorem mi_X6_ifDoor : Cond.instanceMethod yX6_ifDoor ∈ WS ∧ Cond.selects yX6_ifDoor.cls yX6_ifDoor yX6_ifDoor ∈ WS := ⟨(WS_in 948 (by decide +kernel) rfl), (WS_in 949 (by decide +kernel) rfl)⟩
theorem mf_X6_with : MF yX6_with cX6_with 3 (some .int) 2 := ⟨(WS_in 954 (by decide +kernel) rfl), (WS_in 49 (by decide +kernel) rfl), by decide +kernel, by decide +kernel, by decide +kernel⟩
theorem mi_X6_with : Cond.instanceMethod yX6_with ∈ WS ∧ Cond.selects yX6_with.cls yX6_with yX6_with ∈ WS := ⟨(WS_in 953 (by decide +kernel) rfl), (WS_in 39 (by decide +kernel) rfl)⟩
theorem mf_X6_without : MF yX6_without cX6_without 2 (some .int) 1 := ⟨(WS_in 958 (by decide +kernel) rfl), (WS_in 49 (by decide +kernel) rfl), by decide +kernel, by decide +kernel, by decide +kernel⟩
theorem mi_X6_without : Cond.instanceMethod yX6_without ∈ WS ∧ Cond.selects yX6_without.cls yX6_without yX6_without ∈ WS := ⟨(WS_in 956 (by decide +kernel) rfl), (WS_in 957 (by decide +kernel) rfl)⟩
theorem mf_X6_bestFold : MF yX6_bestFold cX6_bestFold 1 (some .int) 0 := ⟨(WS_in 962 (by decide +kernel) rfl), (WS_in 49 (by decide +kernel) rfl), by decide +kernel, by decide +kernel, by decide +kernel⟩
theorem mi_X6_bestFold : Cond.instanceMethod yX6_bestFold ∈ WS ∧ Cond.selects yX6_bestFold.cls yX6_bestFold yX6_bestFold ∈ WS := ⟨(WS_in 960 (by decide +kernel) rfl), (WS_in 961 (by decide +kernel) rfl)⟩
theorem mf_X6_best : MF yX6_best cX6_best 8 (some .int) 0 := ⟨(WS_in 966 (by decide +kernel) rfl), (WS_in 49 (by decide +kernel) rfl), by decide +kernel, by decide +kernel, by decide +kernel⟩
theorem mi_X6_best : Cond.instanceMethod yX6_best ∈ WS ∧ Cond.selects yX6_best.cls yX6_best yX6_best ∈ WS := ⟨(WS_in 965 (by decide +kernel) rfl), (WS_in 40 (by decide +kernel) rfl)⟩
theorem mf_X6_reached : MF yX6_reached cX6_reached 1 (some .double) 0 := ⟨(WS_in 970 (by decide +kernel) rfl), (WS_in 49 (by decide +kernel) rfl), by decide +kernel, by decide +kernel, by decide +kernel⟩
theorem mi_X6_reached : Cond.instanceMethod yX6_reached ∈ WS ∧ Cond.selects yX6_reached.cls yX6_reached yX6_reached ∈ WS := ⟨(WS_in 968 (by decide +kernel) rfl), (WS_in 969 (by decide +kernel) rfl)⟩
theorem mf_X6_share : MF yX6_share cX6_share 1 (some .double) 0 := ⟨(WS_in 974 (by decide +kernel) rfl), (WS_in 49 (by decide +kernel) rfl), by decide +kernel, by decide +kernel, by decide +kernel⟩
theorem mi_X6_share : Cond.instanceMethod yX6_share ∈ WS ∧ Cond.selects yX6_share.cls yX6_share yX6_share ∈ WS := ⟨(WS_in 973 (by decide +kernel) rfl), (WS_in 41 (by decide +kernel) rfl)⟩
theorem mf_X6_digest : MF yX6_digest cX6_digest 4 (some .long) 0 := ⟨(WS_in 979 (by decide +kernel) rfl), (WS_in 49 (by decide +kernel) rfl), by decide +kernel, by decide +kernel, by decide +kernel⟩
theorem mi_X6_digest : Cond.instanceMethod yX6_digest ∈ WS ∧ Cond.selects yX6_digest.cls yX6_digest yX6_digest ∈ WS := ⟨(WS_in 977 (by decide +kernel) rfl), (WS_in 978 (by decide +kernel) rfl)⟩
theorem mf_JD_dtl : MF yJD_dtl cJD_dtl 2 (some .long) 1 := ⟨(WS_in 984 (by decide +kernel) rfl), (WS_in 57 (by decide +kernel) rfl), by decide +kernel, by decide +kernel, by decide +kernel⟩
theorem ms_JD_dtl : Cond.static yJD_dtl ∈ WS := (WS_in 983 (by decide +kernel) rfl)
theorem mf_JD_isNaN : MF yJD_isNaN cJD_isNaN 2 (some .boolean) 1 := ⟨(WS_in 987 (by decide +kernel) rfl), (WS_in 57 (by decide +kernel) rfl), by decide +kernel, by decide +kernel, by decide +kernel⟩
theorem ms_JD_isNaN : Cond.static yJD_isNaN ∈ WS := (WS_in 986 (by decide +kernel) rfl)
theorem ml_RL_70 : ML RL 70 yX5_init := Or.inl (WS_in 60 (by decide +kernel) rfl)
theorem ml_RX5_9 : ML RX5 9 yX1_init := Or.inr ⟨_, List.mem_of_getElem? (i := 26) (by decide +kernel : tables_1[26]? = some (Cond.methodLinkNest RX5 9 yX1_init "FoldedKeys"))⟩
theorem ml_RX1_20 : ML RX1 20 yX0_of := Or.inl (WS_in 72 (by decide +kernel) rfl)
theorem ml_RX5_21 : ML RX5 21 yX2_init := Or.inl (WS_in 112 (by decide +kernel) rfl)
theorem ml_RX2_17 : ML RX2 17 yX1_init := Or.inr ⟨_, List.mem_of_getElem? (i := 76) (by decide +kernel : tables_1[76]? = some (Cond.methodLinkNest RX2 17 yX1_init "FoldedKeys"))⟩
theorem ml_RX5_28 : ML RX5 28 yX3_init := Or.inr ⟨_, List.mem_of_getElem? (i := 90) (by decide +kernel : tables_1[90]? = some (Cond.methodLinkNest RX5 28 yX3_init "FoldedKeys"))⟩
theorem ml_RX5_35 : ML RX5 35 yX4_init := Or.inr ⟨_, List.mem_of_getElem? (i := 117) (by decide +kernel : tables_1[117]? = some (Cond.methodLinkNest RX5 35 yX4_init "FoldedKeys"))⟩
theorem ml_RL_106 : ML RL 106 yX5_clearBuffer := Or.inl (WS_in 194 (by decide +kernel) rfl)
theorem ml_RL_110 : ML RL 110 yX5_firstError := Or.inl (WS_in 198 (by decide +kernel) rfl)
theorem ml_RX5_150 : ML RX5 150 yX5_readText := Or.inl (WS_in 202 (by decide +kernel) rfl)
theorem ml_RX5_158 : ML RX5 158 yX1_copyFrom := Or.inl (WS_in 206 (by decide +kernel) rfl)
theorem ml_RX5_217 : ML RX5 217 yX1_clear := Or.inl (WS_in 210 (by decide +kernel) rfl)
theorem ml_RX5_220 : ML RX5 220 yX4_readInto := Or.inl (WS_in 214 (by decide +kernel) rfl)
theorem ml_RX4_25 : ML RX4 25 yX4_codeAt := Or.inl (WS_in 218 (by decide +kernel) rfl)
theorem ml_RX4_29 : ML RX4 29 yX4_take := Or.inl (WS_in 222 (by decide +kernel) rfl)
theorem ml_RX4_33 : ML RX4 33 yX4_takeKey := Or.inl (WS_in 226 (by decide +kernel) rfl)
theorem ml_RX4_43 : ML RX4 43 yX1_keys := Or.inl (WS_in 230 (by decide +kernel) rfl)
theorem ml_RX4_49 : ML RX4 49 yX1_putKey := Or.inl (WS_in 234 (by decide +kernel) rfl)
theorem ml_RX1_53 : ML RX1 53 yX0_firstOf := Or.inl (WS_in 238 (by decide +kernel) rfl)
theorem ml_RX1_57 : ML RX1 57 yX0_secondOf := Or.inl (WS_in 241 (by decide +kernel) rfl)
theorem ml_RX1_60 : ML RX1 60 yX0_cellOf := Or.inl (WS_in 244 (by decide +kernel) rfl)
theorem ml_RX4_36 : ML RX4 36 yX4_takeLadder := Or.inl (WS_in 247 (by decide +kernel) rfl)
theorem ml_RX4_53 : ML RX4 53 yX1_setLadder := Or.inl (WS_in 251 (by decide +kernel) rfl)
theorem ml_RX1_50 : ML RX1 50 yX5_isCell := Or.inr ⟨_, List.mem_of_getElem? (i := 213) (by decide +kernel : tables_1[213]? = some (Cond.methodLinkNest RX1 50 yX5_isCell "FoldedKeys"))⟩
theorem ml_RX4_40 : ML RX4 40 yX4_takeDoor := Or.inl (WS_in 258 (by decide +kernel) rfl)
theorem ml_RX4_56 : ML RX4 56 yX1_setLock := Or.inl (WS_in 262 (by decide +kernel) rfl)
theorem ml_RX1_46 : ML RX1 46 yX5_isDoor := Or.inr ⟨_, List.mem_of_getElem? (i := 224) (by decide +kernel : tables_1[224]? = some (Cond.methodLinkNest RX1 46 yX5_isDoor "FoldedKeys"))⟩
theorem ml_RL_142 : ML RL 142 yX5_bestFold := Or.inl (WS_in 269 (by decide +kernel) rfl)
theorem ml_RX5_131 : ML RX5 131 yX3_run := Or.inl (WS_in 273 (by decide +kernel) rfl)
theorem ml_RX3_27 : ML RX3 27 yX3_forget := Or.inl (WS_in 277 (by decide +kernel) rfl)
theorem ml_RX3_36 : ML RX3 36 yX3_add := Or.inl (WS_in 281 (by decide +kernel) rfl)
theorem ml_RX3_54 : ML RX3 54 yX0_cellOf := Or.inl (WS_in 285 (by decide +kernel) rfl)
theorem ml_RX3_46 : ML RX3 46 yX3_codeOf := Or.inl (WS_in 286 (by decide +kernel) rfl)
theorem ml_RX3_50 : ML RX3 50 yX1_after := Or.inl (WS_in 289 (by decide +kernel) rfl)
theorem ml_RX1_73 : ML RX1 73 yX1_bowIn := Or.inl (WS_in 293 (by decide +kernel) rfl)
theorem ml_RX1_76 : ML RX1 76 yX0_swapped := Or.inl (WS_in 297 (by decide +kernel) rfl)
theorem ml_RX0_20 : ML RX0 20 yX0_cellOf := Or.inl (WS_in 300 (by decide +kernel) rfl)
theorem ml_RX0_7 : ML RX0 7 yX0_firstOf := Or.inl (WS_in 301 (by decide +kernel) rfl)
theorem ml_RX0_23 : ML RX0 23 yX0_swappedPlace := Or.inl (WS_in 302 (by decide +kernel) rfl)
theorem ml_RX0_13 : ML RX0 13 yX0_secondOf := Or.inl (WS_in 305 (by decide +kernel) rfl)
theorem ml_RX0_16 : ML RX0 16 yX0_of := Or.inl (WS_in 306 (by decide +kernel) rfl)
theorem ml_RX1_79 : ML RX1 79 yX1_targetOf := Or.inl (WS_in 307 (by decide +kernel) rfl)
theorem ml_RX1_88 : ML RX1 88 yX1_cellBelow := Or.inl (WS_in 311 (by decide +kernel) rfl)
theorem ml_RX1_66 : ML RX1 66 yX1_floorOf := Or.inl (WS_in 315 (by decide +kernel) rfl)
theorem ml_RX1_69 : ML RX1 69 yX1_byLadder := Or.inl (WS_in 319 (by decide +kernel) rfl)
theorem ml_RX1_63 : ML RX1 63 yX1_cellAbove := Or.inl (WS_in 323 (by decide +kernel) rfl)
theorem ml_RX1_82 : ML RX1 82 yX1_lockOnWay := Or.inl (WS_in 327 (by decide +kernel) rfl)
theorem ml_RX1_91 : ML RX1 91 yX1_lockBehind := Or.inl (WS_in 331 (by decide +kernel) rfl)
theorem ml_RX1_85 : ML RX1 85 yX0_movedTo := Or.inl (WS_in 335 (by decide +kernel) rfl)
theorem ml_RX5_190 : ML RX5 190 yX3_sumOfLengths := Or.inl (WS_in 338 (by decide +kernel) rfl)
theorem ml_RX3_70 : ML RX3 70 yJM_max := Or.inl (WS_in 342 (by decide +kernel) rfl)
theorem mk_RX3_70 : Cond.methodLink RX3 70 yJM_max ∈ WS := (WS_in 342 (by decide +kernel) rfl)
theorem ml_RL_146 : ML RL 146 yX5_reached := Or.inl (WS_in 345 (by decide +kernel) rfl)
theorem ml_RL_151 : ML RL 151 yX5_digest := Or.inl (WS_in 350 (by decide +kernel) rfl)
theorem ml_RX5_200 : ML RX5 200 yX5_digestOfLooks := Or.inl (WS_in 355 (by decide +kernel) rfl)
theorem ml_RX5_181 : ML RX5 181 yX5_numberInAll := Or.inl (WS_in 359 (by decide +kernel) rfl)
theorem ml_RX5_86 : ML RX5 86 yX1_keys := Or.inl (WS_in 363 (by decide +kernel) rfl)
theorem ml_RX5_242 : ML RX5 242 yX1_doors := Or.inl (WS_in 364 (by decide +kernel) rfl)
theorem ml_RX5_245 : ML RX5 245 yX1_laddersBetween := Or.inl (WS_in 368 (by decide +kernel) rfl)
theorem ml_RX5_248 : ML RX5 248 yX3_mostLength := Or.inl (WS_in 372 (by decide +kernel) rfl)
theorem ml_RX5_204 : ML RX5 204 yX5_mix := Or.inl (WS_in 376 (by decide +kernel) rfl)
theorem ml_RX5_176 : ML RX5 176 yX5_numberOfWalker := Or.inl (WS_in 380 (by decide +kernel) rfl)
theorem ml_RX5_109 : ML RX5 109 yX0_cellOf := Or.inl (WS_in 384 (by decide +kernel) rfl)
theorem ml_RX5_82 : ML RX5 82 yX1_bowIn := Or.inl (WS_in 385 (by decide +kernel) rfl)
theorem ml_RX5_171 : ML RX5 171 yX5_numberOfCell := Or.inl (WS_in 386 (by decide +kernel) rfl)
theorem ml_RX5_63 : ML RX5 63 yX1_lockBehind := Or.inl (WS_in 390 (by decide +kernel) rfl)
theorem ml_RX5_98 : ML RX5 98 yX1_ladderIn := Or.inl (WS_in 391 (by decide +kernel) rfl)
theorem ml_RX5_224 : ML RX5 224 yX1_floorOf := Or.inl (WS_in 395 (by decide +kernel) rfl)
theorem ml_RX5_227 : ML RX5 227 yX1_cellBelow := Or.inl (WS_in 396 (by decide +kernel) rfl)
theorem ml_RX5_230 : ML RX5 230 yX1_cellAbove := Or.inl (WS_in 397 (by decide +kernel) rfl)
theorem ml_RX5_134 : ML RX5 134 yX3_lengthTo := Or.inl (WS_in 398 (by decide +kernel) rfl)
theorem ml_RX3_57 : ML RX3 57 yX5_isCell := Or.inr ⟨_, List.mem_of_getElem? (i := 360) (by decide +kernel : tables_1[360]? = some (Cond.methodLinkNest RX3 57 yX5_isCell "FoldedKeys"))⟩
theorem ml_RX5_122 : ML RX5 122 yX1_reasonAgainst := Or.inl (WS_in 403 (by decide +kernel) rfl)
theorem ml_RX1_94 : ML RX1 94 yX1_after := Or.inl (WS_in 407 (by decide +kernel) rfl)
theorem ml_RX5_139 : ML RX5 139 yX3_stepTo := Or.inl (WS_in 408 (by decide +kernel) rfl)
theorem ml_RX3_61 : ML RX3 61 yX3_entryAt := Or.inl (WS_in 412 (by decide +kernel) rfl)
theorem ml_RX3_64 : ML RX3 64 yX3_beforeOf := Or.inl (WS_in 416 (by decide +kernel) rfl)
theorem ml_RX3_67 : ML RX3 67 yX3_stepOf := Or.inl (WS_in 419 (by decide +kernel) rfl)
theorem ml_RX5_187 : ML RX5 187 yX5_reachedWithoutKey := Or.inl (WS_in 422 (by decide +kernel) rfl)
theorem ml_RX5_95 : ML RX5 95 yX1_putKey := Or.inl (WS_in 426 (by decide +kernel) rfl)
theorem ml_RX5_184 : ML RX5 184 yX5_reachedWithDoor := Or.inl (WS_in 427 (by decide +kernel) rfl)
theorem ml_RX5_67 : ML RX5 67 yX1_setLock := Or.inl (WS_in 431 (by decide +kernel) rfl)
theorem ml_RX5_208 : ML RX5 208 yX5_bitsOfShare := Or.inl (WS_in 432 (by decide +kernel) rfl)
theorem ml_RX5_212 : ML RX5 212 yX4_codeAt := Or.inl (WS_in 437 (by decide +kernel) rfl)
theorem ml_RL_74 : ML RL 74 yL_door := Or.inl (WS_in 438 (by decide +kernel) rfl)
theorem ml_RL_7 : ML RL 7 yX5_door := Or.inl (WS_in 443 (by decide +kernel) rfl)
theorem ml_RX5_40 : ML RX5 40 yX5_isDoor := Or.inl (WS_in 447 (by decide +kernel) rfl)
theorem ml_RX5_51 : ML RX5 51 yX5_isBow := Or.inl (WS_in 516 (by decide +kernel) rfl)
theorem ml_RX5_59 : ML RX5 59 yX2_push := Or.inl (WS_in 535 (by decide +kernel) rfl)
theorem ml_RX2_22 : ML RX2 22 yX2_slotAt := Or.inl (WS_in 539 (by decide +kernel) rfl)
theorem ml_RX2_26 : ML RX2 26 yX1_copyFrom := Or.inl (WS_in 543 (by decide +kernel) rfl)
theorem ml_RX2_33 : ML RX2 33 yJM_min := Or.inl (WS_in 544 (by decide +kernel) rfl)
theorem mk_RX2_33 : Cond.methodLink RX2 33 yJM_min ∈ WS := (WS_in 544 (by decide +kernel) rfl)
theorem ml_RL_83 : ML RL 83 yL_key := Or.inl (WS_in 547 (by decide +kernel) rfl)
theorem ml_RL_17 : ML RL 17 yX5_key := Or.inl (WS_in 551 (by decide +kernel) rfl)
theorem ml_RX5_71 : ML RX5 71 yX5_isCell := Or.inl (WS_in 555 (by decide +kernel) rfl)
theorem ml_RL_86 : ML RL 86 yL_ladder := Or.inl (WS_in 574 (by decide +kernel) rfl)
theorem ml_RL_22 : ML RL 22 yX5_ladder := Or.inl (WS_in 577 (by decide +kernel) rfl)
theorem ml_RX5_101 : ML RX5 101 yX1_setLadder := Or.inl (WS_in 581 (by decide +kernel) rfl)
theorem ml_RL_90 : ML RL 90 yL_fold := Or.inl (WS_in 582 (by decide +kernel) rfl)
theorem ml_RL_26 : ML RL 26 yX5_fold := Or.inl (WS_in 585 (by decide +kernel) rfl)
theorem ml_RL_94 : ML RL 94 yL_stand := Or.inl (WS_in 590 (by decide +kernel) rfl)
theorem ml_RL_30 : ML RL 30 yX5_stand := Or.inl (WS_in 593 (by decide +kernel) rfl)
theorem ml_RX5_114 : ML RX5 114 yX0_movedTo := Or.inl (WS_in 597 (by decide +kernel) rfl)
theorem ml_RL_97 : ML RL 97 yL_step := Or.inl (WS_in 598 (by decide +kernel) rfl)
theorem ml_RL_33 : ML RL 33 yX5_step := Or.inl (WS_in 601 (by decide +kernel) rfl)
theorem ml_RX5_117 : ML RX5 117 yX5_isStep := Or.inl (WS_in 605 (by decide +kernel) rfl)
theorem ml_RX5_127 : ML RX5 127 yX1_take := Or.inl (WS_in 610 (by decide +kernel) rfl)
theorem ml_RL_100 : ML RL 100 yL_walk := Or.inl (WS_in 614 (by decide +kernel) rfl)
theorem ml_RL_36 : ML RL 36 yX5_walk := Or.inl (WS_in 617 (by decide +kernel) rfl)
theorem ml_RL_103 : ML RL 103 yL_append := Or.inl (WS_in 622 (by decide +kernel) rfl)
theorem ml_RL_39 : ML RL 39 yX5_append := Or.inl (WS_in 625 (by decide +kernel) rfl)
theorem ml_RX5_147 : ML RX5 147 yX4_add := Or.inl (WS_in 631 (by decide +kernel) rfl)
theorem ml_RL_114 : ML RL 114 yL_corridor := Or.inl (WS_in 635 (by decide +kernel) rfl)
theorem ml_RL_42 : ML RL 42 yX5_corridor := Or.inl (WS_in 638 (by decide +kernel) rfl)
theorem ml_RL_118 : ML RL 118 yL_undo := Or.inl (WS_in 643 (by decide +kernel) rfl)
theorem ml_RL_46 : ML RL 46 yX5_undo := Or.inl (WS_in 646 (by decide +kernel) rfl)
theorem ml_RX5_166 : ML RX5 166 yX2_popInto := Or.inl (WS_in 651 (by decide +kernel) rfl)
theorem ml_RL_121 : ML RL 121 yL_cell := Or.inl (WS_in 655 (by decide +kernel) rfl)
theorem ml_RL_49 : ML RL 49 yX5_cell := Or.inl (WS_in 658 (by decide +kernel) rfl)
theorem ml_RL_124 : ML RL 124 yL_walker := Or.inl (WS_in 663 (by decide +kernel) rfl)
theorem ml_RL_52 : ML RL 52 yX5_walker := Or.inl (WS_in 666 (by decide +kernel) rfl)
theorem ml_RL_127 : ML RL 127 yL_plan := Or.inl (WS_in 671 (by decide +kernel) rfl)
theorem ml_RL_55 : ML RL 55 yX5_plan := Or.inl (WS_in 674 (by decide +kernel) rfl)
theorem ml_RL_130 : ML RL 130 yL_count := Or.inl (WS_in 679 (by decide +kernel) rfl)
theorem ml_RL_58 : ML RL 58 yX5_count := Or.inl (WS_in 682 (by decide +kernel) rfl)
theorem ml_RL_133 : ML RL 133 yL_refusal := Or.inl (WS_in 686 (by decide +kernel) rfl)
theorem ml_RL_61 : ML RL 61 yX5_refusal := Or.inl (WS_in 689 (by decide +kernel) rfl)
theorem ml_RL_136 : ML RL 136 yL_ifDoor := Or.inl (WS_in 693 (by decide +kernel) rfl)
theorem ml_RL_64 : ML RL 64 yX5_ifDoor := Or.inl (WS_in 696 (by decide +kernel) rfl)
theorem ml_RL_139 : ML RL 139 yL_without := Or.inl (WS_in 700 (by decide +kernel) rfl)
theorem ml_RL_67 : ML RL 67 yX5_without := Or.inl (WS_in 703 (by decide +kernel) rfl)
theorem ml_RL_73 : ML RL 73 yX6_init := Or.inl (WS_in 709 (by decide +kernel) rfl)
theorem ml_RL_80 : ML RL 80 yX6_thrown := Or.inl (WS_in 768 (by decide +kernel) rfl)
theorem ml_RL_120 : ML RL 120 yX6_undo := Or.inl (WS_in 772 (by decide +kernel) rfl)
theorem ml_RX6_59 : ML RX6 59 yX6_fails := Or.inl (WS_in 776 (by decide +kernel) rfl)
theorem ml_RX6_55 : ML RX6 55 yX6_copies := Or.inl (WS_in 780 (by decide +kernel) rfl)
theorem ml_RL_79 : ML RL 79 yX6_door := Or.inl (WS_in 783 (by decide +kernel) rfl)
theorem ml_RX6_44 : ML RX6 44 yX6_in := Or.inl (WS_in 787 (by decide +kernel) rfl)
theorem ml_RX6_105 : ML RX6 105 yX6_saves := Or.inl (WS_in 790 (by decide +kernel) rfl)
theorem ml_RX6_108 : ML RX6 108 yX6_changes := Or.inl (WS_in 794 (by decide +kernel) rfl)
theorem ml_RL_85 : ML RL 85 yX6_key := Or.inl (WS_in 798 (by decide +kernel) rfl)
theorem ml_RX6_63 : ML RX6 63 yX6_isCell := Or.inl (WS_in 802 (by decide +kernel) rfl)
theorem ml_RX6_112 : ML RX6 112 yX6_keys := Or.inl (WS_in 805 (by decide +kernel) rfl)
theorem ml_RL_89 : ML RL 89 yX6_ladder := Or.inl (WS_in 809 (by decide +kernel) rfl)
theorem ml_RL_93 : ML RL 93 yX6_fold := Or.inl (WS_in 813 (by decide +kernel) rfl)
theorem ml_RL_96 : ML RL 96 yX6_stand := Or.inl (WS_in 817 (by decide +kernel) rfl)
theorem ml_RL_99 : ML RL 99 yX6_step := Or.inl (WS_in 821 (by decide +kernel) rfl)
theorem ml_RX6_116 : ML RX6 116 yX6_refused := Or.inl (WS_in 825 (by decide +kernel) rfl)
theorem ml_RX6_74 : ML RX6 74 yX6_leads := Or.inl (WS_in 828 (by decide +kernel) rfl)
theorem ml_RX6_67 : ML RX6 67 yX6_below := Or.inl (WS_in 831 (by decide +kernel) rfl)
theorem ml_RX6_71 : ML RX6 71 yX6_above := Or.inl (WS_in 834 (by decide +kernel) rfl)
theorem ml_RX6_78 : ML RX6 78 yX6_lockOn := Or.inl (WS_in 837 (by decide +kernel) rfl)
theorem ml_RX6_119 : ML RX6 119 yX6_goes := Or.inl (WS_in 840 (by decide +kernel) rfl)
theorem ml_RL_102 : ML RL 102 yX6_walk := Or.inl (WS_in 843 (by decide +kernel) rfl)
theorem ml_RX6_123 : ML RX6 123 yX6_laysNow := Or.inl (WS_in 847 (by decide +kernel) rfl)
theorem ml_RX6_98 : ML RX6 98 yX6_lays := Or.inl (WS_in 851 (by decide +kernel) rfl)
theorem ml_RX6_91 : ML RX6 91 yX6_begins := Or.inl (WS_in 855 (by decide +kernel) rfl)
theorem ml_RX6_95 : ML RX6 95 yX6_behind := Or.inl (WS_in 859 (by decide +kernel) rfl)
theorem ml_RX6_87 : ML RX6 87 yX6_changed := Or.inl (WS_in 863 (by decide +kernel) rfl)
theorem ml_RX6_102 : ML RX6 102 yX6_steps := Or.inl (WS_in 867 (by decide +kernel) rfl)
theorem ml_RX6_126 : ML RX6 126 yX6_stepAt := Or.inl (WS_in 871 (by decide +kernel) rfl)
theorem ml_RL_105 : ML RL 105 yX6_append := Or.inl (WS_in 875 (by decide +kernel) rfl)
theorem ml_RL_109 : ML RL 109 yX6_clearBuffer := Or.inl (WS_in 879 (by decide +kernel) rfl)
theorem ml_RL_113 : ML RL 113 yX6_firstError := Or.inl (WS_in 883 (by decide +kernel) rfl)
theorem ml_RX6_142 : ML RX6 142 yX6_isText := Or.inl (WS_in 887 (by decide +kernel) rfl)
theorem ml_RX6_138 : ML RX6 138 yX6_isAt := Or.inl (WS_in 891 (by decide +kernel) rfl)
theorem ml_RL_117 : ML RL 117 yX6_corridor := Or.inl (WS_in 895 (by decide +kernel) rfl)
theorem ml_RL_123 : ML RL 123 yX6_cell := Or.inl (WS_in 899 (by decide +kernel) rfl)
theorem ml_RX6_146 : ML RX6 146 yX6_ofCell := Or.inl (WS_in 903 (by decide +kernel) rfl)
theorem ml_RL_126 : ML RL 126 yX6_walker := Or.inl (WS_in 907 (by decide +kernel) rfl)
theorem ml_RL_129 : ML RL 129 yX6_plan := Or.inl (WS_in 911 (by decide +kernel) rfl)
theorem ml_RX6_149 : ML RX6 149 yX6_planned := Or.inl (WS_in 915 (by decide +kernel) rfl)
theorem ml_RL_132 : ML RL 132 yX6_count := Or.inl (WS_in 919 (by decide +kernel) rfl)
theorem ml_RX6_164 : ML RX6 164 yX6_counted := Or.inl (WS_in 923 (by decide +kernel) rfl)
theorem ml_RX6_152 : ML RX6 152 yX6_doors := Or.inl (WS_in 927 (by decide +kernel) rfl)
theorem ml_RX6_155 : ML RX6 155 yX6_ladders := Or.inl (WS_in 931 (by decide +kernel) rfl)
theorem ml_RX6_158 : ML RX6 158 yX6_reachable := Or.inl (WS_in 935 (by decide +kernel) rfl)
theorem ml_RX6_161 : ML RX6 161 yX6_longest := Or.inl (WS_in 939 (by decide +kernel) rfl)
theorem ml_RL_135 : ML RL 135 yX6_refusal := Or.inl (WS_in 943 (by decide +kernel) rfl)
theorem ml_RL_138 : ML RL 138 yX6_ifDoor := Or.inl (WS_in 947 (by decide +kernel) rfl)
theorem ml_RX6_167 : ML RX6 167 yX6_with := Or.inl (WS_in 951 (by decide +kernel) rfl)
theorem ml_RL_141 : ML RL 141 yX6_without := Or.inl (WS_in 955 (by decide +kernel) rfl)
theorem ml_RL_145 : ML RL 145 yX6_bestFold := Or.inl (WS_in 959 (by decide +kernel) rfl)
theorem ml_RX6_170 : ML RX6 170 yX6_best := Or.inl (WS_in 963 (by decide +kernel) rfl)
theorem ml_RL_150 : ML RL 150 yX6_reached := Or.inl (WS_in 967 (by decide +kernel) rfl)
theorem ml_RX6_175 : ML RX6 175 yX6_share := Or.inl (WS_in 971 (by decide +kernel) rfl)
theorem ml_RL_155 : ML RL 155 yX6_digest := Or.inl (WS_in 976 (by decide +kernel) rfl)
theorem ml_RX6_183 : ML RX6 183 yJD_dtl := Or.inl (WS_in 982 (by decide +kernel) rfl)
theorem mk_RX6_183 : Cond.methodLink RX6 183 yJD_dtl ∈ WS := (WS_in 982 (by decide +kernel) rfl)
theorem ml_RJD_122 : ML RJD 122 yJD_isNaN := Or.inl (WS_in 985 (by decide +kernel) rfl)
theorem mk_RJD_122 : Cond.methodLink RJD 122 yJD_isNaN ∈ WS := (WS_in 985 (by decide +kernel) rfl)
theorem kc_RX5_196 : Cond.constantDouble RX5 196 (4625196817309499392 : UInt64) ∈ WS := (WS_in 349 (by decide +kernel) rfl)
theorem kc_RX5_198 : Cond.constantLong RX5 198 (3319 : Int64) ∈ WS := (WS_in 354 (by decide +kernel) rfl)
theorem kc_RX5_215 : Cond.constantLong RX5 215 (31 : Int64) ∈ WS := (WS_in 379 (by decide +kernel) rfl)
theorem kc_RX5_251 : Cond.constantLong RX5 251 (1023 : Int64) ∈ WS := (WS_in 435 (by decide +kernel) rfl)
theorem kc_RX5_253 : Cond.constantLong RX5 253 (4 : Int64) ∈ WS := (WS_in 436 (by decide +kernel) rfl)
theorem kc_RX6_173 : Cond.constantDouble RX6 173 (4625196817309499392 : UInt64) ∈ WS := (WS_in 975 (by decide +kernel) rfl)
theorem kc_RX6_179 : Cond.constantLong RX6 179 (3319 : Int64) ∈ WS := (WS_in 980 (by decide +kernel) rfl)
theorem kc_RX6_181 : Cond.constantLong RX6 181 (31 : Int64) ∈ WS := (WS_in 981 (by decide +kernel) rfl)
theorem kc_RJD_137 : Cond.constantLong RJD 137 (9221120237041090560 : Int64) ∈ WS := (WS_in 991 (by decide +kernel) rfl)
end
section
/-! the landed class's own reckoning, as plain functions over int: a function a method -/
theorem iadd_ofInt (x c : Int32) (j : Int) (h : Int32.ofInt j = c) : x + Int32.ofInt j = x + c := by rw [h]
def rOf (a b c : Int32) : Int32 := a ||| (b <<< (4 &&& 31)) ||| (c <<< (9 &&& 31))
def rCell (x : Int32) : Int32 := x &&& 15
def rFst (x : Int32) : Int32 := (x >>> (4 &&& 31)) &&& 31
def rSnd (x : Int32) : Int32 := (x >>> (9 &&& 31)) &&& 31
def rMov (x c : Int32) : Int32 := rOf c (rFst x) (rSnd x)
def rSwP (a c : Int32) : Int32 := if a = 16 then c else if a = c then 16 else a
def rSwp (x : Int32) : Int32 := rOf (rCell x) (rSwP (rFst x) (rCell x)) (rSwP (rSnd x) (rCell x))
def rIn (x n : Int32) : Int32 := if x < 0 then 0 else if n ≤ x then 0 else 1
def rBowOk (x : Int32) : Int32 := if x < 0 then 0 else if 5 < x then 0 else 1
def rMix (h v : Int64) : Int64 := 31 * h + v
/-- a corridor's fields -/
abbrev cF (q1 q2 : Nat) (fb sb co le sp sw dp : Int32) : List Value := [.ref q1, .ref q2, .int fb, .int sb, .int co, .int le, .int sp, .int sw, .int dp]
def rBow (fb sb x p : Int32) : Int32 := if rFst x = p then fb else if rSnd x = p then sb else 0
def rKeys (fb sb : Int32) : Int32 := (if fb = 0 then 0 else 1) + (if sb = 0 then 0 else 1)
def rLock (lk : Nat → Int32) (c : Int32) : Int32 := if rIn c 15 = 0 then 0 else lk c.toNatClampNeg
def rLad (ld : Nat → Int32) (c : Int32) : Int32 := if rIn c 16 = 0 then 0 else ld c.toNatClampNeg
def rFloor (le c : Int32) : Int32 := if le ≤ 0 then 0 else c / le
def rByL (ld : Nat → Int32) (c p : Int32) : Int32 := if c < 0 then -1 else if 16 ≤ c then -1 else if p < 0 then -1 else if p < 16 then (if ld c.toNatClampNeg = 0 then (if ld p.toNatClampNeg = 0 then -1 else p) else p) else -1
def rBelow (ld : Nat → Int32) (le c : Int32) : Int32 := rByL ld c (2 * le * rFloor le c - 1 - c)
def rAbove (ld : Nat → Int32) (le c : Int32) : Int32 := rByL ld c (2 * le * (rFloor le c + 1) - 1 - c)
def rTgt (ld : Nat → Int32) (le c s : Int32) : Int32 := if s = 0 then (if c ≤ 0 then -1 else c - 1) else if s = 1 then (if 15 ≤ c then -1 else c + 1) else if s = 2 then rBelow ld le c else if s = 3 then rAbove ld le c else -1
def rWay (lk : Nat → Int32) (c s : Int32) : Int32 := if s = 0 then rLock lk (c - 1) else if s = 1 then rLock lk c else 0
def rAft (lk ld : Nat → Int32) (fb sb le x s : Int32) : Int32 :=
  if s = 4 then (if rBow fb sb x 16 = 0 then (if rBow fb sb x (rCell x) = 0 then -1 else rSwp x) else rSwp x)
  else if rTgt ld le (rCell x) s = -1 then -1
  else if rWay lk (rCell x) s = 0 then rMov x (rTgt ld le (rCell x) s)
  else if rWay lk (rCell x) s = rBow fb sb x 16 then rMov x (rTgt ld le (rCell x) s) else -2
def rReas (lk ld : Nat → Int32) (fb sb le x s : Int32) : Int32 := if 0 ≤ rAft lk ld fb sb le x s then 0 else - rAft lk ld fb sb le x s
/-- the array index of a tested cell -/
theorem rIn_vp {c : Int32} {n : Nat} {m : Int32} (hn : n < 2 ^ 31) (hm : m = nI n) (h : ¬ rIn c m = 0) : vp_in c n := by
  unfold rIn at h
  by_cases h1 : c < 0
  · simp [h1] at h
  · by_cases h2 : m ≤ c
    · simp [h1, h2] at h
    · obtain ⟨j, hj, rfl⟩ := nI_of h1
      subst hm
      rw [nI_leI hn hj] at h2
      exact vp_in_nI (by omega) hn
theorem vp_of {c : Int32} {n : Nat} {m : Int32} (hn : n < 2 ^ 31) (hm : m = nI n) (h1 : ¬ c < 0) (h2 : ¬ m ≤ c) : vp_in c n := rIn_vp hn hm (by simp [rIn, h1, h2])
theorem vp_ofN {c : Int32} {n : Nat} {m : Int32} (hn : n < 2 ^ 31) (hm : m = nI n) (h1 : ¬ c < 0) (h2 : c < m) : vp_in c n := by
  refine vp_of hn hm h1 (fun h => ?_)
  rw [Int32.le_iff_toInt_le] at h
  rw [Int32.lt_iff_toInt_lt] at h2
  omega
def rSetA (f : Nat → Int32) (n c v : Int32) : Nat → Int32 := if rIn c n = 0 then f else upd f c.toNatClampNeg v
def rTak (q1 q2 : Nat) (lk ld : Nat → Int32) (fb sb co le sp sw dp a : Int32) : List Value :=
  if 0 ≤ rAft lk ld fb sb le co a then cF q1 q2 fb sb (rAft lk ld fb sb le co a) le (sp + 1) (if a = 4 then sw + 1 else sw) (if rWay lk (rCell co) a = 0 then dp else dp + 1) else cF q1 q2 fb sb co le sp sw dp
def rPutP (c v : Int32) : Int32 := if v = 0 then 17 else c
/-- whether the first, or the second key is the one that is put -/
def rPut1 (co c : Int32) : Prop := rFst co = c ∨ (¬ rSnd co = c ∧ rFst co = 17)
def rPut2 (co c : Int32) : Prop := rSnd co = c ∨ rSnd co = 17
def rPut (q1 q2 : Nat) (fb sb co le sp sw dp c v : Int32) : List Value :=
  if rFst co = c then cF q1 q2 v sb (rOf (rCell co) (rPutP c v) (rSnd co)) le sp sw dp
  else if rSnd co = c then cF q1 q2 fb v (rOf (rCell co) (rFst co) (rPutP c v)) le sp sw dp
  else if rFst co = 17 then cF q1 q2 v sb (rOf (rCell co) (rPutP c v) (rSnd co)) le sp sw dp
  else if rSnd co = 17 then cF q1 q2 fb v (rOf (rCell co) (rFst co) (rPutP c v)) le sp sw dp
  else cF q1 q2 fb sb (rOf (rCell co) (rFst co) (rSnd co)) le sp sw dp
def rDoors (lk : Nat → Int32) : Nat → Int32
  | 0 => 0
  | n + 1 => if lk n = 0 then rDoors lk n else rDoors lk n + 1
def rLads (ld : Nat → Int32) (le : Int32) : Nat → Int32
  | 0 => 0
  | n + 1 => if rAbove ld le (nI n) = -1 then rLads ld le n else rLads ld le n + 1
theorem ge_nI {a i : Nat} {x y : Int32} (ha : a < 2 ^ 31) (hi : i < 2 ^ 31) (hx : x = nI a) (hy : y = nI i) : (x ≤ y) ↔ a ≤ i := by subst hx; subst hy; exact nI_leI ha hi
theorem lt_nI {a i : Nat} {x y : Int32} (ha : a < 2 ^ 31) (hi : i < 2 ^ 31) (hx : x = nI a) (hy : y = nI i) : (x < y) ↔ a < i := by subst hx; subst hy; exact nI_ltI ha hi
theorem eq_nI {a i : Nat} {x y : Int32} (ha : a < 2 ^ 31) (hi : i < 2 ^ 31) (hx : x = nI a) (hy : y = nI i) : (x = y) ↔ a = i := by subst hx; subst hy; exact nI_eq ha hi
theorem vp_nI {x : Int32} {i n : Nat} (hx : x = nI i) (h : i < n) (hn : n < 2 ^ 31) : vp_in x n := by subst hx; exact vp_in_nI h hn
theorem cl_nI {x : Int32} {i : Nat} (hx : x = nI i) (h : i < 2 ^ 31) : x.toNatClampNeg = i := by subst hx; exact nI_clamp h
theorem up_nI {x : Int32} {i : Nat} (hx : x = nI i) : x + 1 = nI (i + 1) := by subst hx; exact nI_1 i
theorem upd_cp {f g : Nat → Int32} {i : Nat} {x : Int32} (hx : x = nI i) (hi : i < 2 ^ 31) (h : ∀ j, j < i → f j = g j) : ∀ j, j < i + 1 → upd f x.toNatClampNeg (g x.toNatClampNeg) j = g j := by
  intro j hj
  rw [cl_nI hx hi]
  by_cases hji : j = i
  · subst hji; exact pk_us
  · rw [pk_un hji]; exact h j (by omega)
/-! the search -/
abbrev sF (n1 n2 n3 n4 : Nat) (sz rc : Int32) : List Value := [.ref n1, .ref n2, .ref n3, .ref n4, .int sz, .int rc]
def rCde (e : Int32) : Int32 := e &&& 16383
def rStp (e : Int32) : Int32 := (e >>> (14 &&& 31)) &&& 7
def rBef (e : Int32) : Int32 := e >>> (17 &&& 31)
def rEnt (en : Nat → Int32) (i : Int32) : Int32 := if i < 0 then 0 else if 4624 ≤ i then 0 else en i.toNatClampNeg
def rLen (ln : Nat → Int32) (c : Int32) : Int32 := if rIn c 16 = 0 then -1 else ln c.toNatClampNeg
def rChase (en : Nat → Int32) (e : Int32) : Nat → Int32
  | 0 => e
  | n + 1 => rChase en (rEnt en (rBef e)) n
def rStepTo (en nd ln : Nat → Int32) (c a : Int32) : Int32 :=
  if rIn c 16 = 0 then -1 else if a < 0 then -1 else if a < ln c.toNatClampNeg then rStp (rChase en (rEnt en (nd c.toNatClampNeg)) ((ln c.toNatClampNeg).toNatClampNeg - 1 - a.toNatClampNeg)) else -1
def rMax (a b : Int32) : Int32 := if a < b then b else a
def rMin (a b : Int32) : Int32 := if b < a then b else a
def rMost (ln : Nat → Int32) : Nat → Int32
  | 0 => 0
  | n + 1 => rMax (rMost ln n) (ln n)
def rSum (ln : Nat → Int32) : Nat → Int32
  | 0 => 0
  | n + 1 => rSum ln n + rMax 0 (ln n)
def rBit (c : Int32) : Int64 := 1 <<< ((c &&& 63).toInt64 &&& 63)
def rRow (c : Int32) : Int32 := (c >>> (6 &&& 31)) &&& 255
/-- what add makes of the search's cells -/
def rAdd (G : wG) (t t1 t2 t3 t4 : Nat) (sz rc : Int32) (en : Nat → Int32) (sn : Nat → Int64) (nd ln : Nat → Int32) (c s b l : Int32) : va_W :=
  if lg_cmp (sn (rRow c).toNatClampNeg &&& rBit c) 0 = 0 then
    if sz < 4624 then
      if ln (rCell c).toNatClampNeg = -1 then
        [(t, ob 2 (sF t1 t2 t3 t4 (sz + 1) (rc + 1))), (t1, aI G 4624 (upd en sz.toNatClampNeg (c ||| (s <<< (14 &&& 31)) ||| (b <<< (17 &&& 31))))), (t2, aJ G 256 (vp_updL sn (rRow c).toNatClampNeg (sn (rRow c).toNatClampNeg ||| rBit c))), (t3, aI G 16 (upd nd (rCell c).toNatClampNeg sz)), (t4, aI G 16 (upd ln (rCell c).toNatClampNeg l))]
      else
        [(t, ob 2 (sF t1 t2 t3 t4 (sz + 1) rc)), (t1, aI G 4624 (upd en sz.toNatClampNeg (c ||| (s <<< (14 &&& 31)) ||| (b <<< (17 &&& 31))))), (t2, aJ G 256 (vp_updL sn (rRow c).toNatClampNeg (sn (rRow c).toNatClampNeg ||| rBit c))), (t3, aI G 16 nd), (t4, aI G 16 ln)]
    else [(t, ob 2 (sF t1 t2 t3 t4 sz rc)), (t1, aI G 4624 en), (t2, aJ G 256 sn), (t3, aI G 16 nd), (t4, aI G 16 ln)]
  else [(t, ob 2 (sF t1 t2 t3 t4 sz rc)), (t1, aI G 4624 en), (t2, aJ G 256 sn), (t3, aI G 16 nd), (t4, aI G 16 ln)]
theorem upd_cpL {f g : Nat → Int64} {i : Nat} {x : Int32} (hx : x = nI i) (hi : i < 2 ^ 31) (h : ∀ j, j < i → f j = g j) : ∀ j, j < i + 1 → vp_updL f x.toNatClampNeg (g x.toNatClampNeg) j = g j := by
  intro j hj
  rw [cl_nI hx hi]
  by_cases hji : j = i
  · subst hji; exact pk_uLs
  · rw [pk_uLn hji]; exact h j (by omega)
theorem vp_small {x : Int32} {m : Int32} (k : Nat) (hm : m.toBitVec.toNat = 2 ^ k - 1) (hk : k ≤ 30) : vp_in (x &&& m) (2 ^ k) := pk_andIn x k hm hk
theorem lt_pos {j : Nat} {y : Int32} (hj : j < 2 ^ 31) (h : nI j < y) : ∃ b : Nat, b < 2 ^ 31 ∧ j < b ∧ y = nI b := by
  have h0 : ¬ y < 0 := by
    intro h1
    rw [Int32.lt_iff_toInt_lt] at h h1
    rw [nI_toInt hj] at h
    have : (0 : Int32).toInt = 0 := by decide
    omega
  obtain ⟨b, hb, rfl⟩ := nI_of h0
  exact ⟨b, hb, (nI_ltI hj hb).mp h, rfl⟩
/-! the text -/
abbrev tF (x1 : Nat) (le ce la : Int32) : List Value := [.ref x1, .int le, .int ce, .int la]
def rAt (cd : Nat → Int32) (i : Int32) : Int32 := if i < 0 then 0 else if 60 ≤ i then 0 else cd i.toNatClampNeg
def rTkB (ce b fb sb : Int32) : Int32 := if 16 ≤ ce then 0 else if b = 0 then 1 else if rKeys fb sb < 2 then 1 else 0
def rTkT (x1 : Nat) (le ce la b fb sb : Int32) : List Value := if rTkB ce b fb sb = 1 then tF x1 le (ce + 1) 1 else tF x1 le ce la
def rTkC (q1 q2 : Nat) (fb sb co le sp sw dp ce b : Int32) : List Value := if rTkB ce b fb sb = 1 then rPut q1 q2 fb sb co le sp sw dp ce b else cF q1 q2 fb sb co le sp sw dp
def rTlB (la : Int32) : Int32 := if la = 1 then 1 else 0
def rTlT (x1 : Nat) (le ce la : Int32) : List Value := if rTlB la = 1 then tF x1 le ce 2 else tF x1 le ce la
def rTlD (ld : Nat → Int32) (ce la : Int32) : Nat → Int32 := if rTlB la = 1 then rSetA ld 16 (ce - 1) 1 else ld
def rTdB (la ce : Int32) : Int32 := if la = 1 then (if ce < 16 then 1 else 0) else if la = 2 then (if ce < 16 then 1 else 0) else 0
def rTdT (x1 : Nat) (le ce la : Int32) : List Value := if rTdB la ce = 1 then tF x1 le ce 3 else tF x1 le ce la
def rTdK (lk : Nat → Int32) (ce la v : Int32) : Nat → Int32 := if rTdB la ce = 1 then rSetA lk 15 (ce - 1) v else lk
/-- what kind of sign: 0 a key's, 1 a ladder's, 2 a door's, 3 none -/
def rKind (c : Int32) : Nat := if c = 46 then 0 else if c < 49 then (if c = 124 then 1 else if c < 97 then 3 else if 101 < c then 3 else 2) else if 53 < c then (if c = 124 then 1 else if c < 97 then 3 else if 101 < c then 3 else 2) else 0
def rKey (c : Int32) : Int32 := if c = 46 then 0 else c - 48
def rTB (c ce la fb sb : Int32) : Int32 := match rKind c with | 0 => rTkB ce (rKey c) fb sb | 1 => rTlB la | 2 => rTdB la ce | _ => 0
def rTT (x1 : Nat) (c le ce la fb sb : Int32) : List Value := match rKind c with | 0 => rTkT x1 le ce la (rKey c) fb sb | 1 => rTlT x1 le ce la | 2 => rTdT x1 le ce la | _ => tF x1 le ce la
def rTC (q1 q2 : Nat) (fb sb co le sp sw dp c ce : Int32) : List Value := match rKind c with | 0 => rTkC q1 q2 fb sb co le sp sw dp ce (rKey c) | _ => cF q1 q2 fb sb co le sp sw dp
def rTK (lk : Nat → Int32) (c ce la : Int32) : Nat → Int32 := match rKind c with | 2 => rTdK lk ce la (c - 97 + 1) | _ => lk
def rTD (ld : Nat → Int32) (c ce la : Int32) : Nat → Int32 := match rKind c with | 1 => rTlD ld ce la | _ => ld
/-! the saves -/
abbrev vF (v1 : Nat) (nx sz : Int32) : List Value := [.ref v1, .int nx, .int sz]
theorem rTkB_01 (ce b fb sb : Int32) : rTkB ce b fb sb = 0 ∨ rTkB ce b fb sb = 1 := by unfold rTkB; split <;> (try split) <;> (try split) <;> simp
theorem rTlB_01 (la : Int32) : rTlB la = 0 ∨ rTlB la = 1 := by unfold rTlB; split <;> simp
theorem rTdB_01 (la ce : Int32) : rTdB la ce = 0 ∨ rTdB la ce = 1 := by unfold rTdB; split <;> (try split) <;> (try split) <;> simp
theorem rTdB_1 {la ce : Int32} (h : ¬ rTdB la ce = 0) : rTdB la ce = 1 := (rTdB_01 la ce).resolve_left h
/-- a corridor's fields as a row of seven -/
abbrev cR (a b : Nat) (s : Nat → Int32) : List Value := cF a b (s 0) (s 1) (s 2) (s 3) (s 4) (s 5) (s 6)
end
section
/-! contracts of FoldedKeys$Code, of FoldedKeys' small tests, and of the corridor without loops -/
set_option maxHeartbeats 4000000 in
set_option maxRecDepth 100000 in
theorem k_X0_of (l : Launch) (G : wG) {a b c : Int32} : Con0 l G yX0_of cX0_of 3 (some .int) 0 [.int a, .int b, .int c] [] (fun r w => r = some (.int (rOf a b c)) ∧ w = []) := by
  refine Con.mk (by decide +kernel) (Nat.le_of_ble_eq_true rfl) (fun P C Rr => ?_)
  refine st_iload_n C (dk DX0_of_0 0 rfl) rfl ?_
  refine st_iload_n C (dk DX0_of_0 1 rfl) rfl ?_
  refine st_iconst C (v := 4) (dk DX0_of_0 2 rfl) (by decide) ?_
  refine st_ishl C (dk DX0_of_0 3 rfl) ?_
  refine st_ior C (dk DX0_of_0 4 rfl) ?_
  refine st_iload_n C (dk DX0_of_0 5 rfl) rfl ?_
  refine st_bipush C (v := 9) (dk DX0_of_0 6 rfl) (by decide) ?_
  refine st_ishl C (dk DX0_of_0 7 rfl) ?_
  refine st_ior C (dk DX0_of_0 8 rfl) ?_
  exact Rr 0 0 _ _ _ _ _ _ (Nat.zero_le _) (Nat.zero_le _) (dk DX0_of_0 9 rfl) (.inr (.inl ⟨_, rfl, rfl, rfl, rfl⟩)) rfl ⟨rfl, ⟨rfl, rfl⟩⟩
set_option maxHeartbeats 4000000 in
set_option maxRecDepth 100000 in
theorem k_X0_cellOf (l : Launch) (G : wG) {x : Int32} : Con0 l G yX0_cellOf cX0_cellOf 1 (some .int) 0 [.int x] [] (fun r w => r = some (.int (rCell x)) ∧ w = []) := by
  refine Con.mk (by decide +kernel) (Nat.le_of_ble_eq_true rfl) (fun P C Rr => ?_)
  refine st_iload_n C (dk DX0_cellOf_0 0 rfl) rfl ?_
  refine st_bipush C (v := 15) (dk DX0_cellOf_0 1 rfl) (by decide) ?_
  refine st_iand C (dk DX0_cellOf_0 2 rfl) ?_
  exact Rr 0 0 _ _ _ _ _ _ (Nat.zero_le _) (Nat.zero_le _) (dk DX0_cellOf_0 3 rfl) (.inr (.inl ⟨_, rfl, rfl, rfl, rfl⟩)) rfl ⟨rfl, ⟨rfl, rfl⟩⟩
set_option maxHeartbeats 4000000 in
set_option maxRecDepth 100000 in
theorem k_X0_firstOf (l : Launch) (G : wG) {x : Int32} : Con0 l G yX0_firstOf cX0_firstOf 1 (some .int) 0 [.int x] [] (fun r w => r = some (.int (rFst x)) ∧ w = []) := by
  refine Con.mk (by decide +kernel) (Nat.le_of_ble_eq_true rfl) (fun P C Rr => ?_)
  refine st_iload_n C (dk DX0_firstOf_0 0 rfl) rfl ?_
  refine st_iconst C (v := 4) (dk DX0_firstOf_0 1 rfl) (by decide) ?_
  refine st_ishr C (dk DX0_firstOf_0 2 rfl) ?_
  refine st_bipush C (v := 31) (dk DX0_firstOf_0 3 rfl) (by decide) ?_
  refine st_iand C (dk DX0_firstOf_0 4 rfl) ?_
  exact Rr 0 0 _ _ _ _ _ _ (Nat.zero_le _) (Nat.zero_le _) (dk DX0_firstOf_0 5 rfl) (.inr (.inl ⟨_, rfl, rfl, rfl, rfl⟩)) rfl ⟨rfl, ⟨rfl, rfl⟩⟩
set_option maxHeartbeats 4000000 in
set_option maxRecDepth 100000 in
theorem k_X0_secondOf (l : Launch) (G : wG) {x : Int32} : Con0 l G yX0_secondOf cX0_secondOf 1 (some .int) 0 [.int x] [] (fun r w => r = some (.int (rSnd x)) ∧ w = []) := by
  refine Con.mk (by decide +kernel) (Nat.le_of_ble_eq_true rfl) (fun P C Rr => ?_)
  refine st_iload_n C (dk DX0_secondOf_0 0 rfl) rfl ?_
  refine st_bipush C (v := 9) (dk DX0_secondOf_0 1 rfl) (by decide) ?_
  refine st_ishr C (dk DX0_secondOf_0 2 rfl) ?_
  refine st_bipush C (v := 31) (dk DX0_secondOf_0 3 rfl) (by decide) ?_
  refine st_iand C (dk DX0_secondOf_0 4 rfl) ?_
  exact Rr 0 0 _ _ _ _ _ _ (Nat.zero_le _) (Nat.zero_le _) (dk DX0_secondOf_0 5 rfl) (.inr (.inl ⟨_, rfl, rfl, rfl, rfl⟩)) rfl ⟨rfl, ⟨rfl, rfl⟩⟩
set_option maxHeartbeats 4000000 in
set_option maxRecDepth 100000 in
theorem k_X0_movedTo (l : Launch) (G : wG) {x c : Int32} : Con0 l G yX0_movedTo cX0_movedTo 2 (some .int) 1 [.int x, .int c] [] (fun r w => r = some (.int (rMov x c)) ∧ w = []) := by
  refine Con.mk (by decide +kernel) (Nat.le_of_ble_eq_true rfl) (fun P C Rr => ?_)
  refine st_iload_n C (dk DX0_movedTo_0 0 rfl) rfl ?_
  refine st_iload_n C (dk DX0_movedTo_0 1 rfl) rfl ?_
  refine st_cS C (k_X0_firstOf l G) mf_X0_firstOf ms_X0_firstOf ml_RX0_7 (dk DX0_movedTo_0 2 rfl) [] rfl rfl rfl rfl (Nat.le_of_ble_eq_true rfl) ⟨Nat.le_of_ble_eq_true rfl, Nat.le_of_ble_eq_true rfl⟩ ⟨Nat.zero_le _, Nat.zero_le _⟩ (fun r9 w9 hq9 => ?_)
  obtain ⟨rfl, rfl⟩ := hq9
  refine st_iload_n C (dk DX0_movedTo_0 3 rfl) rfl ?_
  refine st_cS C (k_X0_secondOf l G) mf_X0_secondOf ms_X0_secondOf ml_RX0_13 (dk DX0_movedTo_0 4 rfl) [] rfl rfl rfl rfl (Nat.le_of_ble_eq_true rfl) ⟨Nat.le_of_ble_eq_true rfl, Nat.le_of_ble_eq_true rfl⟩ ⟨Nat.zero_le _, Nat.zero_le _⟩ (fun r9 w9 hq9 => ?_)
  obtain ⟨rfl, rfl⟩ := hq9
  refine st_cS C (k_X0_of l G) mf_X0_of ms_X0_of ml_RX0_16 (dk DX0_movedTo_0 5 rfl) [] rfl rfl rfl rfl (Nat.le_of_ble_eq_true rfl) ⟨Nat.le_of_ble_eq_true rfl, Nat.le_of_ble_eq_true rfl⟩ ⟨Nat.zero_le _, Nat.zero_le _⟩ (fun r9 w9 hq9 => ?_)
  obtain ⟨rfl, rfl⟩ := hq9
  exact Rr 0 0 _ _ _ _ _ _ (Nat.zero_le _) (Nat.zero_le _) (dk DX0_movedTo_0 6 rfl) (.inr (.inl ⟨_, rfl, rfl, rfl, rfl⟩)) rfl ⟨rfl, ⟨rfl, rfl⟩⟩
set_option maxHeartbeats 4000000 in
set_option maxRecDepth 100000 in
theorem k_X0_swappedPlace (l : Launch) (G : wG) {a c : Int32} : Con0 l G yX0_swappedPlace cX0_swappedPlace 2 (some .int) 0 [.int a, .int c] [] (fun r w => r = some (.int (rSwP a c)) ∧ w = []) := by
  refine Con.mk (by decide +kernel) (Nat.le_of_ble_eq_true rfl) (fun P C Rr => ?_)
  refine st_iload_n C (dk DX0_swappedPlace_0 0 rfl) rfl ?_
  refine st_bipush C (v := 16) (dk DX0_swappedPlace_0 1 rfl) (by decide) ?_
  refine st_icmp_ne C (tgt := 8) (dk DX0_swappedPlace_0 2 rfl) (by decide) (fun c_3 => ?_) (fun c_3 => ?_)
  · refine st_iload_n C (dk DX0_swappedPlace_0 5 rfl) rfl ?_
    refine st_iload_n C (dk DX0_swappedPlace_0 6 rfl) rfl ?_
    refine st_icmp_ne C (tgt := 18) (dk DX0_swappedPlace_0 7 rfl) (by decide) (fun c_10 => ?_) (fun c_10 => ?_)
    · refine st_iload_n C (dk DX0_swappedPlace_0 10 rfl) rfl ?_
      exact Rr 0 0 _ _ _ _ _ _ (Nat.zero_le _) (Nat.zero_le _) (dk DX0_swappedPlace_0 11 rfl) (.inr (.inl ⟨_, rfl, rfl, rfl, rfl⟩)) rfl ⟨rfl, ⟨by first | (simp [c_3, c_10, rSwP]; done) | (simp_all [rSwP]; done), rfl⟩⟩
    · refine st_bipush C (v := 16) (dk DX0_swappedPlace_0 8 rfl) (by decide) ?_
      refine st_goto C (tgt := 19) (dk DX0_swappedPlace_0 9 rfl) (by decide) ?_
      exact Rr 0 0 _ _ _ _ _ _ (Nat.zero_le _) (Nat.zero_le _) (dk DX0_swappedPlace_0 11 rfl) (.inr (.inl ⟨_, rfl, rfl, rfl, rfl⟩)) rfl ⟨rfl, ⟨by first | (simp [c_3, c_10, rSwP]; done) | (simp_all [rSwP]; done), rfl⟩⟩
  · refine st_iload_n C (dk DX0_swappedPlace_0 3 rfl) rfl ?_
    exact Rr 0 0 _ _ _ _ _ _ (Nat.zero_le _) (Nat.zero_le _) (dk DX0_swappedPlace_0 4 rfl) (.inr (.inl ⟨_, rfl, rfl, rfl, rfl⟩)) rfl ⟨rfl, ⟨by first | (simp [c_3, rSwP]; done) | (simp_all [rSwP]; done), rfl⟩⟩
set_option maxHeartbeats 4000000 in
set_option maxRecDepth 100000 in
theorem k_X0_swapped (l : Launch) (G : wG) {x : Int32} : Con0 l G yX0_swapped cX0_swapped 2 (some .int) 1 [.int x] [] (fun r w => r = some (.int (rSwp x)) ∧ w = []) := by
  refine Con.mk (by decide +kernel) (Nat.le_of_ble_eq_true rfl) (fun P C Rr => ?_)
  refine st_iload_n C (dk DX0_swapped_0 0 rfl) rfl ?_
  refine st_cS C (k_X0_cellOf l G) mf_X0_cellOf ms_X0_cellOf ml_RX0_20 (dk DX0_swapped_0 1 rfl) [] rfl rfl rfl rfl (Nat.le_of_ble_eq_true rfl) ⟨Nat.le_of_ble_eq_true rfl, Nat.le_of_ble_eq_true rfl⟩ ⟨Nat.zero_le _, Nat.zero_le _⟩ (fun r9 w9 hq9 => ?_)
  obtain ⟨rfl, rfl⟩ := hq9
  refine st_istore_n C (dk DX0_swapped_0 2 rfl) (by decide) rfl ?_
  refine st_iload_n C (dk DX0_swapped_0 3 rfl) rfl ?_
  refine st_iload_n C (dk DX0_swapped_0 4 rfl) rfl ?_
  refine st_cS C (k_X0_firstOf l G) mf_X0_firstOf ms_X0_firstOf ml_RX0_7 (dk DX0_swapped_0 5 rfl) [] rfl rfl rfl rfl (Nat.le_of_ble_eq_true rfl) ⟨Nat.le_of_ble_eq_true rfl, Nat.le_of_ble_eq_true rfl⟩ ⟨Nat.zero_le _, Nat.zero_le _⟩ (fun r9 w9 hq9 => ?_)
  obtain ⟨rfl, rfl⟩ := hq9
  refine st_iload_n C (dk DX0_swapped_0 6 rfl) rfl ?_
  refine st_cS C (k_X0_swappedPlace l G) mf_X0_swappedPlace ms_X0_swappedPlace ml_RX0_23 (dk DX0_swapped_0 7 rfl) [] rfl rfl rfl rfl (Nat.le_of_ble_eq_true rfl) ⟨Nat.le_of_ble_eq_true rfl, Nat.le_of_ble_eq_true rfl⟩ ⟨Nat.zero_le _, Nat.zero_le _⟩ (fun r9 w9 hq9 => ?_)
  obtain ⟨rfl, rfl⟩ := hq9
  refine st_iload_n C (dk DX0_swapped_0 8 rfl) rfl ?_
  refine st_cS C (k_X0_secondOf l G) mf_X0_secondOf ms_X0_secondOf ml_RX0_13 (dk DX0_swapped_0 9 rfl) [] rfl rfl rfl rfl (Nat.le_of_ble_eq_true rfl) ⟨Nat.le_of_ble_eq_true rfl, Nat.le_of_ble_eq_true rfl⟩ ⟨Nat.zero_le _, Nat.zero_le _⟩ (fun r9 w9 hq9 => ?_)
  obtain ⟨rfl, rfl⟩ := hq9
  refine st_iload_n C (dk DX0_swapped_0 10 rfl) rfl ?_
  refine st_cS C (k_X0_swappedPlace l G) mf_X0_swappedPlace ms_X0_swappedPlace ml_RX0_23 (dk DX0_swapped_0 11 rfl) [] rfl rfl rfl rfl (Nat.le_of_ble_eq_true rfl) ⟨Nat.le_of_ble_eq_true rfl, Nat.le_of_ble_eq_true rfl⟩ ⟨Nat.zero_le _, Nat.zero_le _⟩ (fun r9 w9 hq9 => ?_)
  obtain ⟨rfl, rfl⟩ := hq9
  refine st_cS C (k_X0_of l G) mf_X0_of ms_X0_of ml_RX0_16 (dk DX0_swapped_0 12 rfl) [] rfl rfl rfl rfl (Nat.le_of_ble_eq_true rfl) ⟨Nat.le_of_ble_eq_true rfl, Nat.le_of_ble_eq_true rfl⟩ ⟨Nat.zero_le _, Nat.zero_le _⟩ (fun r9 w9 hq9 => ?_)
  obtain ⟨rfl, rfl⟩ := hq9
  exact Rr 0 0 _ _ _ _ _ _ (Nat.zero_le _) (Nat.zero_le _) (dk DX0_swapped_0 13 rfl) (.inr (.inl ⟨_, rfl, rfl, rfl, rfl⟩)) rfl ⟨rfl, ⟨rfl, rfl⟩⟩
set_option maxHeartbeats 4000000 in
set_option maxRecDepth 100000 in
theorem k_X5_isCell (l : Launch) (G : wG) {x : Int32} : Con0 l G yX5_isCell cX5_isCell 1 (some .boolean) 0 [.int x] [] (fun r w => r = some (.int (rIn x 16)) ∧ w = []) := by
  refine Con.mk (by decide +kernel) (Nat.le_of_ble_eq_true rfl) (fun P C Rr => ?_)
  refine st_iload_n C (dk DX5_isCell_0 0 rfl) rfl ?_
  refine st_if_lt C (tgt := 14) (dk DX5_isCell_0 1 rfl) (by decide) (fun c_1 => ?_) (fun c_1 => ?_)
  · refine st_iconst C (v := 0) (dk DX5_isCell_0 7 rfl) (by decide) ?_
    exact Rr 0 0 _ _ _ _ _ _ (Nat.zero_le _) (Nat.zero_le _) (dk DX5_isCell_0 8 rfl) (.inr (.inr (.inl ⟨_, rfl, (by first | exact Or.inl rfl | exact Or.inr rfl | assumption), rfl, rfl, rfl⟩))) rfl ⟨rfl, ⟨by first | (simp [c_1, rIn]; done) | (simp_all [rIn]; done), rfl⟩⟩
  · refine st_iload_n C (dk DX5_isCell_0 2 rfl) rfl ?_
    refine st_bipush C (v := 16) (dk DX5_isCell_0 3 rfl) (by decide) ?_
    refine st_icmp_ge C (tgt := 14) (dk DX5_isCell_0 4 rfl) (by decide) (fun c_7 => ?_) (fun c_7 => ?_)
    · refine st_iconst C (v := 0) (dk DX5_isCell_0 7 rfl) (by decide) ?_
      exact Rr 0 0 _ _ _ _ _ _ (Nat.zero_le _) (Nat.zero_le _) (dk DX5_isCell_0 8 rfl) (.inr (.inr (.inl ⟨_, rfl, (by first | exact Or.inl rfl | exact Or.inr rfl | assumption), rfl, rfl, rfl⟩))) rfl ⟨rfl, ⟨by first | (simp [c_1, c_7, rIn]; done) | (simp_all [rIn]; done), rfl⟩⟩
    · refine st_iconst C (v := 1) (dk DX5_isCell_0 5 rfl) (by decide) ?_
      refine st_goto C (tgt := 15) (dk DX5_isCell_0 6 rfl) (by decide) ?_
      exact Rr 0 0 _ _ _ _ _ _ (Nat.zero_le _) (Nat.zero_le _) (dk DX5_isCell_0 8 rfl) (.inr (.inr (.inl ⟨_, rfl, (by first | exact Or.inl rfl | exact Or.inr rfl | assumption), rfl, rfl, rfl⟩))) rfl ⟨rfl, ⟨by first | (simp [c_1, c_7, rIn]; done) | (simp_all [rIn]; done), rfl⟩⟩
set_option maxHeartbeats 4000000 in
set_option maxRecDepth 100000 in
theorem k_X5_isDoor (l : Launch) (G : wG) {x : Int32} : Con0 l G yX5_isDoor cX5_isDoor 1 (some .boolean) 0 [.int x] [] (fun r w => r = some (.int (rIn x 15)) ∧ w = []) := by
  refine Con.mk (by decide +kernel) (Nat.le_of_ble_eq_true rfl) (fun P C Rr => ?_)
  refine st_iload_n C (dk DX5_isDoor_0 0 rfl) rfl ?_
  refine st_if_lt C (tgt := 14) (dk DX5_isDoor_0 1 rfl) (by decide) (fun c_1 => ?_) (fun c_1 => ?_)
  · refine st_iconst C (v := 0) (dk DX5_isDoor_0 7 rfl) (by decide) ?_
    exact Rr 0 0 _ _ _ _ _ _ (Nat.zero_le _) (Nat.zero_le _) (dk DX5_isDoor_0 8 rfl) (.inr (.inr (.inl ⟨_, rfl, (by first | exact Or.inl rfl | exact Or.inr rfl | assumption), rfl, rfl, rfl⟩))) rfl ⟨rfl, ⟨by first | (simp [c_1, rIn]; done) | (simp_all [rIn]; done), rfl⟩⟩
  · refine st_iload_n C (dk DX5_isDoor_0 2 rfl) rfl ?_
    refine st_bipush C (v := 15) (dk DX5_isDoor_0 3 rfl) (by decide) ?_
    refine st_icmp_ge C (tgt := 14) (dk DX5_isDoor_0 4 rfl) (by decide) (fun c_7 => ?_) (fun c_7 => ?_)
    · refine st_iconst C (v := 0) (dk DX5_isDoor_0 7 rfl) (by decide) ?_
      exact Rr 0 0 _ _ _ _ _ _ (Nat.zero_le _) (Nat.zero_le _) (dk DX5_isDoor_0 8 rfl) (.inr (.inr (.inl ⟨_, rfl, (by first | exact Or.inl rfl | exact Or.inr rfl | assumption), rfl, rfl, rfl⟩))) rfl ⟨rfl, ⟨by first | (simp [c_1, c_7, rIn]; done) | (simp_all [rIn]; done), rfl⟩⟩
    · refine st_iconst C (v := 1) (dk DX5_isDoor_0 5 rfl) (by decide) ?_
      refine st_goto C (tgt := 15) (dk DX5_isDoor_0 6 rfl) (by decide) ?_
      exact Rr 0 0 _ _ _ _ _ _ (Nat.zero_le _) (Nat.zero_le _) (dk DX5_isDoor_0 8 rfl) (.inr (.inr (.inl ⟨_, rfl, (by first | exact Or.inl rfl | exact Or.inr rfl | assumption), rfl, rfl, rfl⟩))) rfl ⟨rfl, ⟨by first | (simp [c_1, c_7, rIn]; done) | (simp_all [rIn]; done), rfl⟩⟩
set_option maxHeartbeats 4000000 in
set_option maxRecDepth 100000 in
theorem k_X5_isStep (l : Launch) (G : wG) {x : Int32} : Con0 l G yX5_isStep cX5_isStep 1 (some .boolean) 0 [.int x] [] (fun r w => r = some (.int (rIn x 5)) ∧ w = []) := by
  refine Con.mk (by decide +kernel) (Nat.le_of_ble_eq_true rfl) (fun P C Rr => ?_)
  refine st_iload_n C (dk DX5_isStep_0 0 rfl) rfl ?_
  refine st_if_lt C (tgt := 13) (dk DX5_isStep_0 1 rfl) (by decide) (fun c_1 => ?_) (fun c_1 => ?_)
  · refine st_iconst C (v := 0) (dk DX5_isStep_0 7 rfl) (by decide) ?_
    exact Rr 0 0 _ _ _ _ _ _ (Nat.zero_le _) (Nat.zero_le _) (dk DX5_isStep_0 8 rfl) (.inr (.inr (.inl ⟨_, rfl, (by first | exact Or.inl rfl | exact Or.inr rfl | assumption), rfl, rfl, rfl⟩))) rfl ⟨rfl, ⟨by first | (simp [c_1, rIn]; done) | (simp_all [rIn]; done), rfl⟩⟩
  · refine st_iload_n C (dk DX5_isStep_0 2 rfl) rfl ?_
    refine st_iconst C (v := 5) (dk DX5_isStep_0 3 rfl) (by decide) ?_
    refine st_icmp_ge C (tgt := 13) (dk DX5_isStep_0 4 rfl) (by decide) (fun c_6 => ?_) (fun c_6 => ?_)
    · refine st_iconst C (v := 0) (dk DX5_isStep_0 7 rfl) (by decide) ?_
      exact Rr 0 0 _ _ _ _ _ _ (Nat.zero_le _) (Nat.zero_le _) (dk DX5_isStep_0 8 rfl) (.inr (.inr (.inl ⟨_, rfl, (by first | exact Or.inl rfl | exact Or.inr rfl | assumption), rfl, rfl, rfl⟩))) rfl ⟨rfl, ⟨by first | (simp [c_1, c_6, rIn]; done) | (simp_all [rIn]; done), rfl⟩⟩
    · refine st_iconst C (v := 1) (dk DX5_isStep_0 5 rfl) (by decide) ?_
      refine st_goto C (tgt := 14) (dk DX5_isStep_0 6 rfl) (by decide) ?_
      exact Rr 0 0 _ _ _ _ _ _ (Nat.zero_le _) (Nat.zero_le _) (dk DX5_isStep_0 8 rfl) (.inr (.inr (.inl ⟨_, rfl, (by first | exact Or.inl rfl | exact Or.inr rfl | assumption), rfl, rfl, rfl⟩))) rfl ⟨rfl, ⟨by first | (simp [c_1, c_6, rIn]; done) | (simp_all [rIn]; done), rfl⟩⟩
set_option maxHeartbeats 4000000 in
set_option maxRecDepth 100000 in
theorem k_X5_isBow (l : Launch) (G : wG) {x : Int32} : Con0 l G yX5_isBow cX5_isBow 1 (some .boolean) 0 [.int x] [] (fun r w => r = some (.int (rBowOk x)) ∧ w = []) := by
  refine Con.mk (by decide +kernel) (Nat.le_of_ble_eq_true rfl) (fun P C Rr => ?_)
  refine st_iload_n C (dk DX5_isBow_0 0 rfl) rfl ?_
  refine st_if_lt C (tgt := 13) (dk DX5_isBow_0 1 rfl) (by decide) (fun c_1 => ?_) (fun c_1 => ?_)
  · refine st_iconst C (v := 0) (dk DX5_isBow_0 7 rfl) (by decide) ?_
    exact Rr 0 0 _ _ _ _ _ _ (Nat.zero_le _) (Nat.zero_le _) (dk DX5_isBow_0 8 rfl) (.inr (.inr (.inl ⟨_, rfl, (by first | exact Or.inl rfl | exact Or.inr rfl | assumption), rfl, rfl, rfl⟩))) rfl ⟨rfl, ⟨by first | (simp [c_1, rBowOk]; done) | (simp_all [rBowOk]; done), rfl⟩⟩
  · refine st_iload_n C (dk DX5_isBow_0 2 rfl) rfl ?_
    refine st_iconst C (v := 5) (dk DX5_isBow_0 3 rfl) (by decide) ?_
    refine st_icmp_gt C (tgt := 13) (dk DX5_isBow_0 4 rfl) (by decide) (fun c_6 => ?_) (fun c_6 => ?_)
    · refine st_iconst C (v := 0) (dk DX5_isBow_0 7 rfl) (by decide) ?_
      exact Rr 0 0 _ _ _ _ _ _ (Nat.zero_le _) (Nat.zero_le _) (dk DX5_isBow_0 8 rfl) (.inr (.inr (.inl ⟨_, rfl, (by first | exact Or.inl rfl | exact Or.inr rfl | assumption), rfl, rfl, rfl⟩))) rfl ⟨rfl, ⟨by first | (simp [c_1, c_6, rBowOk]; done) | (simp_all [rBowOk]; done), rfl⟩⟩
    · refine st_iconst C (v := 1) (dk DX5_isBow_0 5 rfl) (by decide) ?_
      refine st_goto C (tgt := 14) (dk DX5_isBow_0 6 rfl) (by decide) ?_
      exact Rr 0 0 _ _ _ _ _ _ (Nat.zero_le _) (Nat.zero_le _) (dk DX5_isBow_0 8 rfl) (.inr (.inr (.inl ⟨_, rfl, (by first | exact Or.inl rfl | exact Or.inr rfl | assumption), rfl, rfl, rfl⟩))) rfl ⟨rfl, ⟨by first | (simp [c_1, c_6, rBowOk]; done) | (simp_all [rBowOk]; done), rfl⟩⟩
set_option maxHeartbeats 4000000 in
set_option maxRecDepth 100000 in
theorem k_X5_mix (l : Launch) (G : wG) {h v : Int64} : Con0 l G yX5_mix cX5_mix 4 (some .long) 0 [.long h, .long v] [] (fun r w => r = some (.long (rMix h v)) ∧ w = []) := by
  refine Con.mk (by decide +kernel) (Nat.le_of_ble_eq_true rfl) (fun P C Rr => ?_)
  refine st_ldc2 C (dk DX5_mix_0 0 rfl) kc_RX5_215 ?_
  refine st_lload_n C (dk DX5_mix_0 1 rfl) rfl ?_
  refine st_lmul C (dk DX5_mix_0 2 rfl) ?_
  refine st_lload_n C (dk DX5_mix_0 3 rfl) rfl ?_
  refine st_ladd C (dk DX5_mix_0 4 rfl) ?_
  exact Rr 0 0 _ _ _ _ _ _ (Nat.zero_le _) (Nat.zero_le _) (dk DX5_mix_0 5 rfl) (.inr (.inr (.inr (.inl ⟨_, rfl, rfl, rfl, rfl⟩)))) rfl ⟨rfl, ⟨rfl, rfl⟩⟩
set_option maxHeartbeats 4000000 in
set_option maxRecDepth 100000 in
theorem k_X1_bowIn (l : Launch) (G : wG) {p q1 q2 : Nat} {fb sb co le sp sw dp : Int32} {x a : Int32} : Con0 l G yX1_bowIn cX1_bowIn 3 (some .int) 1 [.ref p, .int x, .int a] [(p, ob 0 (cF q1 q2 fb sb co le sp sw dp))] (fun r w => r = some (.int (rBow fb sb x a)) ∧ w = [(p, ob 0 (cF q1 q2 fb sb co le sp sw dp))]) := by
  refine Con.mk (by decide +kernel) (Nat.le_of_ble_eq_true rfl) (fun P C Rr => ?_)
  refine st_iload_n C (dk DX1_bowIn_0 0 rfl) rfl ?_
  refine st_cS C (k_X0_firstOf l G) mf_X0_firstOf ms_X0_firstOf ml_RX1_53 (dk DX1_bowIn_0 1 rfl) [] rfl rfl rfl rfl (Nat.le_of_ble_eq_true rfl) ⟨Nat.le_of_ble_eq_true rfl, Nat.le_of_ble_eq_true rfl⟩ ⟨Nat.zero_le _, Nat.zero_le _⟩ (fun r9 w9 hq9 => ?_)
  obtain ⟨rfl, rfl⟩ := hq9
  refine st_iload_n C (dk DX1_bowIn_0 2 rfl) rfl ?_
  refine st_icmp_ne C (tgt := 13) (dk DX1_bowIn_0 3 rfl) (by decide) (fun c_5 => ?_) (fun c_5 => ?_)
  · refine st_iload_n C (dk DX1_bowIn_0 7 rfl) rfl ?_
    refine st_cS C (k_X0_secondOf l G) mf_X0_secondOf ms_X0_secondOf ml_RX1_57 (dk DX1_bowIn_0 8 rfl) [] rfl rfl rfl rfl (Nat.le_of_ble_eq_true rfl) ⟨Nat.le_of_ble_eq_true rfl, Nat.le_of_ble_eq_true rfl⟩ ⟨Nat.zero_le _, Nat.zero_le _⟩ (fun r9 w9 hq9 => ?_)
    obtain ⟨rfl, rfl⟩ := hq9
    refine st_iload_n C (dk DX1_bowIn_0 9 rfl) rfl ?_
    refine st_icmp_ne C (tgt := 28) (dk DX1_bowIn_0 10 rfl) (by decide) (fun c_18 => ?_) (fun c_18 => ?_)
    · refine st_iconst C (v := 0) (dk DX1_bowIn_0 14 rfl) (by decide) ?_
      exact Rr 0 0 _ _ _ _ _ _ (Nat.zero_le _) (Nat.zero_le _) (dk DX1_bowIn_0 15 rfl) (.inr (.inl ⟨_, rfl, rfl, rfl, rfl⟩)) rfl ⟨rfl, ⟨by first | (simp [c_5, c_18, rBow]; done) | (simp_all [rBow]; done), rfl⟩⟩
    · refine st_aload_n C (dk DX1_bowIn_0 11 rfl) rfl ?_
      refine st_get C fl_RX1_34 (dk DX1_bowIn_0 12 rfl) 0 rfl rfl ?_
      refine st_goto C (tgt := 29) (dk DX1_bowIn_0 13 rfl) (by decide) ?_
      exact Rr 0 0 _ _ _ _ _ _ (Nat.zero_le _) (Nat.zero_le _) (dk DX1_bowIn_0 15 rfl) (.inr (.inl ⟨_, rfl, rfl, rfl, rfl⟩)) rfl ⟨rfl, ⟨by first | (simp [c_5, c_18, rBow]; done) | (simp_all [rBow]; done), rfl⟩⟩
  · refine st_aload_n C (dk DX1_bowIn_0 4 rfl) rfl ?_
    refine st_get C fl_RX1_31 (dk DX1_bowIn_0 5 rfl) 0 rfl rfl ?_
    exact Rr 0 0 _ _ _ _ _ _ (Nat.zero_le _) (Nat.zero_le _) (dk DX1_bowIn_0 6 rfl) (.inr (.inl ⟨_, rfl, rfl, rfl, rfl⟩)) rfl ⟨rfl, ⟨by first | (simp [c_5, rBow]; done) | (simp_all [rBow]; done), rfl⟩⟩
set_option maxHeartbeats 4000000 in
set_option maxRecDepth 100000 in
theorem k_X1_keys (l : Launch) (G : wG) {p q1 q2 : Nat} {fb sb co le sp sw dp : Int32} : Con0 l G yX1_keys cX1_keys 1 (some .int) 0 [.ref p] [(p, ob 0 (cF q1 q2 fb sb co le sp sw dp))] (fun r w => r = some (.int (rKeys fb sb)) ∧ w = [(p, ob 0 (cF q1 q2 fb sb co le sp sw dp))]) := by
  refine Con.mk (by decide +kernel) (Nat.le_of_ble_eq_true rfl) (fun P C Rr => ?_)
  refine st_aload_n C (dk DX1_keys_0 0 rfl) rfl ?_
  refine st_get C fl_RX1_31 (dk DX1_keys_0 1 rfl) 0 rfl rfl ?_
  refine st_if_eq C (tgt := 11) (dk DX1_keys_0 2 rfl) (by decide) (fun c_4 => ?_) (fun c_4 => ?_)
  · refine st_iconst C (v := 0) (dk DX1_keys_0 5 rfl) (by decide) ?_
    refine st_aload_n C (dk DX1_keys_0 6 rfl) rfl ?_
    refine st_get C fl_RX1_34 (dk DX1_keys_0 7 rfl) 0 rfl rfl ?_
    refine st_if_eq C (tgt := 23) (dk DX1_keys_0 8 rfl) (by decide) (fun c_16 => ?_) (fun c_16 => ?_)
    · refine st_iconst C (v := 0) (dk DX1_keys_0 11 rfl) (by decide) ?_
      refine st_iadd C (dk DX1_keys_0 12 rfl) ?_
      exact Rr 0 0 _ _ _ _ _ _ (Nat.zero_le _) (Nat.zero_le _) (dk DX1_keys_0 13 rfl) (.inr (.inl ⟨_, rfl, rfl, rfl, rfl⟩)) rfl ⟨rfl, ⟨by first | (simp [c_4, c_16, rKeys]; done) | (simp_all [rKeys]; done), rfl⟩⟩
    · refine st_iconst C (v := 1) (dk DX1_keys_0 9 rfl) (by decide) ?_
      refine st_goto C (tgt := 24) (dk DX1_keys_0 10 rfl) (by decide) ?_
      refine st_iadd C (dk DX1_keys_0 12 rfl) ?_
      exact Rr 0 0 _ _ _ _ _ _ (Nat.zero_le _) (Nat.zero_le _) (dk DX1_keys_0 13 rfl) (.inr (.inl ⟨_, rfl, rfl, rfl, rfl⟩)) rfl ⟨rfl, ⟨by first | (simp [c_4, c_16, rKeys]; done) | (simp_all [rKeys]; done), rfl⟩⟩
  · refine st_iconst C (v := 1) (dk DX1_keys_0 3 rfl) (by decide) ?_
    refine st_goto C (tgt := 12) (dk DX1_keys_0 4 rfl) (by decide) ?_
    refine st_aload_n C (dk DX1_keys_0 6 rfl) rfl ?_
    refine st_get C fl_RX1_34 (dk DX1_keys_0 7 rfl) 0 rfl rfl ?_
    refine st_if_eq C (tgt := 23) (dk DX1_keys_0 8 rfl) (by decide) (fun c_16 => ?_) (fun c_16 => ?_)
    · refine st_iconst C (v := 0) (dk DX1_keys_0 11 rfl) (by decide) ?_
      refine st_iadd C (dk DX1_keys_0 12 rfl) ?_
      exact Rr 0 0 _ _ _ _ _ _ (Nat.zero_le _) (Nat.zero_le _) (dk DX1_keys_0 13 rfl) (.inr (.inl ⟨_, rfl, rfl, rfl, rfl⟩)) rfl ⟨rfl, ⟨by first | (simp [c_4, c_16, rKeys]; done) | (simp_all [rKeys]; done), rfl⟩⟩
    · refine st_iconst C (v := 1) (dk DX1_keys_0 9 rfl) (by decide) ?_
      refine st_goto C (tgt := 24) (dk DX1_keys_0 10 rfl) (by decide) ?_
      refine st_iadd C (dk DX1_keys_0 12 rfl) ?_
      exact Rr 0 0 _ _ _ _ _ _ (Nat.zero_le _) (Nat.zero_le _) (dk DX1_keys_0 13 rfl) (.inr (.inl ⟨_, rfl, rfl, rfl, rfl⟩)) rfl ⟨rfl, ⟨by first | (simp [c_4, c_16, rKeys]; done) | (simp_all [rKeys]; done), rfl⟩⟩
set_option maxHeartbeats 4000000 in
set_option maxRecDepth 100000 in
theorem k_X1_lockBehind (l : Launch) (G : wG) {p q1 q2 : Nat} {fb sb co le sp sw dp : Int32} {lk : Nat → Int32} {c : Int32} : Con0 l G yX1_lockBehind cX1_lockBehind 2 (some .int) 1 [.ref p, .int c] [(p, ob 0 (cF q1 q2 fb sb co le sp sw dp)), (q1, aI G 15 lk)] (fun r w => r = some (.int (rLock lk c)) ∧ w = [(p, ob 0 (cF q1 q2 fb sb co le sp sw dp)), (q1, aI G 15 lk)]) := by
  refine Con.mk (by decide +kernel) (Nat.le_of_ble_eq_true rfl) (fun P C Rr => ?_)
  refine st_iload_n C (dk DX1_lockBehind_0 0 rfl) rfl ?_
  refine st_cS C (k_X5_isDoor l G) mf_X5_isDoor ms_X5_isDoor ml_RX1_46 (dk DX1_lockBehind_0 1 rfl) [] rfl rfl rfl rfl (Nat.le_of_ble_eq_true rfl) ⟨Nat.le_of_ble_eq_true rfl, Nat.le_of_ble_eq_true rfl⟩ ⟨Nat.zero_le _, Nat.zero_le _⟩ (fun r9 w9 hq9 => ?_)
  obtain ⟨rfl, rfl⟩ := hq9
  refine st_if_eq C (tgt := 16) (dk DX1_lockBehind_0 2 rfl) (by decide) (fun c_4 => ?_) (fun c_4 => ?_)
  · refine st_iconst C (v := 0) (dk DX1_lockBehind_0 8 rfl) (by decide) ?_
    exact Rr 0 0 _ _ _ _ _ _ (Nat.zero_le _) (Nat.zero_le _) (dk DX1_lockBehind_0 9 rfl) (.inr (.inl ⟨_, rfl, rfl, rfl, rfl⟩)) rfl ⟨rfl, ⟨by first | (simp [c_4, rLock]; done) | (simp_all [rLock]; done), rfl⟩⟩
  · refine st_aload_n C (dk DX1_lockBehind_0 3 rfl) rfl ?_
    refine st_get C fl_RX1_9 (dk DX1_lockBehind_0 4 rfl) 0 rfl rfl ?_
    refine st_iload_n C (dk DX1_lockBehind_0 5 rfl) rfl ?_
    refine st_iald C (dk DX1_lockBehind_0 6 rfl) 1 rfl (rIn_vp (by decide) (by decide) c_4) ?_
    refine st_goto C (tgt := 17) (dk DX1_lockBehind_0 7 rfl) (by decide) ?_
    exact Rr 0 0 _ _ _ _ _ _ (Nat.zero_le _) (Nat.zero_le _) (dk DX1_lockBehind_0 9 rfl) (.inr (.inl ⟨_, rfl, rfl, rfl, rfl⟩)) rfl ⟨rfl, ⟨by first | (simp [c_4, rLock]; done) | (simp_all [rLock]; done), rfl⟩⟩
set_option maxHeartbeats 4000000 in
set_option maxRecDepth 100000 in
theorem k_X1_ladderIn (l : Launch) (G : wG) {p q1 q2 : Nat} {fb sb co le sp sw dp : Int32} {ld : Nat → Int32} {c : Int32} : Con0 l G yX1_ladderIn cX1_ladderIn 2 (some .int) 1 [.ref p, .int c] [(p, ob 0 (cF q1 q2 fb sb co le sp sw dp)), (q2, aI G 16 ld)] (fun r w => r = some (.int (rLad ld c)) ∧ w = [(p, ob 0 (cF q1 q2 fb sb co le sp sw dp)), (q2, aI G 16 ld)]) := by
  refine Con.mk (by decide +kernel) (Nat.le_of_ble_eq_true rfl) (fun P C Rr => ?_)
  refine st_iload_n C (dk DX1_ladderIn_0 0 rfl) rfl ?_
  refine st_cS C (k_X5_isCell l G) mf_X5_isCell ms_X5_isCell ml_RX1_50 (dk DX1_ladderIn_0 1 rfl) [] rfl rfl rfl rfl (Nat.le_of_ble_eq_true rfl) ⟨Nat.le_of_ble_eq_true rfl, Nat.le_of_ble_eq_true rfl⟩ ⟨Nat.zero_le _, Nat.zero_le _⟩ (fun r9 w9 hq9 => ?_)
  obtain ⟨rfl, rfl⟩ := hq9
  refine st_if_eq C (tgt := 16) (dk DX1_ladderIn_0 2 rfl) (by decide) (fun c_4 => ?_) (fun c_4 => ?_)
  · refine st_iconst C (v := 0) (dk DX1_ladderIn_0 8 rfl) (by decide) ?_
    exact Rr 0 0 _ _ _ _ _ _ (Nat.zero_le _) (Nat.zero_le _) (dk DX1_ladderIn_0 9 rfl) (.inr (.inl ⟨_, rfl, rfl, rfl, rfl⟩)) rfl ⟨rfl, ⟨by first | (simp [c_4, rLad]; done) | (simp_all [rLad]; done), rfl⟩⟩
  · refine st_aload_n C (dk DX1_ladderIn_0 3 rfl) rfl ?_
    refine st_get C fl_RX1_15 (dk DX1_ladderIn_0 4 rfl) 0 rfl rfl ?_
    refine st_iload_n C (dk DX1_ladderIn_0 5 rfl) rfl ?_
    refine st_iald C (dk DX1_ladderIn_0 6 rfl) 1 rfl (rIn_vp (by decide) (by decide) c_4) ?_
    refine st_goto C (tgt := 17) (dk DX1_ladderIn_0 7 rfl) (by decide) ?_
    exact Rr 0 0 _ _ _ _ _ _ (Nat.zero_le _) (Nat.zero_le _) (dk DX1_ladderIn_0 9 rfl) (.inr (.inl ⟨_, rfl, rfl, rfl, rfl⟩)) rfl ⟨rfl, ⟨by first | (simp [c_4, rLad]; done) | (simp_all [rLad]; done), rfl⟩⟩
set_option maxHeartbeats 4000000 in
set_option maxRecDepth 100000 in
theorem k_X1_floorOf (l : Launch) (G : wG) {p q1 q2 : Nat} {fb sb co le sp sw dp : Int32} {c : Int32} : Con0 l G yX1_floorOf cX1_floorOf 2 (some .int) 0 [.ref p, .int c] [(p, ob 0 (cF q1 q2 fb sb co le sp sw dp))] (fun r w => r = some (.int (rFloor le c)) ∧ w = [(p, ob 0 (cF q1 q2 fb sb co le sp sw dp))]) := by
  refine Con.mk (by decide +kernel) (Nat.le_of_ble_eq_true rfl) (fun P C Rr => ?_)
  refine st_aload_n C (dk DX1_floorOf_0 0 rfl) rfl ?_
  refine st_get C fl_RX1_28 (dk DX1_floorOf_0 1 rfl) 0 rfl rfl ?_
  refine st_if_le C (tgt := 16) (dk DX1_floorOf_0 2 rfl) (by decide) (fun c_4 => ?_) (fun c_4 => ?_)
  · refine st_iconst C (v := 0) (dk DX1_floorOf_0 8 rfl) (by decide) ?_
    exact Rr 0 0 _ _ _ _ _ _ (Nat.zero_le _) (Nat.zero_le _) (dk DX1_floorOf_0 9 rfl) (.inr (.inl ⟨_, rfl, rfl, rfl, rfl⟩)) rfl ⟨rfl, ⟨by first | (simp [c_4, rFloor]; done) | (simp_all [rFloor]; done), rfl⟩⟩
  · refine st_iload_n C (dk DX1_floorOf_0 3 rfl) rfl ?_
    refine st_aload_n C (dk DX1_floorOf_0 4 rfl) rfl ?_
    refine st_get C fl_RX1_28 (dk DX1_floorOf_0 5 rfl) 0 rfl rfl ?_
    refine st_idiv C (dk DX1_floorOf_0 6 rfl) (fun h => c_4 (by rw [h]; decide)) ?_
    refine st_goto C (tgt := 17) (dk DX1_floorOf_0 7 rfl) (by decide) ?_
    exact Rr 0 0 _ _ _ _ _ _ (Nat.zero_le _) (Nat.zero_le _) (dk DX1_floorOf_0 9 rfl) (.inr (.inl ⟨_, rfl, rfl, rfl, rfl⟩)) rfl ⟨rfl, ⟨by first | (simp [c_4, rFloor]; done) | (simp_all [rFloor]; done), rfl⟩⟩
end
section
/-! contracts of the corridor -/
theorem tsw_out {x : Int32} {hi : Int} (n : Nat) (hn : (n : Int) = hi + 1) (hs : n < 2 ^ 31) (h : ∀ j, j < n → ¬ x = nI j) : x.toInt < 0 ∨ hi < x.toInt := by
  by_cases h0 : x < 0
  · rw [Int32.lt_iff_toInt_lt] at h0
    exact Or.inl h0
  · obtain ⟨j, hj, rfl⟩ := nI_of h0
    refine Or.inr ?_
    rw [nI_toInt hj]
    have : ¬ j < n := fun hl => h j hl rfl
    omega
set_option maxHeartbeats 4000000 in
set_option maxRecDepth 100000 in
theorem k_X1_byLadder (l : Launch) (G : wG) {p q1 q2 : Nat} {fb sb co le sp sw dp : Int32} {ld : Nat → Int32} {c a : Int32} : Con0 l G yX1_byLadder cX1_byLadder 3 (some .int) 0 [.ref p, .int c, .int a] [(p, ob 0 (cF q1 q2 fb sb co le sp sw dp)), (q2, aI G 16 ld)] (fun r w => r = some (.int (rByL ld c a)) ∧ w = [(p, ob 0 (cF q1 q2 fb sb co le sp sw dp)), (q2, aI G 16 ld)]) := by
  refine Con.mk (by decide +kernel) (Nat.le_of_ble_eq_true rfl) (fun P C Rr => ?_)
  refine st_iload_n C (dk DX1_byLadder_0 0 rfl) rfl ?_
  refine st_if_lt C (tgt := 20) (dk DX1_byLadder_0 1 rfl) (by decide) (fun c_1 => ?_) (fun c_1 => ?_)
  · refine st_iconst C (v := -1) (dk DX1_byLadder_0 10 rfl) (by decide) ?_
    exact Rr 0 0 _ _ _ _ _ _ (Nat.zero_le _) (Nat.zero_le _) (dk DX1_byLadder_0 11 rfl) (.inr (.inl ⟨_, rfl, rfl, rfl, rfl⟩)) rfl ⟨rfl, ⟨by first | (simp [c_1, rByL]; done) | (simp_all [rByL]; done), rfl⟩⟩
  · refine st_iload_n C (dk DX1_byLadder_0 2 rfl) rfl ?_
    refine st_bipush C (v := 16) (dk DX1_byLadder_0 3 rfl) (by decide) ?_
    refine st_icmp_ge C (tgt := 20) (dk DX1_byLadder_0 4 rfl) (by decide) (fun c_7 => ?_) (fun c_7 => ?_)
    · refine st_iconst C (v := -1) (dk DX1_byLadder_0 10 rfl) (by decide) ?_
      exact Rr 0 0 _ _ _ _ _ _ (Nat.zero_le _) (Nat.zero_le _) (dk DX1_byLadder_0 11 rfl) (.inr (.inl ⟨_, rfl, rfl, rfl, rfl⟩)) rfl ⟨rfl, ⟨by first | (simp [c_1, c_7, rByL]; done) | (simp_all [rByL]; done), rfl⟩⟩
    · refine st_iload_n C (dk DX1_byLadder_0 5 rfl) rfl ?_
      refine st_if_lt C (tgt := 20) (dk DX1_byLadder_0 6 rfl) (by decide) (fun c_11 => ?_) (fun c_11 => ?_)
      · refine st_iconst C (v := -1) (dk DX1_byLadder_0 10 rfl) (by decide) ?_
        exact Rr 0 0 _ _ _ _ _ _ (Nat.zero_le _) (Nat.zero_le _) (dk DX1_byLadder_0 11 rfl) (.inr (.inl ⟨_, rfl, rfl, rfl, rfl⟩)) rfl ⟨rfl, ⟨by first | (simp [c_1, c_7, c_11, rByL]; done) | (simp_all [rByL]; done), rfl⟩⟩
      · refine st_iload_n C (dk DX1_byLadder_0 7 rfl) rfl ?_
        refine st_bipush C (v := 16) (dk DX1_byLadder_0 8 rfl) (by decide) ?_
        refine st_icmp_lt C (tgt := 22) (dk DX1_byLadder_0 9 rfl) (by decide) (fun c_17 => ?_) (fun c_17 => ?_)
        · refine st_aload_n C (dk DX1_byLadder_0 12 rfl) rfl ?_
          refine st_get C fl_RX1_15 (dk DX1_byLadder_0 13 rfl) 0 rfl rfl ?_
          refine st_iload_n C (dk DX1_byLadder_0 14 rfl) rfl ?_
          refine st_iald C (dk DX1_byLadder_0 15 rfl) 1 rfl (vp_of (by decide) (by decide) c_1 c_7) ?_
          refine st_if_ne C (tgt := 40) (dk DX1_byLadder_0 16 rfl) (by decide) (fun c_28 => ?_) (fun c_28 => ?_)
          · refine st_iload_n C (dk DX1_byLadder_0 22 rfl) rfl ?_
            refine st_goto C (tgt := 45) (dk DX1_byLadder_0 23 rfl) (by decide) ?_
            exact Rr 0 0 _ _ _ _ _ _ (Nat.zero_le _) (Nat.zero_le _) (dk DX1_byLadder_0 25 rfl) (.inr (.inl ⟨_, rfl, rfl, rfl, rfl⟩)) rfl ⟨rfl, ⟨by first | (simp [c_1, c_7, c_11, c_17, c_28, rByL]; done) | (simp_all [rByL]; done), rfl⟩⟩
          · refine st_aload_n C (dk DX1_byLadder_0 17 rfl) rfl ?_
            refine st_get C fl_RX1_15 (dk DX1_byLadder_0 18 rfl) 0 rfl rfl ?_
            refine st_iload_n C (dk DX1_byLadder_0 19 rfl) rfl ?_
            refine st_iald C (dk DX1_byLadder_0 20 rfl) 1 rfl (vp_ofN (by decide) (by decide) c_11 c_17) ?_
            refine st_if_eq C (tgt := 44) (dk DX1_byLadder_0 21 rfl) (by decide) (fun c_37 => ?_) (fun c_37 => ?_)
            · refine st_iconst C (v := -1) (dk DX1_byLadder_0 24 rfl) (by decide) ?_
              exact Rr 0 0 _ _ _ _ _ _ (Nat.zero_le _) (Nat.zero_le _) (dk DX1_byLadder_0 25 rfl) (.inr (.inl ⟨_, rfl, rfl, rfl, rfl⟩)) rfl ⟨rfl, ⟨by first | (simp [c_1, c_7, c_11, c_17, c_28, c_37, rByL]; done) | (simp_all [rByL]; done), rfl⟩⟩
            · refine st_iload_n C (dk DX1_byLadder_0 22 rfl) rfl ?_
              refine st_goto C (tgt := 45) (dk DX1_byLadder_0 23 rfl) (by decide) ?_
              exact Rr 0 0 _ _ _ _ _ _ (Nat.zero_le _) (Nat.zero_le _) (dk DX1_byLadder_0 25 rfl) (.inr (.inl ⟨_, rfl, rfl, rfl, rfl⟩)) rfl ⟨rfl, ⟨by first | (simp [c_1, c_7, c_11, c_17, c_28, c_37, rByL]; done) | (simp_all [rByL]; done), rfl⟩⟩
        · refine st_iconst C (v := -1) (dk DX1_byLadder_0 10 rfl) (by decide) ?_
          exact Rr 0 0 _ _ _ _ _ _ (Nat.zero_le _) (Nat.zero_le _) (dk DX1_byLadder_0 11 rfl) (.inr (.inl ⟨_, rfl, rfl, rfl, rfl⟩)) rfl ⟨rfl, ⟨by first | (simp [c_1, c_7, c_11, c_17, rByL]; done) | (simp_all [rByL]; done), rfl⟩⟩
set_option maxHeartbeats 4000000 in
set_option maxRecDepth 100000 in
theorem k_X1_cellBelow (l : Launch) (G : wG) {p q1 q2 : Nat} {fb sb co le sp sw dp : Int32} {ld : Nat → Int32} {c : Int32} : Con0 l G yX1_cellBelow cX1_cellBelow 2 (some .int) 1 [.ref p, .int c] [(p, ob 0 (cF q1 q2 fb sb co le sp sw dp)), (q2, aI G 16 ld)] (fun r w => r = some (.int (rBelow ld le c)) ∧ w = [(p, ob 0 (cF q1 q2 fb sb co le sp sw dp)), (q2, aI G 16 ld)]) := by
  refine Con.mk (by decide +kernel) (Nat.le_of_ble_eq_true rfl) (fun P C Rr => ?_)
  refine st_aload_n C (dk DX1_cellBelow_0 0 rfl) rfl ?_
  refine st_iload_n C (dk DX1_cellBelow_0 1 rfl) rfl ?_
  refine st_iconst C (v := 2) (dk DX1_cellBelow_0 2 rfl) (by decide) ?_
  refine st_aload_n C (dk DX1_cellBelow_0 3 rfl) rfl ?_
  refine st_get C fl_RX1_28 (dk DX1_cellBelow_0 4 rfl) 0 rfl rfl ?_
  refine st_imul C (dk DX1_cellBelow_0 5 rfl) ?_
  refine st_aload_n C (dk DX1_cellBelow_0 6 rfl) rfl ?_
  refine st_iload_n C (dk DX1_cellBelow_0 7 rfl) rfl ?_
  refine st_cV C (k_X1_floorOf l G) mf_X1_floorOf mi_X1_floorOf ml_RX1_66 (dk DX1_cellBelow_0 8 rfl) [0] rfl rfl rfl rfl (Nat.le_of_ble_eq_true rfl) rfl rfl ⟨Nat.le_of_ble_eq_true rfl, Nat.le_of_ble_eq_true rfl⟩ ⟨Nat.zero_le _, Nat.zero_le _⟩ (fun r9 w9 hq9 => ?_)
  obtain ⟨rfl, rfl⟩ := hq9
  refine st_imul C (dk DX1_cellBelow_0 9 rfl) ?_
  refine st_iconst C (v := 1) (dk DX1_cellBelow_0 10 rfl) (by decide) ?_
  refine st_isub C (dk DX1_cellBelow_0 11 rfl) ?_
  refine st_iload_n C (dk DX1_cellBelow_0 12 rfl) rfl ?_
  refine st_isub C (dk DX1_cellBelow_0 13 rfl) ?_
  refine st_cV C (k_X1_byLadder l G) mf_X1_byLadder mi_X1_byLadder ml_RX1_69 (dk DX1_cellBelow_0 14 rfl) [0, 1] rfl rfl rfl rfl (Nat.le_of_ble_eq_true rfl) rfl rfl ⟨Nat.le_of_ble_eq_true rfl, Nat.le_of_ble_eq_true rfl⟩ ⟨Nat.zero_le _, Nat.zero_le _⟩ (fun r9 w9 hq9 => ?_)
  obtain ⟨rfl, rfl⟩ := hq9
  exact Rr 0 0 _ _ _ _ _ _ (Nat.zero_le _) (Nat.zero_le _) (dk DX1_cellBelow_0 15 rfl) (.inr (.inl ⟨_, rfl, rfl, rfl, rfl⟩)) rfl ⟨rfl, ⟨rfl, rfl⟩⟩
set_option maxHeartbeats 4000000 in
set_option maxRecDepth 100000 in
theorem k_X1_cellAbove (l : Launch) (G : wG) {p q1 q2 : Nat} {fb sb co le sp sw dp : Int32} {ld : Nat → Int32} {c : Int32} : Con0 l G yX1_cellAbove cX1_cellAbove 2 (some .int) 1 [.ref p, .int c] [(p, ob 0 (cF q1 q2 fb sb co le sp sw dp)), (q2, aI G 16 ld)] (fun r w => r = some (.int (rAbove ld le c)) ∧ w = [(p, ob 0 (cF q1 q2 fb sb co le sp sw dp)), (q2, aI G 16 ld)]) := by
  refine Con.mk (by decide +kernel) (Nat.le_of_ble_eq_true rfl) (fun P C Rr => ?_)
  refine st_aload_n C (dk DX1_cellAbove_0 0 rfl) rfl ?_
  refine st_iload_n C (dk DX1_cellAbove_0 1 rfl) rfl ?_
  refine st_iconst C (v := 2) (dk DX1_cellAbove_0 2 rfl) (by decide) ?_
  refine st_aload_n C (dk DX1_cellAbove_0 3 rfl) rfl ?_
  refine st_get C fl_RX1_28 (dk DX1_cellAbove_0 4 rfl) 0 rfl rfl ?_
  refine st_imul C (dk DX1_cellAbove_0 5 rfl) ?_
  refine st_aload_n C (dk DX1_cellAbove_0 6 rfl) rfl ?_
  refine st_iload_n C (dk DX1_cellAbove_0 7 rfl) rfl ?_
  refine st_cV C (k_X1_floorOf l G) mf_X1_floorOf mi_X1_floorOf ml_RX1_66 (dk DX1_cellAbove_0 8 rfl) [0] rfl rfl rfl rfl (Nat.le_of_ble_eq_true rfl) rfl rfl ⟨Nat.le_of_ble_eq_true rfl, Nat.le_of_ble_eq_true rfl⟩ ⟨Nat.zero_le _, Nat.zero_le _⟩ (fun r9 w9 hq9 => ?_)
  obtain ⟨rfl, rfl⟩ := hq9
  refine st_iconst C (v := 1) (dk DX1_cellAbove_0 9 rfl) (by decide) ?_
  refine st_iadd C (dk DX1_cellAbove_0 10 rfl) ?_
  refine st_imul C (dk DX1_cellAbove_0 11 rfl) ?_
  refine st_iconst C (v := 1) (dk DX1_cellAbove_0 12 rfl) (by decide) ?_
  refine st_isub C (dk DX1_cellAbove_0 13 rfl) ?_
  refine st_iload_n C (dk DX1_cellAbove_0 14 rfl) rfl ?_
  refine st_isub C (dk DX1_cellAbove_0 15 rfl) ?_
  refine st_cV C (k_X1_byLadder l G) mf_X1_byLadder mi_X1_byLadder ml_RX1_69 (dk DX1_cellAbove_0 16 rfl) [0, 1] rfl rfl rfl rfl (Nat.le_of_ble_eq_true rfl) rfl rfl ⟨Nat.le_of_ble_eq_true rfl, Nat.le_of_ble_eq_true rfl⟩ ⟨Nat.zero_le _, Nat.zero_le _⟩ (fun r9 w9 hq9 => ?_)
  obtain ⟨rfl, rfl⟩ := hq9
  exact Rr 0 0 _ _ _ _ _ _ (Nat.zero_le _) (Nat.zero_le _) (dk DX1_cellAbove_0 17 rfl) (.inr (.inl ⟨_, rfl, rfl, rfl, rfl⟩)) rfl ⟨rfl, ⟨rfl, rfl⟩⟩
set_option maxHeartbeats 4000000 in
set_option maxRecDepth 100000 in
theorem k_X1_targetOf (l : Launch) (G : wG) {p q1 q2 : Nat} {fb sb co le sp sw dp : Int32} {ld : Nat → Int32} {c a : Int32} : Con0 l G yX1_targetOf cX1_targetOf 3 (some .int) 2 [.ref p, .int c, .int a] [(p, ob 0 (cF q1 q2 fb sb co le sp sw dp)), (q2, aI G 16 ld)] (fun r w => r = some (.int (rTgt ld le c a)) ∧ w = [(p, ob 0 (cF q1 q2 fb sb co le sp sw dp)), (q2, aI G 16 ld)]) := by
  refine Con.mk (by decide +kernel) (Nat.le_of_ble_eq_true rfl) (fun P C Rr => ?_)
  refine st_iload_n C (dk DX1_targetOf_0 0 rfl) rfl ?_
  by_cases t_1_0 : a = 0
  · refine st_tswIn C (off := 31) (tgt := 32) (dk DX1_targetOf_0 1 rfl) (by rw [t_1_0]; decide) (by rw [t_1_0]; decide) (by rw [t_1_0]; rfl) (by decide) ?_
    refine st_iload_n C (dk DX1_targetOf_0 2 rfl) rfl ?_
    refine st_if_le C (tgt := 42) (dk DX1_targetOf_0 3 rfl) (by decide) (fun c_33 => ?_) (fun c_33 => ?_)
    · refine st_iconst C (v := -1) (dk DX1_targetOf_0 8 rfl) (by decide) ?_
      exact Rr 0 0 _ _ _ _ _ _ (Nat.zero_le _) (Nat.zero_le _) (dk DX1_targetOf_0 9 rfl) (.inr (.inl ⟨_, rfl, rfl, rfl, rfl⟩)) rfl ⟨rfl, ⟨by first | (simp [t_1_0, c_33, rTgt]; done) | (simp_all [rTgt]; done), rfl⟩⟩
    · refine st_iload_n C (dk DX1_targetOf_0 4 rfl) rfl ?_
      refine st_iconst C (v := 1) (dk DX1_targetOf_0 5 rfl) (by decide) ?_
      refine st_isub C (dk DX1_targetOf_0 6 rfl) ?_
      refine st_goto C (tgt := 43) (dk DX1_targetOf_0 7 rfl) (by decide) ?_
      exact Rr 0 0 _ _ _ _ _ _ (Nat.zero_le _) (Nat.zero_le _) (dk DX1_targetOf_0 9 rfl) (.inr (.inl ⟨_, rfl, rfl, rfl, rfl⟩)) rfl ⟨rfl, ⟨by first | (simp [t_1_0, c_33, rTgt]; done) | (simp_all [rTgt]; done), rfl⟩⟩
  by_cases t_1_1 : a = 1
  · refine st_tswIn C (off := 43) (tgt := 44) (dk DX1_targetOf_0 1 rfl) (by rw [t_1_1]; decide) (by rw [t_1_1]; decide) (by rw [t_1_1]; rfl) (by decide) ?_
    refine st_iload_n C (dk DX1_targetOf_0 10 rfl) rfl ?_
    refine st_bipush C (v := 15) (dk DX1_targetOf_0 11 rfl) (by decide) ?_
    refine st_icmp_ge C (tgt := 56) (dk DX1_targetOf_0 12 rfl) (by decide) (fun c_47 => ?_) (fun c_47 => ?_)
    · refine st_iconst C (v := -1) (dk DX1_targetOf_0 17 rfl) (by decide) ?_
      exact Rr 0 0 _ _ _ _ _ _ (Nat.zero_le _) (Nat.zero_le _) (dk DX1_targetOf_0 18 rfl) (.inr (.inl ⟨_, rfl, rfl, rfl, rfl⟩)) rfl ⟨rfl, ⟨by first | (simp [t_1_1, c_47, rTgt]; done) | (simp_all [rTgt]; done), rfl⟩⟩
    · refine st_iload_n C (dk DX1_targetOf_0 13 rfl) rfl ?_
      refine st_iconst C (v := 1) (dk DX1_targetOf_0 14 rfl) (by decide) ?_
      refine st_iadd C (dk DX1_targetOf_0 15 rfl) ?_
      refine st_goto C (tgt := 57) (dk DX1_targetOf_0 16 rfl) (by decide) ?_
      exact Rr 0 0 _ _ _ _ _ _ (Nat.zero_le _) (Nat.zero_le _) (dk DX1_targetOf_0 18 rfl) (.inr (.inl ⟨_, rfl, rfl, rfl, rfl⟩)) rfl ⟨rfl, ⟨by first | (simp [t_1_1, c_47, rTgt]; done) | (simp_all [rTgt]; done), rfl⟩⟩
  by_cases t_1_2 : a = 2
  · refine st_tswIn C (off := 57) (tgt := 58) (dk DX1_targetOf_0 1 rfl) (by rw [t_1_2]; decide) (by rw [t_1_2]; decide) (by rw [t_1_2]; rfl) (by decide) ?_
    refine st_aload_n C (dk DX1_targetOf_0 19 rfl) rfl ?_
    refine st_iload_n C (dk DX1_targetOf_0 20 rfl) rfl ?_
    refine st_cV C (k_X1_cellBelow l G) mf_X1_cellBelow mi_X1_cellBelow ml_RX1_88 (dk DX1_targetOf_0 21 rfl) [0, 1] rfl rfl rfl rfl (Nat.le_of_ble_eq_true rfl) rfl rfl ⟨Nat.le_of_ble_eq_true rfl, Nat.le_of_ble_eq_true rfl⟩ ⟨Nat.zero_le _, Nat.zero_le _⟩ (fun r9 w9 hq9 => ?_)
    obtain ⟨rfl, rfl⟩ := hq9
    exact Rr 0 0 _ _ _ _ _ _ (Nat.zero_le _) (Nat.zero_le _) (dk DX1_targetOf_0 22 rfl) (.inr (.inl ⟨_, rfl, rfl, rfl, rfl⟩)) rfl ⟨rfl, ⟨by first | (simp [t_1_2, rTgt]; done) | (simp_all [rTgt]; done), rfl⟩⟩
  by_cases t_1_3 : a = 3
  · refine st_tswIn C (off := 63) (tgt := 64) (dk DX1_targetOf_0 1 rfl) (by rw [t_1_3]; decide) (by rw [t_1_3]; decide) (by rw [t_1_3]; rfl) (by decide) ?_
    refine st_aload_n C (dk DX1_targetOf_0 23 rfl) rfl ?_
    refine st_iload_n C (dk DX1_targetOf_0 24 rfl) rfl ?_
    refine st_cV C (k_X1_cellAbove l G) mf_X1_cellAbove mi_X1_cellAbove ml_RX1_63 (dk DX1_targetOf_0 25 rfl) [0, 1] rfl rfl rfl rfl (Nat.le_of_ble_eq_true rfl) rfl rfl ⟨Nat.le_of_ble_eq_true rfl, Nat.le_of_ble_eq_true rfl⟩ ⟨Nat.zero_le _, Nat.zero_le _⟩ (fun r9 w9 hq9 => ?_)
    obtain ⟨rfl, rfl⟩ := hq9
    exact Rr 0 0 _ _ _ _ _ _ (Nat.zero_le _) (Nat.zero_le _) (dk DX1_targetOf_0 26 rfl) (.inr (.inl ⟨_, rfl, rfl, rfl, rfl⟩)) rfl ⟨rfl, ⟨by first | (simp [t_1_3, rTgt]; done) | (simp_all [rTgt]; done), rfl⟩⟩
  refine st_tswOut C (tgt := 70) (dk DX1_targetOf_0 1 rfl) (tsw_out 4 (by decide) (by decide) (fun j hj => match j, hj with | 0, _ => t_1_0 | 1, _ => t_1_1 | 2, _ => t_1_2 | 3, _ => t_1_3)) (by decide) ?_
  refine st_iconst C (v := -1) (dk DX1_targetOf_0 27 rfl) (by decide) ?_
  exact Rr 0 0 _ _ _ _ _ _ (Nat.zero_le _) (Nat.zero_le _) (dk DX1_targetOf_0 28 rfl) (.inr (.inl ⟨_, rfl, rfl, rfl, rfl⟩)) rfl ⟨rfl, ⟨by first | (simp [t_1_0, t_1_1, t_1_2, t_1_3, rTgt]; done) | (simp_all [rTgt]; done), rfl⟩⟩
set_option maxHeartbeats 4000000 in
set_option maxRecDepth 100000 in
theorem k_X1_lockOnWay (l : Launch) (G : wG) {p q1 q2 : Nat} {fb sb co le sp sw dp : Int32} {lk : Nat → Int32} {c a : Int32} : Con0 l G yX1_lockOnWay cX1_lockOnWay 3 (some .int) 2 [.ref p, .int c, .int a] [(p, ob 0 (cF q1 q2 fb sb co le sp sw dp)), (q1, aI G 15 lk)] (fun r w => r = some (.int (rWay lk c a)) ∧ w = [(p, ob 0 (cF q1 q2 fb sb co le sp sw dp)), (q1, aI G 15 lk)]) := by
  refine Con.mk (by decide +kernel) (Nat.le_of_ble_eq_true rfl) (fun P C Rr => ?_)
  refine st_iload_n C (dk DX1_lockOnWay_0 0 rfl) rfl ?_
  refine st_if_ne C (tgt := 12) (dk DX1_lockOnWay_0 1 rfl) (by decide) (fun c_1 => ?_) (fun c_1 => ?_)
  · refine st_iload_n C (dk DX1_lockOnWay_0 8 rfl) rfl ?_
    refine st_iconst C (v := 1) (dk DX1_lockOnWay_0 9 rfl) (by decide) ?_
    refine st_icmp_ne C (tgt := 25) (dk DX1_lockOnWay_0 10 rfl) (by decide) (fun c_14 => ?_) (fun c_14 => ?_)
    · refine st_iconst C (v := 0) (dk DX1_lockOnWay_0 15 rfl) (by decide) ?_
      exact Rr 0 0 _ _ _ _ _ _ (Nat.zero_le _) (Nat.zero_le _) (dk DX1_lockOnWay_0 16 rfl) (.inr (.inl ⟨_, rfl, rfl, rfl, rfl⟩)) rfl ⟨rfl, ⟨by first | (simp [c_1, c_14, rWay]; done) | (simp_all [rWay]; done), rfl⟩⟩
    · refine st_aload_n C (dk DX1_lockOnWay_0 11 rfl) rfl ?_
      refine st_iload_n C (dk DX1_lockOnWay_0 12 rfl) rfl ?_
      refine st_cV C (k_X1_lockBehind l G) mf_X1_lockBehind mi_X1_lockBehind ml_RX1_91 (dk DX1_lockOnWay_0 13 rfl) [0, 1] rfl rfl rfl rfl (Nat.le_of_ble_eq_true rfl) rfl rfl ⟨Nat.le_of_ble_eq_true rfl, Nat.le_of_ble_eq_true rfl⟩ ⟨Nat.zero_le _, Nat.zero_le _⟩ (fun r9 w9 hq9 => ?_)
      obtain ⟨rfl, rfl⟩ := hq9
      refine st_goto C (tgt := 26) (dk DX1_lockOnWay_0 14 rfl) (by decide) ?_
      exact Rr 0 0 _ _ _ _ _ _ (Nat.zero_le _) (Nat.zero_le _) (dk DX1_lockOnWay_0 16 rfl) (.inr (.inl ⟨_, rfl, rfl, rfl, rfl⟩)) rfl ⟨rfl, ⟨by first | (simp [c_1, c_14, rWay]; done) | (simp_all [rWay]; done), rfl⟩⟩
  · refine st_aload_n C (dk DX1_lockOnWay_0 2 rfl) rfl ?_
    refine st_iload_n C (dk DX1_lockOnWay_0 3 rfl) rfl ?_
    refine st_iconst C (v := 1) (dk DX1_lockOnWay_0 4 rfl) (by decide) ?_
    refine st_isub C (dk DX1_lockOnWay_0 5 rfl) ?_
    refine st_cV C (k_X1_lockBehind l G) mf_X1_lockBehind mi_X1_lockBehind ml_RX1_91 (dk DX1_lockOnWay_0 6 rfl) [0, 1] rfl rfl rfl rfl (Nat.le_of_ble_eq_true rfl) rfl rfl ⟨Nat.le_of_ble_eq_true rfl, Nat.le_of_ble_eq_true rfl⟩ ⟨Nat.zero_le _, Nat.zero_le _⟩ (fun r9 w9 hq9 => ?_)
    obtain ⟨rfl, rfl⟩ := hq9
    exact Rr 0 0 _ _ _ _ _ _ (Nat.zero_le _) (Nat.zero_le _) (dk DX1_lockOnWay_0 7 rfl) (.inr (.inl ⟨_, rfl, rfl, rfl, rfl⟩)) rfl ⟨rfl, ⟨by first | (simp [c_1, rWay]; done) | (simp_all [rWay]; done), rfl⟩⟩
set_option maxHeartbeats 4000000 in
set_option maxRecDepth 100000 in
theorem k_X1_after (l : Launch) (G : wG) {p q1 q2 : Nat} {fb sb co le sp sw dp : Int32} {lk ld : Nat → Int32} {x a : Int32} : Con0 l G yX1_after cX1_after 6 (some .int) 3 [.ref p, .int x, .int a] [(p, ob 0 (cF q1 q2 fb sb co le sp sw dp)), (q1, aI G 15 lk), (q2, aI G 16 ld)] (fun r w => r = some (.int (rAft lk ld fb sb le x a)) ∧ w = [(p, ob 0 (cF q1 q2 fb sb co le sp sw dp)), (q1, aI G 15 lk), (q2, aI G 16 ld)]) := by
  refine Con.mk (by decide +kernel) (Nat.le_of_ble_eq_true rfl) (fun P C Rr => ?_)
  refine st_iload_n C (dk DX1_after_0 0 rfl) rfl ?_
  refine st_cS C (k_X0_cellOf l G) mf_X0_cellOf ms_X0_cellOf ml_RX1_60 (dk DX1_after_0 1 rfl) [] rfl rfl rfl rfl (Nat.le_of_ble_eq_true rfl) ⟨Nat.le_of_ble_eq_true rfl, Nat.le_of_ble_eq_true rfl⟩ ⟨Nat.zero_le _, Nat.zero_le _⟩ (fun r9 w9 hq9 => ?_)
  obtain ⟨rfl, rfl⟩ := hq9
  refine st_istore_n C (dk DX1_after_0 2 rfl) (by decide) rfl ?_
  refine st_iload_n C (dk DX1_after_0 3 rfl) rfl ?_
  refine st_iconst C (v := 4) (dk DX1_after_0 4 rfl) (by decide) ?_
  refine st_icmp_ne C (tgt := 50) (dk DX1_after_0 5 rfl) (by decide) (fun c_7 => ?_) (fun c_7 => ?_)
  · refine st_aload_n C (dk DX1_after_0 27 rfl) rfl ?_
    refine st_iload_n C (dk DX1_after_0 28 rfl) rfl ?_
    refine st_iload_n C (dk DX1_after_0 29 rfl) rfl ?_
    refine st_cV C (k_X1_targetOf l G) mf_X1_targetOf mi_X1_targetOf ml_RX1_79 (dk DX1_after_0 30 rfl) [0, 2] rfl rfl rfl rfl (Nat.le_of_ble_eq_true rfl) rfl rfl ⟨Nat.le_of_ble_eq_true rfl, Nat.le_of_ble_eq_true rfl⟩ ⟨Nat.zero_le _, Nat.zero_le _⟩ (fun r9 w9 hq9 => ?_)
    obtain ⟨rfl, rfl⟩ := hq9
    refine st_istore C (dk DX1_after_0 31 rfl) (by decide) rfl ?_
    refine st_iload C (dk DX1_after_0 32 rfl) rfl ?_
    refine st_iconst C (v := -1) (dk DX1_after_0 33 rfl) (by decide) ?_
    refine st_icmp_ne C (tgt := 66) (dk DX1_after_0 34 rfl) (by decide) (fun c_61 => ?_) (fun c_61 => ?_)
    · refine st_aload_n C (dk DX1_after_0 37 rfl) rfl ?_
      refine st_iload_n C (dk DX1_after_0 38 rfl) rfl ?_
      refine st_iload_n C (dk DX1_after_0 39 rfl) rfl ?_
      refine st_cV C (k_X1_lockOnWay l G) mf_X1_lockOnWay mi_X1_lockOnWay ml_RX1_82 (dk DX1_after_1 0 rfl) [0, 1] rfl rfl rfl rfl (Nat.le_of_ble_eq_true rfl) rfl rfl ⟨Nat.le_of_ble_eq_true rfl, Nat.le_of_ble_eq_true rfl⟩ ⟨Nat.zero_le _, Nat.zero_le _⟩ (fun r9 w9 hq9 => ?_)
      obtain ⟨rfl, rfl⟩ := hq9
      refine st_istore C (dk DX1_after_1 1 rfl) (by decide) rfl ?_
      refine st_iload C (dk DX1_after_1 2 rfl) rfl ?_
      refine st_if_eq C (tgt := 94) (dk DX1_after_1 3 rfl) (by decide) (fun c_76 => ?_) (fun c_76 => ?_)
      · refine st_iload_n C (dk DX1_after_1 12 rfl) rfl ?_
        refine st_iload C (dk DX1_after_1 13 rfl) rfl ?_
        refine st_cS C (k_X0_movedTo l G) mf_X0_movedTo ms_X0_movedTo ml_RX1_85 (dk DX1_after_1 14 rfl) [] rfl rfl rfl rfl (Nat.le_of_ble_eq_true rfl) ⟨Nat.le_of_ble_eq_true rfl, Nat.le_of_ble_eq_true rfl⟩ ⟨Nat.zero_le _, Nat.zero_le _⟩ (fun r9 w9 hq9 => ?_)
        obtain ⟨rfl, rfl⟩ := hq9
        exact Rr 0 0 _ _ _ _ _ _ (Nat.zero_le _) (Nat.zero_le _) (dk DX1_after_1 15 rfl) (.inr (.inl ⟨_, rfl, rfl, rfl, rfl⟩)) rfl ⟨rfl, ⟨by first | (simp [c_7, c_61, c_76, rAft]; done) | (simp_all [rAft]; done), rfl⟩⟩
      · refine st_iload C (dk DX1_after_1 4 rfl) rfl ?_
        refine st_aload_n C (dk DX1_after_1 5 rfl) rfl ?_
        refine st_iload_n C (dk DX1_after_1 6 rfl) rfl ?_
        refine st_bipush C (v := 16) (dk DX1_after_1 7 rfl) (by decide) ?_
        refine st_cV C (k_X1_bowIn l G) mf_X1_bowIn mi_X1_bowIn ml_RX1_73 (dk DX1_after_1 8 rfl) [0] rfl rfl rfl rfl (Nat.le_of_ble_eq_true rfl) rfl rfl ⟨Nat.le_of_ble_eq_true rfl, Nat.le_of_ble_eq_true rfl⟩ ⟨Nat.zero_le _, Nat.zero_le _⟩ (fun r9 w9 hq9 => ?_)
        obtain ⟨rfl, rfl⟩ := hq9
        refine st_icmp_eq C (tgt := 94) (dk DX1_after_1 9 rfl) (by decide) (fun c_88 => ?_) (fun c_88 => ?_)
        · refine st_iload_n C (dk DX1_after_1 12 rfl) rfl ?_
          refine st_iload C (dk DX1_after_1 13 rfl) rfl ?_
          refine st_cS C (k_X0_movedTo l G) mf_X0_movedTo ms_X0_movedTo ml_RX1_85 (dk DX1_after_1 14 rfl) [] rfl rfl rfl rfl (Nat.le_of_ble_eq_true rfl) ⟨Nat.le_of_ble_eq_true rfl, Nat.le_of_ble_eq_true rfl⟩ ⟨Nat.zero_le _, Nat.zero_le _⟩ (fun r9 w9 hq9 => ?_)
          obtain ⟨rfl, rfl⟩ := hq9
          exact Rr 0 0 _ _ _ _ _ _ (Nat.zero_le _) (Nat.zero_le _) (dk DX1_after_1 15 rfl) (.inr (.inl ⟨_, rfl, rfl, rfl, rfl⟩)) rfl ⟨rfl, ⟨by first | (simp [c_7, c_61, c_76, c_88, rAft]; done) | (simp_all [rAft]; done), rfl⟩⟩
        · refine st_bipush C (v := -2) (dk DX1_after_1 10 rfl) (by decide) ?_
          exact Rr 0 0 _ _ _ _ _ _ (Nat.zero_le _) (Nat.zero_le _) (dk DX1_after_1 11 rfl) (.inr (.inl ⟨_, rfl, rfl, rfl, rfl⟩)) rfl ⟨rfl, ⟨by first | (simp [c_7, c_61, c_76, c_88, rAft]; done) | (simp_all [rAft]; done), rfl⟩⟩
    · refine st_iconst C (v := -1) (dk DX1_after_0 35 rfl) (by decide) ?_
      exact Rr 0 0 _ _ _ _ _ _ (Nat.zero_le _) (Nat.zero_le _) (dk DX1_after_0 36 rfl) (.inr (.inl ⟨_, rfl, rfl, rfl, rfl⟩)) rfl ⟨rfl, ⟨by first | (simp [c_7, c_61, rAft]; done) | (simp_all [rAft]; done), rfl⟩⟩
  · refine st_aload_n C (dk DX1_after_0 6 rfl) rfl ?_
    refine st_iload_n C (dk DX1_after_0 7 rfl) rfl ?_
    refine st_bipush C (v := 16) (dk DX1_after_0 8 rfl) (by decide) ?_
    refine st_cV C (k_X1_bowIn l G) mf_X1_bowIn mi_X1_bowIn ml_RX1_73 (dk DX1_after_0 9 rfl) [0] rfl rfl rfl rfl (Nat.le_of_ble_eq_true rfl) rfl rfl ⟨Nat.le_of_ble_eq_true rfl, Nat.le_of_ble_eq_true rfl⟩ ⟨Nat.zero_le _, Nat.zero_le _⟩ (fun r9 w9 hq9 => ?_)
    obtain ⟨rfl, rfl⟩ := hq9
    refine st_if_ne C (tgt := 33) (dk DX1_after_0 10 rfl) (by decide) (fun c_17 => ?_) (fun c_17 => ?_)
    · refine st_iconst C (v := 0) (dk DX1_after_0 18 rfl) (by decide) ?_
      refine st_istore C (dk DX1_after_0 19 rfl) (by decide) rfl ?_
      refine st_iload C (dk DX1_after_0 20 rfl) rfl ?_
      refine st_if_eq C (tgt := 45) (dk DX1_after_0 21 rfl) (by decide) (fun c_38 => ?_) (fun c_38 => ?_)
      · refine st_iload_n C (dk DX1_after_0 24 rfl) rfl ?_
        refine st_cS C (k_X0_swapped l G) mf_X0_swapped ms_X0_swapped ml_RX1_76 (dk DX1_after_0 25 rfl) [] rfl rfl rfl rfl (Nat.le_of_ble_eq_true rfl) ⟨Nat.le_of_ble_eq_true rfl, Nat.le_of_ble_eq_true rfl⟩ ⟨Nat.zero_le _, Nat.zero_le _⟩ (fun r9 w9 hq9 => ?_)
        obtain ⟨rfl, rfl⟩ := hq9
        exact Rr 0 0 _ _ _ _ _ _ (Nat.zero_le _) (Nat.zero_le _) (dk DX1_after_0 26 rfl) (.inr (.inl ⟨_, rfl, rfl, rfl, rfl⟩)) rfl ⟨rfl, ⟨by first | (simp [c_7, c_17, c_38, rAft]; done) | (simp_all [rAft]; done), rfl⟩⟩
      · refine st_iconst C (v := -1) (dk DX1_after_0 22 rfl) (by decide) ?_
        refine st_goto C (tgt := 49) (dk DX1_after_0 23 rfl) (by decide) ?_
        exact Rr 0 0 _ _ _ _ _ _ (Nat.zero_le _) (Nat.zero_le _) (dk DX1_after_0 26 rfl) (.inr (.inl ⟨_, rfl, rfl, rfl, rfl⟩)) rfl ⟨rfl, ⟨by first | (simp [c_7, c_17, c_38, rAft]; done) | (simp_all [rAft]; done), rfl⟩⟩
    · refine st_aload_n C (dk DX1_after_0 11 rfl) rfl ?_
      refine st_iload_n C (dk DX1_after_0 12 rfl) rfl ?_
      refine st_iload_n C (dk DX1_after_0 13 rfl) rfl ?_
      refine st_cV C (k_X1_bowIn l G) mf_X1_bowIn mi_X1_bowIn ml_RX1_73 (dk DX1_after_0 14 rfl) [0] rfl rfl rfl rfl (Nat.le_of_ble_eq_true rfl) rfl rfl ⟨Nat.le_of_ble_eq_true rfl, Nat.le_of_ble_eq_true rfl⟩ ⟨Nat.zero_le _, Nat.zero_le _⟩ (fun r9 w9 hq9 => ?_)
      obtain ⟨rfl, rfl⟩ := hq9
      refine st_if_ne C (tgt := 33) (dk DX1_after_0 15 rfl) (by decide) (fun c_26 => ?_) (fun c_26 => ?_)
      · refine st_iconst C (v := 0) (dk DX1_after_0 18 rfl) (by decide) ?_
        refine st_istore C (dk DX1_after_0 19 rfl) (by decide) rfl ?_
        refine st_iload C (dk DX1_after_0 20 rfl) rfl ?_
        refine st_if_eq C (tgt := 45) (dk DX1_after_0 21 rfl) (by decide) (fun c_38 => ?_) (fun c_38 => ?_)
        · refine st_iload_n C (dk DX1_after_0 24 rfl) rfl ?_
          refine st_cS C (k_X0_swapped l G) mf_X0_swapped ms_X0_swapped ml_RX1_76 (dk DX1_after_0 25 rfl) [] rfl rfl rfl rfl (Nat.le_of_ble_eq_true rfl) ⟨Nat.le_of_ble_eq_true rfl, Nat.le_of_ble_eq_true rfl⟩ ⟨Nat.zero_le _, Nat.zero_le _⟩ (fun r9 w9 hq9 => ?_)
          obtain ⟨rfl, rfl⟩ := hq9
          exact Rr 0 0 _ _ _ _ _ _ (Nat.zero_le _) (Nat.zero_le _) (dk DX1_after_0 26 rfl) (.inr (.inl ⟨_, rfl, rfl, rfl, rfl⟩)) rfl ⟨rfl, ⟨by first | (simp [c_7, c_17, c_26, c_38, rAft]; done) | (simp_all [rAft]; done), rfl⟩⟩
        · refine st_iconst C (v := -1) (dk DX1_after_0 22 rfl) (by decide) ?_
          refine st_goto C (tgt := 49) (dk DX1_after_0 23 rfl) (by decide) ?_
          exact Rr 0 0 _ _ _ _ _ _ (Nat.zero_le _) (Nat.zero_le _) (dk DX1_after_0 26 rfl) (.inr (.inl ⟨_, rfl, rfl, rfl, rfl⟩)) rfl ⟨rfl, ⟨by first | (simp [c_7, c_17, c_26, c_38, rAft]; done) | (simp_all [rAft]; done), rfl⟩⟩
      · refine st_iconst C (v := 1) (dk DX1_after_0 16 rfl) (by decide) ?_
        refine st_goto C (tgt := 34) (dk DX1_after_0 17 rfl) (by decide) ?_
        refine st_istore C (dk DX1_after_0 19 rfl) (by decide) rfl ?_
        refine st_iload C (dk DX1_after_0 20 rfl) rfl ?_
        refine st_if_eq C (tgt := 45) (dk DX1_after_0 21 rfl) (by decide) (fun c_38 => ?_) (fun c_38 => ?_)
        · refine st_iload_n C (dk DX1_after_0 24 rfl) rfl ?_
          refine st_cS C (k_X0_swapped l G) mf_X0_swapped ms_X0_swapped ml_RX1_76 (dk DX1_after_0 25 rfl) [] rfl rfl rfl rfl (Nat.le_of_ble_eq_true rfl) ⟨Nat.le_of_ble_eq_true rfl, Nat.le_of_ble_eq_true rfl⟩ ⟨Nat.zero_le _, Nat.zero_le _⟩ (fun r9 w9 hq9 => ?_)
          obtain ⟨rfl, rfl⟩ := hq9
          exact Rr 0 0 _ _ _ _ _ _ (Nat.zero_le _) (Nat.zero_le _) (dk DX1_after_0 26 rfl) (.inr (.inl ⟨_, rfl, rfl, rfl, rfl⟩)) rfl ⟨rfl, ⟨by first | (simp [c_7, c_17, c_26, c_38, rAft]; done) | (simp_all [rAft]; done), rfl⟩⟩
        · refine st_iconst C (v := -1) (dk DX1_after_0 22 rfl) (by decide) ?_
          refine st_goto C (tgt := 49) (dk DX1_after_0 23 rfl) (by decide) ?_
          exact Rr 0 0 _ _ _ _ _ _ (Nat.zero_le _) (Nat.zero_le _) (dk DX1_after_0 26 rfl) (.inr (.inl ⟨_, rfl, rfl, rfl, rfl⟩)) rfl ⟨rfl, ⟨by first | (simp [c_7, c_17, c_26, c_38, rAft]; done) | (simp_all [rAft]; done), rfl⟩⟩
set_option maxHeartbeats 4000000 in
set_option maxRecDepth 100000 in
theorem k_X1_reasonAgainst (l : Launch) (G : wG) {p q1 q2 : Nat} {fb sb co le sp sw dp : Int32} {lk ld : Nat → Int32} {a : Int32} : Con0 l G yX1_reasonAgainst cX1_reasonAgainst 3 (some .int) 4 [.ref p, .int a] [(p, ob 0 (cF q1 q2 fb sb co le sp sw dp)), (q1, aI G 15 lk), (q2, aI G 16 ld)] (fun r w => r = some (.int (rReas lk ld fb sb le co a)) ∧ w = [(p, ob 0 (cF q1 q2 fb sb co le sp sw dp)), (q1, aI G 15 lk), (q2, aI G 16 ld)]) := by
  refine Con.mk (by decide +kernel) (Nat.le_of_ble_eq_true rfl) (fun P C Rr => ?_)
  refine st_aload_n C (dk DX1_reasonAgainst_0 0 rfl) rfl ?_
  refine st_aload_n C (dk DX1_reasonAgainst_0 1 rfl) rfl ?_
  refine st_get C fl_RX1_24 (dk DX1_reasonAgainst_0 2 rfl) 0 rfl rfl ?_
  refine st_iload_n C (dk DX1_reasonAgainst_0 3 rfl) rfl ?_
  refine st_cV C (k_X1_after l G) mf_X1_after mi_X1_after ml_RX1_94 (dk DX1_reasonAgainst_0 4 rfl) [0, 1, 2] rfl rfl rfl rfl (Nat.le_of_ble_eq_true rfl) rfl rfl ⟨Nat.le_of_ble_eq_true rfl, Nat.le_of_ble_eq_true rfl⟩ ⟨Nat.zero_le _, Nat.zero_le _⟩ (fun r9 w9 hq9 => ?_)
  obtain ⟨rfl, rfl⟩ := hq9
  refine st_istore_n C (dk DX1_reasonAgainst_0 5 rfl) (by decide) rfl ?_
  refine st_iload_n C (dk DX1_reasonAgainst_0 6 rfl) rfl ?_
  refine st_if_ge C (tgt := 19) (dk DX1_reasonAgainst_0 7 rfl) (by decide) (fun c_11 => ?_) (fun c_11 => ?_)
  · refine st_iconst C (v := 0) (dk DX1_reasonAgainst_0 11 rfl) (by decide) ?_
    exact Rr 0 0 _ _ _ _ _ _ (Nat.zero_le _) (Nat.zero_le _) (dk DX1_reasonAgainst_0 12 rfl) (.inr (.inl ⟨_, rfl, rfl, rfl, rfl⟩)) rfl ⟨rfl, ⟨by first | (simp [c_11, rReas]; done) | (simp_all [rReas]; done), rfl⟩⟩
  · refine st_iload_n C (dk DX1_reasonAgainst_0 8 rfl) rfl ?_
    refine st_ineg C (dk DX1_reasonAgainst_0 9 rfl) ?_
    refine st_goto C (tgt := 20) (dk DX1_reasonAgainst_0 10 rfl) (by decide) ?_
    exact Rr 0 0 _ _ _ _ _ _ (Nat.zero_le _) (Nat.zero_le _) (dk DX1_reasonAgainst_0 12 rfl) (.inr (.inl ⟨_, rfl, rfl, rfl, rfl⟩)) rfl ⟨rfl, ⟨by first | (simp [c_11, rReas]; done) | (simp_all [rReas]; done), rfl⟩⟩
set_option maxHeartbeats 4000000 in
set_option maxRecDepth 100000 in
theorem k_X1_setLock (l : Launch) (G : wG) {p q1 q2 : Nat} {fb sb co le sp sw dp : Int32} {lk : Nat → Int32} {c v : Int32} : Con0 l G yX1_setLock cX1_setLock 3 none 1 [.ref p, .int c, .int v] [(p, ob 0 (cF q1 q2 fb sb co le sp sw dp)), (q1, aI G 15 lk)] (fun r w => r = none ∧ w = [(p, ob 0 (cF q1 q2 fb sb co le sp sw dp)), (q1, aI G 15 (rSetA lk 15 c v))]) := by
  refine Con.mk (by decide +kernel) (Nat.le_of_ble_eq_true rfl) (fun P C Rr => ?_)
  refine st_iload_n C (dk DX1_setLock_0 0 rfl) rfl ?_
  refine st_cS C (k_X5_isDoor l G) mf_X5_isDoor ms_X5_isDoor ml_RX1_46 (dk DX1_setLock_0 1 rfl) [] rfl rfl rfl rfl (Nat.le_of_ble_eq_true rfl) ⟨Nat.le_of_ble_eq_true rfl, Nat.le_of_ble_eq_true rfl⟩ ⟨Nat.zero_le _, Nat.zero_le _⟩ (fun r9 w9 hq9 => ?_)
  obtain ⟨rfl, rfl⟩ := hq9
  refine st_if_eq C (tgt := 14) (dk DX1_setLock_0 2 rfl) (by decide) (fun c_4 => ?_) (fun c_4 => ?_)
  · exact Rr 0 0 _ _ _ _ _ _ (Nat.zero_le _) (Nat.zero_le _) (dk DX1_setLock_0 8 rfl) (.inl ⟨rfl, rfl, rfl, rfl⟩) rfl ⟨rfl, ⟨rfl, by first | (simp [c_4, rSetA]; done) | (simp [c_4, rSetA]; rfl) | (simp_all [rSetA]; done) | (simp_all [rSetA]; rfl)⟩⟩
  · refine st_aload_n C (dk DX1_setLock_0 3 rfl) rfl ?_
    refine st_get C fl_RX1_9 (dk DX1_setLock_0 4 rfl) 0 rfl rfl ?_
    refine st_iload_n C (dk DX1_setLock_0 5 rfl) rfl ?_
    refine st_iload_n C (dk DX1_setLock_0 6 rfl) rfl ?_
    refine st_iast C (dk DX1_setLock_0 7 rfl) 1 rfl (rIn_vp (by decide) (by decide) c_4) ?_
    exact Rr 0 0 _ _ _ _ _ _ (Nat.zero_le _) (Nat.zero_le _) (dk DX1_setLock_0 8 rfl) (.inl ⟨rfl, rfl, rfl, rfl⟩) rfl ⟨rfl, ⟨rfl, by first | (simp [c_4, rSetA]; done) | (simp [c_4, rSetA]; rfl) | (simp_all [rSetA]; done) | (simp_all [rSetA]; rfl)⟩⟩
set_option maxHeartbeats 4000000 in
set_option maxRecDepth 100000 in
theorem k_X1_setLadder (l : Launch) (G : wG) {p q1 q2 : Nat} {fb sb co le sp sw dp : Int32} {ld : Nat → Int32} {c v : Int32} : Con0 l G yX1_setLadder cX1_setLadder 3 none 1 [.ref p, .int c, .int v] [(p, ob 0 (cF q1 q2 fb sb co le sp sw dp)), (q2, aI G 16 ld)] (fun r w => r = none ∧ w = [(p, ob 0 (cF q1 q2 fb sb co le sp sw dp)), (q2, aI G 16 (rSetA ld 16 c v))]) := by
  refine Con.mk (by decide +kernel) (Nat.le_of_ble_eq_true rfl) (fun P C Rr => ?_)
  refine st_iload_n C (dk DX1_setLadder_0 0 rfl) rfl ?_
  refine st_cS C (k_X5_isCell l G) mf_X5_isCell ms_X5_isCell ml_RX1_50 (dk DX1_setLadder_0 1 rfl) [] rfl rfl rfl rfl (Nat.le_of_ble_eq_true rfl) ⟨Nat.le_of_ble_eq_true rfl, Nat.le_of_ble_eq_true rfl⟩ ⟨Nat.zero_le _, Nat.zero_le _⟩ (fun r9 w9 hq9 => ?_)
  obtain ⟨rfl, rfl⟩ := hq9
  refine st_if_eq C (tgt := 14) (dk DX1_setLadder_0 2 rfl) (by decide) (fun c_4 => ?_) (fun c_4 => ?_)
  · exact Rr 0 0 _ _ _ _ _ _ (Nat.zero_le _) (Nat.zero_le _) (dk DX1_setLadder_0 8 rfl) (.inl ⟨rfl, rfl, rfl, rfl⟩) rfl ⟨rfl, ⟨rfl, by first | (simp [c_4, rSetA]; done) | (simp [c_4, rSetA]; rfl) | (simp_all [rSetA]; done) | (simp_all [rSetA]; rfl)⟩⟩
  · refine st_aload_n C (dk DX1_setLadder_0 3 rfl) rfl ?_
    refine st_get C fl_RX1_15 (dk DX1_setLadder_0 4 rfl) 0 rfl rfl ?_
    refine st_iload_n C (dk DX1_setLadder_0 5 rfl) rfl ?_
    refine st_iload_n C (dk DX1_setLadder_0 6 rfl) rfl ?_
    refine st_iast C (dk DX1_setLadder_0 7 rfl) 1 rfl (rIn_vp (by decide) (by decide) c_4) ?_
    exact Rr 0 0 _ _ _ _ _ _ (Nat.zero_le _) (Nat.zero_le _) (dk DX1_setLadder_0 8 rfl) (.inl ⟨rfl, rfl, rfl, rfl⟩) rfl ⟨rfl, ⟨rfl, by first | (simp [c_4, rSetA]; done) | (simp [c_4, rSetA]; rfl) | (simp_all [rSetA]; done) | (simp_all [rSetA]; rfl)⟩⟩
set_option maxHeartbeats 4000000 in
set_option maxRecDepth 100000 in
theorem k_X1_take (l : Launch) (G : wG) {p q1 q2 : Nat} {fb sb co le sp sw dp : Int32} {lk ld : Nat → Int32} {a : Int32} : Con0 l G yX1_take cX1_take 3 none 4 [.ref p, .int a] [(p, ob 0 (cF q1 q2 fb sb co le sp sw dp)), (q1, aI G 15 lk), (q2, aI G 16 ld)] (fun r w => r = none ∧ w = [(p, ob 0 (rTak q1 q2 lk ld fb sb co le sp sw dp a)), (q1, aI G 15 lk), (q2, aI G 16 ld)]) := by
  refine Con.mk (by decide +kernel) (Nat.le_of_ble_eq_true rfl) (fun P C Rr => ?_)
  refine st_aload_n C (dk DX1_take_0 0 rfl) rfl ?_
  refine st_aload_n C (dk DX1_take_0 1 rfl) rfl ?_
  refine st_get C fl_RX1_24 (dk DX1_take_0 2 rfl) 0 rfl rfl ?_
  refine st_iload_n C (dk DX1_take_0 3 rfl) rfl ?_
  refine st_cV C (k_X1_after l G) mf_X1_after mi_X1_after ml_RX1_94 (dk DX1_take_0 4 rfl) [0, 1, 2] rfl rfl rfl rfl (Nat.le_of_ble_eq_true rfl) rfl rfl ⟨Nat.le_of_ble_eq_true rfl, Nat.le_of_ble_eq_true rfl⟩ ⟨Nat.zero_le _, Nat.zero_le _⟩ (fun r9 w9 hq9 => ?_)
  obtain ⟨rfl, rfl⟩ := hq9
  refine st_istore_n C (dk DX1_take_0 5 rfl) (by decide) rfl ?_
  refine st_iload_n C (dk DX1_take_0 6 rfl) rfl ?_
  refine st_if_ge C (tgt := 15) (dk DX1_take_0 7 rfl) (by decide) (fun c_11 => ?_) (fun c_11 => ?_)
  · refine st_aload_n C (dk DX1_take_0 9 rfl) rfl ?_
    refine st_dup C (dk DX1_take_0 10 rfl) rfl ?_
    refine st_get C fl_RX1_37 (dk DX1_take_0 11 rfl) 0 rfl rfl ?_
    refine st_iconst C (v := 1) (dk DX1_take_0 12 rfl) (by decide) ?_
    refine st_iadd C (dk DX1_take_0 13 rfl) ?_
    refine st_put C fl_RX1_37 fc_0 fw_0_6 (dk DX1_take_0 14 rfl) 0 rfl rfl rfl (Nat.le_of_ble_eq_true rfl) ?_
    refine st_iload_n C (dk DX1_take_0 15 rfl) rfl ?_
    refine st_iconst C (v := 4) (dk DX1_take_0 16 rfl) (by decide) ?_
    refine st_icmp_ne C (tgt := 40) (dk DX1_take_0 17 rfl) (by decide) (fun c_27 => ?_) (fun c_27 => ?_)
    · refine st_aload_n C (dk DX1_take_0 24 rfl) rfl ?_
      refine st_aload_n C (dk DX1_take_0 25 rfl) rfl ?_
      refine st_get C fl_RX1_24 (dk DX1_take_0 26 rfl) 0 rfl rfl ?_
      refine st_cS C (k_X0_cellOf l G) mf_X0_cellOf ms_X0_cellOf ml_RX1_60 (dk DX1_take_0 27 rfl) [] rfl rfl rfl rfl (Nat.le_of_ble_eq_true rfl) ⟨Nat.le_of_ble_eq_true rfl, Nat.le_of_ble_eq_true rfl⟩ ⟨Nat.zero_le _, Nat.zero_le _⟩ (fun r9 w9 hq9 => ?_)
      obtain ⟨rfl, rfl⟩ := hq9
      refine st_iload_n C (dk DX1_take_0 28 rfl) rfl ?_
      refine st_cV C (k_X1_lockOnWay l G) mf_X1_lockOnWay mi_X1_lockOnWay ml_RX1_82 (dk DX1_take_0 29 rfl) [0, 1] rfl rfl rfl rfl (Nat.le_of_ble_eq_true rfl) rfl rfl ⟨Nat.le_of_ble_eq_true rfl, Nat.le_of_ble_eq_true rfl⟩ ⟨Nat.zero_le _, Nat.zero_le _⟩ (fun r9 w9 hq9 => ?_)
      obtain ⟨rfl, rfl⟩ := hq9
      refine st_if_eq C (tgt := 65) (dk DX1_take_0 30 rfl) (by decide) (fun c_52 => ?_) (fun c_52 => ?_)
      · refine st_aload_n C (dk DX1_take_0 37 rfl) rfl ?_
        refine st_iload_n C (dk DX1_take_0 38 rfl) rfl ?_
        refine st_put C fl_RX1_24 fc_0 fw_0_4 (dk DX1_take_0 39 rfl) 0 rfl rfl rfl (Nat.le_of_ble_eq_true rfl) ?_
        exact Rr 0 0 _ _ _ _ _ _ (Nat.zero_le _) (Nat.zero_le _) (dk DX1_take_1 0 rfl) (.inl ⟨rfl, rfl, rfl, rfl⟩) rfl ⟨rfl, ⟨rfl, by first | (simp [c_11, c_27, c_52, rTak, cF]; done) | (simp [c_11, c_27, c_52, rTak, cF]; rfl) | (simp_all [rTak, cF]; done) | (simp_all [rTak, cF]; rfl)⟩⟩
      · refine st_aload_n C (dk DX1_take_0 31 rfl) rfl ?_
        refine st_dup C (dk DX1_take_0 32 rfl) rfl ?_
        refine st_get C fl_RX1_43 (dk DX1_take_0 33 rfl) 0 rfl rfl ?_
        refine st_iconst C (v := 1) (dk DX1_take_0 34 rfl) (by decide) ?_
        refine st_iadd C (dk DX1_take_0 35 rfl) ?_
        refine st_put C fl_RX1_43 fc_0 fw_0_8 (dk DX1_take_0 36 rfl) 0 rfl rfl rfl (Nat.le_of_ble_eq_true rfl) ?_
        refine st_aload_n C (dk DX1_take_0 37 rfl) rfl ?_
        refine st_iload_n C (dk DX1_take_0 38 rfl) rfl ?_
        refine st_put C fl_RX1_24 fc_0 fw_0_4 (dk DX1_take_0 39 rfl) 0 rfl rfl rfl (Nat.le_of_ble_eq_true rfl) ?_
        exact Rr 0 0 _ _ _ _ _ _ (Nat.zero_le _) (Nat.zero_le _) (dk DX1_take_1 0 rfl) (.inl ⟨rfl, rfl, rfl, rfl⟩) rfl ⟨rfl, ⟨rfl, by first | (simp [c_11, c_27, c_52, rTak, cF]; done) | (simp [c_11, c_27, c_52, rTak, cF]; rfl) | (simp_all [rTak, cF]; done) | (simp_all [rTak, cF]; rfl)⟩⟩
    · refine st_aload_n C (dk DX1_take_0 18 rfl) rfl ?_
      refine st_dup C (dk DX1_take_0 19 rfl) rfl ?_
      refine st_get C fl_RX1_40 (dk DX1_take_0 20 rfl) 0 rfl rfl ?_
      refine st_iconst C (v := 1) (dk DX1_take_0 21 rfl) (by decide) ?_
      refine st_iadd C (dk DX1_take_0 22 rfl) ?_
      refine st_put C fl_RX1_40 fc_0 fw_0_7 (dk DX1_take_0 23 rfl) 0 rfl rfl rfl (Nat.le_of_ble_eq_true rfl) ?_
      refine st_aload_n C (dk DX1_take_0 24 rfl) rfl ?_
      refine st_aload_n C (dk DX1_take_0 25 rfl) rfl ?_
      refine st_get C fl_RX1_24 (dk DX1_take_0 26 rfl) 0 rfl rfl ?_
      refine st_cS C (k_X0_cellOf l G) mf_X0_cellOf ms_X0_cellOf ml_RX1_60 (dk DX1_take_0 27 rfl) [] rfl rfl rfl rfl (Nat.le_of_ble_eq_true rfl) ⟨Nat.le_of_ble_eq_true rfl, Nat.le_of_ble_eq_true rfl⟩ ⟨Nat.zero_le _, Nat.zero_le _⟩ (fun r9 w9 hq9 => ?_)
      obtain ⟨rfl, rfl⟩ := hq9
      refine st_iload_n C (dk DX1_take_0 28 rfl) rfl ?_
      refine st_cV C (k_X1_lockOnWay l G) mf_X1_lockOnWay mi_X1_lockOnWay ml_RX1_82 (dk DX1_take_0 29 rfl) [0, 1] rfl rfl rfl rfl (Nat.le_of_ble_eq_true rfl) rfl rfl ⟨Nat.le_of_ble_eq_true rfl, Nat.le_of_ble_eq_true rfl⟩ ⟨Nat.zero_le _, Nat.zero_le _⟩ (fun r9 w9 hq9 => ?_)
      obtain ⟨rfl, rfl⟩ := hq9
      refine st_if_eq C (tgt := 65) (dk DX1_take_0 30 rfl) (by decide) (fun c_52 => ?_) (fun c_52 => ?_)
      · refine st_aload_n C (dk DX1_take_0 37 rfl) rfl ?_
        refine st_iload_n C (dk DX1_take_0 38 rfl) rfl ?_
        refine st_put C fl_RX1_24 fc_0 fw_0_4 (dk DX1_take_0 39 rfl) 0 rfl rfl rfl (Nat.le_of_ble_eq_true rfl) ?_
        exact Rr 0 0 _ _ _ _ _ _ (Nat.zero_le _) (Nat.zero_le _) (dk DX1_take_1 0 rfl) (.inl ⟨rfl, rfl, rfl, rfl⟩) rfl ⟨rfl, ⟨rfl, by first | (simp [c_11, c_27, c_52, rTak, cF]; done) | (simp [c_11, c_27, c_52, rTak, cF]; rfl) | (simp_all [rTak, cF]; done) | (simp_all [rTak, cF]; rfl)⟩⟩
      · refine st_aload_n C (dk DX1_take_0 31 rfl) rfl ?_
        refine st_dup C (dk DX1_take_0 32 rfl) rfl ?_
        refine st_get C fl_RX1_43 (dk DX1_take_0 33 rfl) 0 rfl rfl ?_
        refine st_iconst C (v := 1) (dk DX1_take_0 34 rfl) (by decide) ?_
        refine st_iadd C (dk DX1_take_0 35 rfl) ?_
        refine st_put C fl_RX1_43 fc_0 fw_0_8 (dk DX1_take_0 36 rfl) 0 rfl rfl rfl (Nat.le_of_ble_eq_true rfl) ?_
        refine st_aload_n C (dk DX1_take_0 37 rfl) rfl ?_
        refine st_iload_n C (dk DX1_take_0 38 rfl) rfl ?_
        refine st_put C fl_RX1_24 fc_0 fw_0_4 (dk DX1_take_0 39 rfl) 0 rfl rfl rfl (Nat.le_of_ble_eq_true rfl) ?_
        exact Rr 0 0 _ _ _ _ _ _ (Nat.zero_le _) (Nat.zero_le _) (dk DX1_take_1 0 rfl) (.inl ⟨rfl, rfl, rfl, rfl⟩) rfl ⟨rfl, ⟨rfl, by first | (simp [c_11, c_27, c_52, rTak, cF]; done) | (simp [c_11, c_27, c_52, rTak, cF]; rfl) | (simp_all [rTak, cF]; done) | (simp_all [rTak, cF]; rfl)⟩⟩
  · exact Rr 0 0 _ _ _ _ _ _ (Nat.zero_le _) (Nat.zero_le _) (dk DX1_take_0 8 rfl) (.inl ⟨rfl, rfl, rfl, rfl⟩) rfl ⟨rfl, ⟨rfl, by first | (simp [c_11, rTak, cF]; done) | (simp [c_11, rTak, cF]; rfl) | (simp_all [rTak, cF]; done) | (simp_all [rTak, cF]; rfl)⟩⟩
set_option maxHeartbeats 4000000 in
set_option maxRecDepth 100000 in
theorem k_X1_putKey (l : Launch) (G : wG) {p q1 q2 : Nat} {fb sb co le sp sw dp : Int32} {c v : Int32} : Con0 l G yX1_putKey cX1_putKey 6 none 1 [.ref p, .int c, .int v] [(p, ob 0 (cF q1 q2 fb sb co le sp sw dp))] (fun r w => r = none ∧ w = [(p, ob 0 (rPut q1 q2 fb sb co le sp sw dp c v))]) := by
  refine Con.mk (by decide +kernel) (Nat.le_of_ble_eq_true rfl) (fun P C Rr => ?_)
  refine st_aload_n C (dk DX1_putKey_0 0 rfl) rfl ?_
  refine st_get C fl_RX1_24 (dk DX1_putKey_0 1 rfl) 0 rfl rfl ?_
  refine st_cS C (k_X0_firstOf l G) mf_X0_firstOf ms_X0_firstOf ml_RX1_53 (dk DX1_putKey_0 2 rfl) [] rfl rfl rfl rfl (Nat.le_of_ble_eq_true rfl) ⟨Nat.le_of_ble_eq_true rfl, Nat.le_of_ble_eq_true rfl⟩ ⟨Nat.zero_le _, Nat.zero_le _⟩ (fun r9 w9 hq9 => ?_)
  obtain ⟨rfl, rfl⟩ := hq9
  refine st_istore_n C (dk DX1_putKey_0 3 rfl) (by decide) rfl ?_
  refine st_aload_n C (dk DX1_putKey_0 4 rfl) rfl ?_
  refine st_get C fl_RX1_24 (dk DX1_putKey_0 5 rfl) 0 rfl rfl ?_
  refine st_cS C (k_X0_secondOf l G) mf_X0_secondOf ms_X0_secondOf ml_RX1_57 (dk DX1_putKey_0 6 rfl) [] rfl rfl rfl rfl (Nat.le_of_ble_eq_true rfl) ⟨Nat.le_of_ble_eq_true rfl, Nat.le_of_ble_eq_true rfl⟩ ⟨Nat.zero_le _, Nat.zero_le _⟩ (fun r9 w9 hq9 => ?_)
  obtain ⟨rfl, rfl⟩ := hq9
  refine st_istore C (dk DX1_putKey_0 7 rfl) (by decide) rfl ?_
  refine st_iload_n C (dk DX1_putKey_0 8 rfl) rfl ?_
  refine st_if_ne C (tgt := 26) (dk DX1_putKey_0 9 rfl) (by decide) (fun c_18 => ?_) (fun c_18 => ?_)
  · refine st_iload_n C (dk DX1_putKey_0 12 rfl) rfl ?_
    refine st_istore C (dk DX1_putKey_0 13 rfl) (by decide) rfl ?_
    refine st_iload_n C (dk DX1_putKey_0 14 rfl) rfl ?_
    refine st_iload_n C (dk DX1_putKey_0 15 rfl) rfl ?_
    refine st_icmp_eq C (tgt := 46) (dk DX1_putKey_0 16 rfl) (by decide) (fun c_31 => ?_) (fun c_31 => ?_)
    · refine st_aload_n C (dk DX1_putKey_0 23 rfl) rfl ?_
      refine st_iload_n C (dk DX1_putKey_0 24 rfl) rfl ?_
      refine st_put C fl_RX1_31 fc_0 fw_0_2 (dk DX1_putKey_0 25 rfl) 0 rfl rfl rfl (Nat.le_of_ble_eq_true rfl) ?_
      refine st_iload C (dk DX1_putKey_0 26 rfl) rfl ?_
      refine st_istore_n C (dk DX1_putKey_0 27 rfl) (by decide) rfl ?_
      refine st_goto C (tgt := 79) (dk DX1_putKey_0 28 rfl) (by decide) ?_
      refine st_aload_n C (dk DX1_putKey_1 0 rfl) rfl ?_
      refine st_aload_n C (dk DX1_putKey_1 1 rfl) rfl ?_
      refine st_get C fl_RX1_24 (dk DX1_putKey_1 2 rfl) 0 rfl rfl ?_
      refine st_cS C (k_X0_cellOf l G) mf_X0_cellOf ms_X0_cellOf ml_RX1_60 (dk DX1_putKey_1 3 rfl) [] rfl rfl rfl rfl (Nat.le_of_ble_eq_true rfl) ⟨Nat.le_of_ble_eq_true rfl, Nat.le_of_ble_eq_true rfl⟩ ⟨Nat.zero_le _, Nat.zero_le _⟩ (fun r9 w9 hq9 => ?_)
      obtain ⟨rfl, rfl⟩ := hq9
      refine st_iload_n C (dk DX1_putKey_1 4 rfl) rfl ?_
      refine st_iload C (dk DX1_putKey_1 5 rfl) rfl ?_
      refine st_cS C (k_X0_of l G) mf_X0_of ms_X0_of ml_RX1_20 (dk DX1_putKey_1 6 rfl) [] rfl rfl rfl rfl (Nat.le_of_ble_eq_true rfl) ⟨Nat.le_of_ble_eq_true rfl, Nat.le_of_ble_eq_true rfl⟩ ⟨Nat.zero_le _, Nat.zero_le _⟩ (fun r9 w9 hq9 => ?_)
      obtain ⟨rfl, rfl⟩ := hq9
      refine st_put C fl_RX1_24 fc_0 fw_0_4 (dk DX1_putKey_1 7 rfl) 0 rfl rfl rfl (Nat.le_of_ble_eq_true rfl) ?_
      exact Rr 0 0 _ _ _ _ _ _ (Nat.zero_le _) (Nat.zero_le _) (dk DX1_putKey_1 8 rfl) (.inl ⟨rfl, rfl, rfl, rfl⟩) rfl ⟨rfl, ⟨rfl, by first | (simp [c_18, c_31, rPut, rPutP, rPut1, rPut2, cF]; done) | (simp [c_18, c_31, rPut, rPutP, rPut1, rPut2, cF]; rfl) | (simp_all [rPut, rPutP, rPut1, rPut2, cF]; done) | (simp_all [rPut, rPutP, rPut1, rPut2, cF]; rfl)⟩⟩
    · refine st_iload C (dk DX1_putKey_0 17 rfl) rfl ?_
      refine st_iload_n C (dk DX1_putKey_0 18 rfl) rfl ?_
      refine st_icmp_eq C (tgt := 57) (dk DX1_putKey_0 19 rfl) (by decide) (fun c_37 => ?_) (fun c_37 => ?_)
      · refine st_iload C (dk DX1_putKey_0 29 rfl) rfl ?_
        refine st_iload_n C (dk DX1_putKey_0 30 rfl) rfl ?_
        refine st_icmp_eq C (tgt := 70) (dk DX1_putKey_0 31 rfl) (by decide) (fun c_60 => ?_) (fun c_60 => ?_)
        · refine st_aload_n C (dk DX1_putKey_0 35 rfl) rfl ?_
          refine st_iload_n C (dk DX1_putKey_0 36 rfl) rfl ?_
          refine st_put C fl_RX1_34 fc_0 fw_0_3 (dk DX1_putKey_0 37 rfl) 0 rfl rfl rfl (Nat.le_of_ble_eq_true rfl) ?_
          refine st_iload C (dk DX1_putKey_0 38 rfl) rfl ?_
          refine st_istore C (dk DX1_putKey_0 39 rfl) (by decide) rfl ?_
          refine st_aload_n C (dk DX1_putKey_1 0 rfl) rfl ?_
          refine st_aload_n C (dk DX1_putKey_1 1 rfl) rfl ?_
          refine st_get C fl_RX1_24 (dk DX1_putKey_1 2 rfl) 0 rfl rfl ?_
          refine st_cS C (k_X0_cellOf l G) mf_X0_cellOf ms_X0_cellOf ml_RX1_60 (dk DX1_putKey_1 3 rfl) [] rfl rfl rfl rfl (Nat.le_of_ble_eq_true rfl) ⟨Nat.le_of_ble_eq_true rfl, Nat.le_of_ble_eq_true rfl⟩ ⟨Nat.zero_le _, Nat.zero_le _⟩ (fun r9 w9 hq9 => ?_)
          obtain ⟨rfl, rfl⟩ := hq9
          refine st_iload_n C (dk DX1_putKey_1 4 rfl) rfl ?_
          refine st_iload C (dk DX1_putKey_1 5 rfl) rfl ?_
          refine st_cS C (k_X0_of l G) mf_X0_of ms_X0_of ml_RX1_20 (dk DX1_putKey_1 6 rfl) [] rfl rfl rfl rfl (Nat.le_of_ble_eq_true rfl) ⟨Nat.le_of_ble_eq_true rfl, Nat.le_of_ble_eq_true rfl⟩ ⟨Nat.zero_le _, Nat.zero_le _⟩ (fun r9 w9 hq9 => ?_)
          obtain ⟨rfl, rfl⟩ := hq9
          refine st_put C fl_RX1_24 fc_0 fw_0_4 (dk DX1_putKey_1 7 rfl) 0 rfl rfl rfl (Nat.le_of_ble_eq_true rfl) ?_
          exact Rr 0 0 _ _ _ _ _ _ (Nat.zero_le _) (Nat.zero_le _) (dk DX1_putKey_1 8 rfl) (.inl ⟨rfl, rfl, rfl, rfl⟩) rfl ⟨rfl, ⟨rfl, by first | (simp [c_18, c_31, c_37, c_60, rPut, rPutP, rPut1, rPut2, cF]; done) | (simp [c_18, c_31, c_37, c_60, rPut, rPutP, rPut1, rPut2, cF]; rfl) | (simp_all [rPut, rPutP, rPut1, rPut2, cF]; done) | (simp_all [rPut, rPutP, rPut1, rPut2, cF]; rfl)⟩⟩
        · refine st_iload C (dk DX1_putKey_0 32 rfl) rfl ?_
          refine st_bipush C (v := 17) (dk DX1_putKey_0 33 rfl) (by decide) ?_
          refine st_icmp_ne C (tgt := 79) (dk DX1_putKey_0 34 rfl) (by decide) (fun c_67 => ?_) (fun c_67 => ?_)
          · refine st_aload_n C (dk DX1_putKey_1 0 rfl) rfl ?_
            refine st_aload_n C (dk DX1_putKey_1 1 rfl) rfl ?_
            refine st_get C fl_RX1_24 (dk DX1_putKey_1 2 rfl) 0 rfl rfl ?_
            refine st_cS C (k_X0_cellOf l G) mf_X0_cellOf ms_X0_cellOf ml_RX1_60 (dk DX1_putKey_1 3 rfl) [] rfl rfl rfl rfl (Nat.le_of_ble_eq_true rfl) ⟨Nat.le_of_ble_eq_true rfl, Nat.le_of_ble_eq_true rfl⟩ ⟨Nat.zero_le _, Nat.zero_le _⟩ (fun r9 w9 hq9 => ?_)
            obtain ⟨rfl, rfl⟩ := hq9
            refine st_iload_n C (dk DX1_putKey_1 4 rfl) rfl ?_
            refine st_iload C (dk DX1_putKey_1 5 rfl) rfl ?_
            refine st_cS C (k_X0_of l G) mf_X0_of ms_X0_of ml_RX1_20 (dk DX1_putKey_1 6 rfl) [] rfl rfl rfl rfl (Nat.le_of_ble_eq_true rfl) ⟨Nat.le_of_ble_eq_true rfl, Nat.le_of_ble_eq_true rfl⟩ ⟨Nat.zero_le _, Nat.zero_le _⟩ (fun r9 w9 hq9 => ?_)
            obtain ⟨rfl, rfl⟩ := hq9
            refine st_put C fl_RX1_24 fc_0 fw_0_4 (dk DX1_putKey_1 7 rfl) 0 rfl rfl rfl (Nat.le_of_ble_eq_true rfl) ?_
            exact Rr 0 0 _ _ _ _ _ _ (Nat.zero_le _) (Nat.zero_le _) (dk DX1_putKey_1 8 rfl) (.inl ⟨rfl, rfl, rfl, rfl⟩) rfl ⟨rfl, ⟨rfl, by first | (simp [c_18, c_31, c_37, c_60, c_67, rPut, rPutP, rPut1, rPut2, cF]; done) | (simp [c_18, c_31, c_37, c_60, c_67, rPut, rPutP, rPut1, rPut2, cF]; rfl) | (simp_all [rPut, rPutP, rPut1, rPut2, cF]; done) | (simp_all [rPut, rPutP, rPut1, rPut2, cF]; rfl)⟩⟩
          · refine st_aload_n C (dk DX1_putKey_0 35 rfl) rfl ?_
            refine st_iload_n C (dk DX1_putKey_0 36 rfl) rfl ?_
            refine st_put C fl_RX1_34 fc_0 fw_0_3 (dk DX1_putKey_0 37 rfl) 0 rfl rfl rfl (Nat.le_of_ble_eq_true rfl) ?_
            refine st_iload C (dk DX1_putKey_0 38 rfl) rfl ?_
            refine st_istore C (dk DX1_putKey_0 39 rfl) (by decide) rfl ?_
            refine st_aload_n C (dk DX1_putKey_1 0 rfl) rfl ?_
            refine st_aload_n C (dk DX1_putKey_1 1 rfl) rfl ?_
            refine st_get C fl_RX1_24 (dk DX1_putKey_1 2 rfl) 0 rfl rfl ?_
            refine st_cS C (k_X0_cellOf l G) mf_X0_cellOf ms_X0_cellOf ml_RX1_60 (dk DX1_putKey_1 3 rfl) [] rfl rfl rfl rfl (Nat.le_of_ble_eq_true rfl) ⟨Nat.le_of_ble_eq_true rfl, Nat.le_of_ble_eq_true rfl⟩ ⟨Nat.zero_le _, Nat.zero_le _⟩ (fun r9 w9 hq9 => ?_)
            obtain ⟨rfl, rfl⟩ := hq9
            refine st_iload_n C (dk DX1_putKey_1 4 rfl) rfl ?_
            refine st_iload C (dk DX1_putKey_1 5 rfl) rfl ?_
            refine st_cS C (k_X0_of l G) mf_X0_of ms_X0_of ml_RX1_20 (dk DX1_putKey_1 6 rfl) [] rfl rfl rfl rfl (Nat.le_of_ble_eq_true rfl) ⟨Nat.le_of_ble_eq_true rfl, Nat.le_of_ble_eq_true rfl⟩ ⟨Nat.zero_le _, Nat.zero_le _⟩ (fun r9 w9 hq9 => ?_)
            obtain ⟨rfl, rfl⟩ := hq9
            refine st_put C fl_RX1_24 fc_0 fw_0_4 (dk DX1_putKey_1 7 rfl) 0 rfl rfl rfl (Nat.le_of_ble_eq_true rfl) ?_
            exact Rr 0 0 _ _ _ _ _ _ (Nat.zero_le _) (Nat.zero_le _) (dk DX1_putKey_1 8 rfl) (.inl ⟨rfl, rfl, rfl, rfl⟩) rfl ⟨rfl, ⟨rfl, by first | (simp [c_18, c_31, c_37, c_60, c_67, rPut, rPutP, rPut1, rPut2, cF]; done) | (simp [c_18, c_31, c_37, c_60, c_67, rPut, rPutP, rPut1, rPut2, cF]; rfl) | (simp_all [rPut, rPutP, rPut1, rPut2, cF]; done) | (simp_all [rPut, rPutP, rPut1, rPut2, cF]; rfl)⟩⟩
      · refine st_iload_n C (dk DX1_putKey_0 20 rfl) rfl ?_
        refine st_bipush C (v := 17) (dk DX1_putKey_0 21 rfl) (by decide) ?_
        refine st_icmp_ne C (tgt := 57) (dk DX1_putKey_0 22 rfl) (by decide) (fun c_43 => ?_) (fun c_43 => ?_)
        · refine st_iload C (dk DX1_putKey_0 29 rfl) rfl ?_
          refine st_iload_n C (dk DX1_putKey_0 30 rfl) rfl ?_
          refine st_icmp_eq C (tgt := 70) (dk DX1_putKey_0 31 rfl) (by decide) (fun c_60 => ?_) (fun c_60 => ?_)
          · refine st_aload_n C (dk DX1_putKey_0 35 rfl) rfl ?_
            refine st_iload_n C (dk DX1_putKey_0 36 rfl) rfl ?_
            refine st_put C fl_RX1_34 fc_0 fw_0_3 (dk DX1_putKey_0 37 rfl) 0 rfl rfl rfl (Nat.le_of_ble_eq_true rfl) ?_
            refine st_iload C (dk DX1_putKey_0 38 rfl) rfl ?_
            refine st_istore C (dk DX1_putKey_0 39 rfl) (by decide) rfl ?_
            refine st_aload_n C (dk DX1_putKey_1 0 rfl) rfl ?_
            refine st_aload_n C (dk DX1_putKey_1 1 rfl) rfl ?_
            refine st_get C fl_RX1_24 (dk DX1_putKey_1 2 rfl) 0 rfl rfl ?_
            refine st_cS C (k_X0_cellOf l G) mf_X0_cellOf ms_X0_cellOf ml_RX1_60 (dk DX1_putKey_1 3 rfl) [] rfl rfl rfl rfl (Nat.le_of_ble_eq_true rfl) ⟨Nat.le_of_ble_eq_true rfl, Nat.le_of_ble_eq_true rfl⟩ ⟨Nat.zero_le _, Nat.zero_le _⟩ (fun r9 w9 hq9 => ?_)
            obtain ⟨rfl, rfl⟩ := hq9
            refine st_iload_n C (dk DX1_putKey_1 4 rfl) rfl ?_
            refine st_iload C (dk DX1_putKey_1 5 rfl) rfl ?_
            refine st_cS C (k_X0_of l G) mf_X0_of ms_X0_of ml_RX1_20 (dk DX1_putKey_1 6 rfl) [] rfl rfl rfl rfl (Nat.le_of_ble_eq_true rfl) ⟨Nat.le_of_ble_eq_true rfl, Nat.le_of_ble_eq_true rfl⟩ ⟨Nat.zero_le _, Nat.zero_le _⟩ (fun r9 w9 hq9 => ?_)
            obtain ⟨rfl, rfl⟩ := hq9
            refine st_put C fl_RX1_24 fc_0 fw_0_4 (dk DX1_putKey_1 7 rfl) 0 rfl rfl rfl (Nat.le_of_ble_eq_true rfl) ?_
            exact Rr 0 0 _ _ _ _ _ _ (Nat.zero_le _) (Nat.zero_le _) (dk DX1_putKey_1 8 rfl) (.inl ⟨rfl, rfl, rfl, rfl⟩) rfl ⟨rfl, ⟨rfl, by first | (simp [c_18, c_31, c_37, c_43, c_60, rPut, rPutP, rPut1, rPut2, cF]; done) | (simp [c_18, c_31, c_37, c_43, c_60, rPut, rPutP, rPut1, rPut2, cF]; rfl) | (simp_all [rPut, rPutP, rPut1, rPut2, cF]; done) | (simp_all [rPut, rPutP, rPut1, rPut2, cF]; rfl)⟩⟩
          · refine st_iload C (dk DX1_putKey_0 32 rfl) rfl ?_
            refine st_bipush C (v := 17) (dk DX1_putKey_0 33 rfl) (by decide) ?_
            refine st_icmp_ne C (tgt := 79) (dk DX1_putKey_0 34 rfl) (by decide) (fun c_67 => ?_) (fun c_67 => ?_)
            · refine st_aload_n C (dk DX1_putKey_1 0 rfl) rfl ?_
              refine st_aload_n C (dk DX1_putKey_1 1 rfl) rfl ?_
              refine st_get C fl_RX1_24 (dk DX1_putKey_1 2 rfl) 0 rfl rfl ?_
              refine st_cS C (k_X0_cellOf l G) mf_X0_cellOf ms_X0_cellOf ml_RX1_60 (dk DX1_putKey_1 3 rfl) [] rfl rfl rfl rfl (Nat.le_of_ble_eq_true rfl) ⟨Nat.le_of_ble_eq_true rfl, Nat.le_of_ble_eq_true rfl⟩ ⟨Nat.zero_le _, Nat.zero_le _⟩ (fun r9 w9 hq9 => ?_)
              obtain ⟨rfl, rfl⟩ := hq9
              refine st_iload_n C (dk DX1_putKey_1 4 rfl) rfl ?_
              refine st_iload C (dk DX1_putKey_1 5 rfl) rfl ?_
              refine st_cS C (k_X0_of l G) mf_X0_of ms_X0_of ml_RX1_20 (dk DX1_putKey_1 6 rfl) [] rfl rfl rfl rfl (Nat.le_of_ble_eq_true rfl) ⟨Nat.le_of_ble_eq_true rfl, Nat.le_of_ble_eq_true rfl⟩ ⟨Nat.zero_le _, Nat.zero_le _⟩ (fun r9 w9 hq9 => ?_)
              obtain ⟨rfl, rfl⟩ := hq9
              refine st_put C fl_RX1_24 fc_0 fw_0_4 (dk DX1_putKey_1 7 rfl) 0 rfl rfl rfl (Nat.le_of_ble_eq_true rfl) ?_
              exact Rr 0 0 _ _ _ _ _ _ (Nat.zero_le _) (Nat.zero_le _) (dk DX1_putKey_1 8 rfl) (.inl ⟨rfl, rfl, rfl, rfl⟩) rfl ⟨rfl, ⟨rfl, by first | (simp [c_18, c_31, c_37, c_43, c_60, c_67, rPut, rPutP, rPut1, rPut2, cF]; done) | (simp [c_18, c_31, c_37, c_43, c_60, c_67, rPut, rPutP, rPut1, rPut2, cF]; rfl) | (simp_all [rPut, rPutP, rPut1, rPut2, cF]; done) | (simp_all [rPut, rPutP, rPut1, rPut2, cF]; rfl)⟩⟩
            · refine st_aload_n C (dk DX1_putKey_0 35 rfl) rfl ?_
              refine st_iload_n C (dk DX1_putKey_0 36 rfl) rfl ?_
              refine st_put C fl_RX1_34 fc_0 fw_0_3 (dk DX1_putKey_0 37 rfl) 0 rfl rfl rfl (Nat.le_of_ble_eq_true rfl) ?_
              refine st_iload C (dk DX1_putKey_0 38 rfl) rfl ?_
              refine st_istore C (dk DX1_putKey_0 39 rfl) (by decide) rfl ?_
              refine st_aload_n C (dk DX1_putKey_1 0 rfl) rfl ?_
              refine st_aload_n C (dk DX1_putKey_1 1 rfl) rfl ?_
              refine st_get C fl_RX1_24 (dk DX1_putKey_1 2 rfl) 0 rfl rfl ?_
              refine st_cS C (k_X0_cellOf l G) mf_X0_cellOf ms_X0_cellOf ml_RX1_60 (dk DX1_putKey_1 3 rfl) [] rfl rfl rfl rfl (Nat.le_of_ble_eq_true rfl) ⟨Nat.le_of_ble_eq_true rfl, Nat.le_of_ble_eq_true rfl⟩ ⟨Nat.zero_le _, Nat.zero_le _⟩ (fun r9 w9 hq9 => ?_)
              obtain ⟨rfl, rfl⟩ := hq9
              refine st_iload_n C (dk DX1_putKey_1 4 rfl) rfl ?_
              refine st_iload C (dk DX1_putKey_1 5 rfl) rfl ?_
              refine st_cS C (k_X0_of l G) mf_X0_of ms_X0_of ml_RX1_20 (dk DX1_putKey_1 6 rfl) [] rfl rfl rfl rfl (Nat.le_of_ble_eq_true rfl) ⟨Nat.le_of_ble_eq_true rfl, Nat.le_of_ble_eq_true rfl⟩ ⟨Nat.zero_le _, Nat.zero_le _⟩ (fun r9 w9 hq9 => ?_)
              obtain ⟨rfl, rfl⟩ := hq9
              refine st_put C fl_RX1_24 fc_0 fw_0_4 (dk DX1_putKey_1 7 rfl) 0 rfl rfl rfl (Nat.le_of_ble_eq_true rfl) ?_
              exact Rr 0 0 _ _ _ _ _ _ (Nat.zero_le _) (Nat.zero_le _) (dk DX1_putKey_1 8 rfl) (.inl ⟨rfl, rfl, rfl, rfl⟩) rfl ⟨rfl, ⟨rfl, by first | (simp [c_18, c_31, c_37, c_43, c_60, c_67, rPut, rPutP, rPut1, rPut2, cF]; done) | (simp [c_18, c_31, c_37, c_43, c_60, c_67, rPut, rPutP, rPut1, rPut2, cF]; rfl) | (simp_all [rPut, rPutP, rPut1, rPut2, cF]; done) | (simp_all [rPut, rPutP, rPut1, rPut2, cF]; rfl)⟩⟩
        · refine st_aload_n C (dk DX1_putKey_0 23 rfl) rfl ?_
          refine st_iload_n C (dk DX1_putKey_0 24 rfl) rfl ?_
          refine st_put C fl_RX1_31 fc_0 fw_0_2 (dk DX1_putKey_0 25 rfl) 0 rfl rfl rfl (Nat.le_of_ble_eq_true rfl) ?_
          refine st_iload C (dk DX1_putKey_0 26 rfl) rfl ?_
          refine st_istore_n C (dk DX1_putKey_0 27 rfl) (by decide) rfl ?_
          refine st_goto C (tgt := 79) (dk DX1_putKey_0 28 rfl) (by decide) ?_
          refine st_aload_n C (dk DX1_putKey_1 0 rfl) rfl ?_
          refine st_aload_n C (dk DX1_putKey_1 1 rfl) rfl ?_
          refine st_get C fl_RX1_24 (dk DX1_putKey_1 2 rfl) 0 rfl rfl ?_
          refine st_cS C (k_X0_cellOf l G) mf_X0_cellOf ms_X0_cellOf ml_RX1_60 (dk DX1_putKey_1 3 rfl) [] rfl rfl rfl rfl (Nat.le_of_ble_eq_true rfl) ⟨Nat.le_of_ble_eq_true rfl, Nat.le_of_ble_eq_true rfl⟩ ⟨Nat.zero_le _, Nat.zero_le _⟩ (fun r9 w9 hq9 => ?_)
          obtain ⟨rfl, rfl⟩ := hq9
          refine st_iload_n C (dk DX1_putKey_1 4 rfl) rfl ?_
          refine st_iload C (dk DX1_putKey_1 5 rfl) rfl ?_
          refine st_cS C (k_X0_of l G) mf_X0_of ms_X0_of ml_RX1_20 (dk DX1_putKey_1 6 rfl) [] rfl rfl rfl rfl (Nat.le_of_ble_eq_true rfl) ⟨Nat.le_of_ble_eq_true rfl, Nat.le_of_ble_eq_true rfl⟩ ⟨Nat.zero_le _, Nat.zero_le _⟩ (fun r9 w9 hq9 => ?_)
          obtain ⟨rfl, rfl⟩ := hq9
          refine st_put C fl_RX1_24 fc_0 fw_0_4 (dk DX1_putKey_1 7 rfl) 0 rfl rfl rfl (Nat.le_of_ble_eq_true rfl) ?_
          exact Rr 0 0 _ _ _ _ _ _ (Nat.zero_le _) (Nat.zero_le _) (dk DX1_putKey_1 8 rfl) (.inl ⟨rfl, rfl, rfl, rfl⟩) rfl ⟨rfl, ⟨rfl, by first | (simp [c_18, c_31, c_37, c_43, rPut, rPutP, rPut1, rPut2, cF]; done) | (simp [c_18, c_31, c_37, c_43, rPut, rPutP, rPut1, rPut2, cF]; rfl) | (simp_all [rPut, rPutP, rPut1, rPut2, cF]; done) | (simp_all [rPut, rPutP, rPut1, rPut2, cF]; rfl)⟩⟩
  · refine st_bipush C (v := 17) (dk DX1_putKey_0 10 rfl) (by decide) ?_
    refine st_goto C (tgt := 27) (dk DX1_putKey_0 11 rfl) (by decide) ?_
    refine st_istore C (dk DX1_putKey_0 13 rfl) (by decide) rfl ?_
    refine st_iload_n C (dk DX1_putKey_0 14 rfl) rfl ?_
    refine st_iload_n C (dk DX1_putKey_0 15 rfl) rfl ?_
    refine st_icmp_eq C (tgt := 46) (dk DX1_putKey_0 16 rfl) (by decide) (fun c_31 => ?_) (fun c_31 => ?_)
    · refine st_aload_n C (dk DX1_putKey_0 23 rfl) rfl ?_
      refine st_iload_n C (dk DX1_putKey_0 24 rfl) rfl ?_
      refine st_put C fl_RX1_31 fc_0 fw_0_2 (dk DX1_putKey_0 25 rfl) 0 rfl rfl rfl (Nat.le_of_ble_eq_true rfl) ?_
      refine st_iload C (dk DX1_putKey_0 26 rfl) rfl ?_
      refine st_istore_n C (dk DX1_putKey_0 27 rfl) (by decide) rfl ?_
      refine st_goto C (tgt := 79) (dk DX1_putKey_0 28 rfl) (by decide) ?_
      refine st_aload_n C (dk DX1_putKey_1 0 rfl) rfl ?_
      refine st_aload_n C (dk DX1_putKey_1 1 rfl) rfl ?_
      refine st_get C fl_RX1_24 (dk DX1_putKey_1 2 rfl) 0 rfl rfl ?_
      refine st_cS C (k_X0_cellOf l G) mf_X0_cellOf ms_X0_cellOf ml_RX1_60 (dk DX1_putKey_1 3 rfl) [] rfl rfl rfl rfl (Nat.le_of_ble_eq_true rfl) ⟨Nat.le_of_ble_eq_true rfl, Nat.le_of_ble_eq_true rfl⟩ ⟨Nat.zero_le _, Nat.zero_le _⟩ (fun r9 w9 hq9 => ?_)
      obtain ⟨rfl, rfl⟩ := hq9
      refine st_iload_n C (dk DX1_putKey_1 4 rfl) rfl ?_
      refine st_iload C (dk DX1_putKey_1 5 rfl) rfl ?_
      refine st_cS C (k_X0_of l G) mf_X0_of ms_X0_of ml_RX1_20 (dk DX1_putKey_1 6 rfl) [] rfl rfl rfl rfl (Nat.le_of_ble_eq_true rfl) ⟨Nat.le_of_ble_eq_true rfl, Nat.le_of_ble_eq_true rfl⟩ ⟨Nat.zero_le _, Nat.zero_le _⟩ (fun r9 w9 hq9 => ?_)
      obtain ⟨rfl, rfl⟩ := hq9
      refine st_put C fl_RX1_24 fc_0 fw_0_4 (dk DX1_putKey_1 7 rfl) 0 rfl rfl rfl (Nat.le_of_ble_eq_true rfl) ?_
      exact Rr 0 0 _ _ _ _ _ _ (Nat.zero_le _) (Nat.zero_le _) (dk DX1_putKey_1 8 rfl) (.inl ⟨rfl, rfl, rfl, rfl⟩) rfl ⟨rfl, ⟨rfl, by first | (simp [c_18, c_31, rPut, rPutP, rPut1, rPut2, cF]; done) | (simp [c_18, c_31, rPut, rPutP, rPut1, rPut2, cF]; rfl) | (simp_all [rPut, rPutP, rPut1, rPut2, cF]; done) | (simp_all [rPut, rPutP, rPut1, rPut2, cF]; rfl)⟩⟩
    · refine st_iload C (dk DX1_putKey_0 17 rfl) rfl ?_
      refine st_iload_n C (dk DX1_putKey_0 18 rfl) rfl ?_
      refine st_icmp_eq C (tgt := 57) (dk DX1_putKey_0 19 rfl) (by decide) (fun c_37 => ?_) (fun c_37 => ?_)
      · refine st_iload C (dk DX1_putKey_0 29 rfl) rfl ?_
        refine st_iload_n C (dk DX1_putKey_0 30 rfl) rfl ?_
        refine st_icmp_eq C (tgt := 70) (dk DX1_putKey_0 31 rfl) (by decide) (fun c_60 => ?_) (fun c_60 => ?_)
        · refine st_aload_n C (dk DX1_putKey_0 35 rfl) rfl ?_
          refine st_iload_n C (dk DX1_putKey_0 36 rfl) rfl ?_
          refine st_put C fl_RX1_34 fc_0 fw_0_3 (dk DX1_putKey_0 37 rfl) 0 rfl rfl rfl (Nat.le_of_ble_eq_true rfl) ?_
          refine st_iload C (dk DX1_putKey_0 38 rfl) rfl ?_
          refine st_istore C (dk DX1_putKey_0 39 rfl) (by decide) rfl ?_
          refine st_aload_n C (dk DX1_putKey_1 0 rfl) rfl ?_
          refine st_aload_n C (dk DX1_putKey_1 1 rfl) rfl ?_
          refine st_get C fl_RX1_24 (dk DX1_putKey_1 2 rfl) 0 rfl rfl ?_
          refine st_cS C (k_X0_cellOf l G) mf_X0_cellOf ms_X0_cellOf ml_RX1_60 (dk DX1_putKey_1 3 rfl) [] rfl rfl rfl rfl (Nat.le_of_ble_eq_true rfl) ⟨Nat.le_of_ble_eq_true rfl, Nat.le_of_ble_eq_true rfl⟩ ⟨Nat.zero_le _, Nat.zero_le _⟩ (fun r9 w9 hq9 => ?_)
          obtain ⟨rfl, rfl⟩ := hq9
          refine st_iload_n C (dk DX1_putKey_1 4 rfl) rfl ?_
          refine st_iload C (dk DX1_putKey_1 5 rfl) rfl ?_
          refine st_cS C (k_X0_of l G) mf_X0_of ms_X0_of ml_RX1_20 (dk DX1_putKey_1 6 rfl) [] rfl rfl rfl rfl (Nat.le_of_ble_eq_true rfl) ⟨Nat.le_of_ble_eq_true rfl, Nat.le_of_ble_eq_true rfl⟩ ⟨Nat.zero_le _, Nat.zero_le _⟩ (fun r9 w9 hq9 => ?_)
          obtain ⟨rfl, rfl⟩ := hq9
          refine st_put C fl_RX1_24 fc_0 fw_0_4 (dk DX1_putKey_1 7 rfl) 0 rfl rfl rfl (Nat.le_of_ble_eq_true rfl) ?_
          exact Rr 0 0 _ _ _ _ _ _ (Nat.zero_le _) (Nat.zero_le _) (dk DX1_putKey_1 8 rfl) (.inl ⟨rfl, rfl, rfl, rfl⟩) rfl ⟨rfl, ⟨rfl, by first | (simp [c_18, c_31, c_37, c_60, rPut, rPutP, rPut1, rPut2, cF]; done) | (simp [c_18, c_31, c_37, c_60, rPut, rPutP, rPut1, rPut2, cF]; rfl) | (simp_all [rPut, rPutP, rPut1, rPut2, cF]; done) | (simp_all [rPut, rPutP, rPut1, rPut2, cF]; rfl)⟩⟩
        · refine st_iload C (dk DX1_putKey_0 32 rfl) rfl ?_
          refine st_bipush C (v := 17) (dk DX1_putKey_0 33 rfl) (by decide) ?_
          refine st_icmp_ne C (tgt := 79) (dk DX1_putKey_0 34 rfl) (by decide) (fun c_67 => ?_) (fun c_67 => ?_)
          · refine st_aload_n C (dk DX1_putKey_1 0 rfl) rfl ?_
            refine st_aload_n C (dk DX1_putKey_1 1 rfl) rfl ?_
            refine st_get C fl_RX1_24 (dk DX1_putKey_1 2 rfl) 0 rfl rfl ?_
            refine st_cS C (k_X0_cellOf l G) mf_X0_cellOf ms_X0_cellOf ml_RX1_60 (dk DX1_putKey_1 3 rfl) [] rfl rfl rfl rfl (Nat.le_of_ble_eq_true rfl) ⟨Nat.le_of_ble_eq_true rfl, Nat.le_of_ble_eq_true rfl⟩ ⟨Nat.zero_le _, Nat.zero_le _⟩ (fun r9 w9 hq9 => ?_)
            obtain ⟨rfl, rfl⟩ := hq9
            refine st_iload_n C (dk DX1_putKey_1 4 rfl) rfl ?_
            refine st_iload C (dk DX1_putKey_1 5 rfl) rfl ?_
            refine st_cS C (k_X0_of l G) mf_X0_of ms_X0_of ml_RX1_20 (dk DX1_putKey_1 6 rfl) [] rfl rfl rfl rfl (Nat.le_of_ble_eq_true rfl) ⟨Nat.le_of_ble_eq_true rfl, Nat.le_of_ble_eq_true rfl⟩ ⟨Nat.zero_le _, Nat.zero_le _⟩ (fun r9 w9 hq9 => ?_)
            obtain ⟨rfl, rfl⟩ := hq9
            refine st_put C fl_RX1_24 fc_0 fw_0_4 (dk DX1_putKey_1 7 rfl) 0 rfl rfl rfl (Nat.le_of_ble_eq_true rfl) ?_
            exact Rr 0 0 _ _ _ _ _ _ (Nat.zero_le _) (Nat.zero_le _) (dk DX1_putKey_1 8 rfl) (.inl ⟨rfl, rfl, rfl, rfl⟩) rfl ⟨rfl, ⟨rfl, by first | (simp [c_18, c_31, c_37, c_60, c_67, rPut, rPutP, rPut1, rPut2, cF]; done) | (simp [c_18, c_31, c_37, c_60, c_67, rPut, rPutP, rPut1, rPut2, cF]; rfl) | (simp_all [rPut, rPutP, rPut1, rPut2, cF]; done) | (simp_all [rPut, rPutP, rPut1, rPut2, cF]; rfl)⟩⟩
          · refine st_aload_n C (dk DX1_putKey_0 35 rfl) rfl ?_
            refine st_iload_n C (dk DX1_putKey_0 36 rfl) rfl ?_
            refine st_put C fl_RX1_34 fc_0 fw_0_3 (dk DX1_putKey_0 37 rfl) 0 rfl rfl rfl (Nat.le_of_ble_eq_true rfl) ?_
            refine st_iload C (dk DX1_putKey_0 38 rfl) rfl ?_
            refine st_istore C (dk DX1_putKey_0 39 rfl) (by decide) rfl ?_
            refine st_aload_n C (dk DX1_putKey_1 0 rfl) rfl ?_
            refine st_aload_n C (dk DX1_putKey_1 1 rfl) rfl ?_
            refine st_get C fl_RX1_24 (dk DX1_putKey_1 2 rfl) 0 rfl rfl ?_
            refine st_cS C (k_X0_cellOf l G) mf_X0_cellOf ms_X0_cellOf ml_RX1_60 (dk DX1_putKey_1 3 rfl) [] rfl rfl rfl rfl (Nat.le_of_ble_eq_true rfl) ⟨Nat.le_of_ble_eq_true rfl, Nat.le_of_ble_eq_true rfl⟩ ⟨Nat.zero_le _, Nat.zero_le _⟩ (fun r9 w9 hq9 => ?_)
            obtain ⟨rfl, rfl⟩ := hq9
            refine st_iload_n C (dk DX1_putKey_1 4 rfl) rfl ?_
            refine st_iload C (dk DX1_putKey_1 5 rfl) rfl ?_
            refine st_cS C (k_X0_of l G) mf_X0_of ms_X0_of ml_RX1_20 (dk DX1_putKey_1 6 rfl) [] rfl rfl rfl rfl (Nat.le_of_ble_eq_true rfl) ⟨Nat.le_of_ble_eq_true rfl, Nat.le_of_ble_eq_true rfl⟩ ⟨Nat.zero_le _, Nat.zero_le _⟩ (fun r9 w9 hq9 => ?_)
            obtain ⟨rfl, rfl⟩ := hq9
            refine st_put C fl_RX1_24 fc_0 fw_0_4 (dk DX1_putKey_1 7 rfl) 0 rfl rfl rfl (Nat.le_of_ble_eq_true rfl) ?_
            exact Rr 0 0 _ _ _ _ _ _ (Nat.zero_le _) (Nat.zero_le _) (dk DX1_putKey_1 8 rfl) (.inl ⟨rfl, rfl, rfl, rfl⟩) rfl ⟨rfl, ⟨rfl, by first | (simp [c_18, c_31, c_37, c_60, c_67, rPut, rPutP, rPut1, rPut2, cF]; done) | (simp [c_18, c_31, c_37, c_60, c_67, rPut, rPutP, rPut1, rPut2, cF]; rfl) | (simp_all [rPut, rPutP, rPut1, rPut2, cF]; done) | (simp_all [rPut, rPutP, rPut1, rPut2, cF]; rfl)⟩⟩
      · refine st_iload_n C (dk DX1_putKey_0 20 rfl) rfl ?_
        refine st_bipush C (v := 17) (dk DX1_putKey_0 21 rfl) (by decide) ?_
        refine st_icmp_ne C (tgt := 57) (dk DX1_putKey_0 22 rfl) (by decide) (fun c_43 => ?_) (fun c_43 => ?_)
        · refine st_iload C (dk DX1_putKey_0 29 rfl) rfl ?_
          refine st_iload_n C (dk DX1_putKey_0 30 rfl) rfl ?_
          refine st_icmp_eq C (tgt := 70) (dk DX1_putKey_0 31 rfl) (by decide) (fun c_60 => ?_) (fun c_60 => ?_)
          · refine st_aload_n C (dk DX1_putKey_0 35 rfl) rfl ?_
            refine st_iload_n C (dk DX1_putKey_0 36 rfl) rfl ?_
            refine st_put C fl_RX1_34 fc_0 fw_0_3 (dk DX1_putKey_0 37 rfl) 0 rfl rfl rfl (Nat.le_of_ble_eq_true rfl) ?_
            refine st_iload C (dk DX1_putKey_0 38 rfl) rfl ?_
            refine st_istore C (dk DX1_putKey_0 39 rfl) (by decide) rfl ?_
            refine st_aload_n C (dk DX1_putKey_1 0 rfl) rfl ?_
            refine st_aload_n C (dk DX1_putKey_1 1 rfl) rfl ?_
            refine st_get C fl_RX1_24 (dk DX1_putKey_1 2 rfl) 0 rfl rfl ?_
            refine st_cS C (k_X0_cellOf l G) mf_X0_cellOf ms_X0_cellOf ml_RX1_60 (dk DX1_putKey_1 3 rfl) [] rfl rfl rfl rfl (Nat.le_of_ble_eq_true rfl) ⟨Nat.le_of_ble_eq_true rfl, Nat.le_of_ble_eq_true rfl⟩ ⟨Nat.zero_le _, Nat.zero_le _⟩ (fun r9 w9 hq9 => ?_)
            obtain ⟨rfl, rfl⟩ := hq9
            refine st_iload_n C (dk DX1_putKey_1 4 rfl) rfl ?_
            refine st_iload C (dk DX1_putKey_1 5 rfl) rfl ?_
            refine st_cS C (k_X0_of l G) mf_X0_of ms_X0_of ml_RX1_20 (dk DX1_putKey_1 6 rfl) [] rfl rfl rfl rfl (Nat.le_of_ble_eq_true rfl) ⟨Nat.le_of_ble_eq_true rfl, Nat.le_of_ble_eq_true rfl⟩ ⟨Nat.zero_le _, Nat.zero_le _⟩ (fun r9 w9 hq9 => ?_)
            obtain ⟨rfl, rfl⟩ := hq9
            refine st_put C fl_RX1_24 fc_0 fw_0_4 (dk DX1_putKey_1 7 rfl) 0 rfl rfl rfl (Nat.le_of_ble_eq_true rfl) ?_
            exact Rr 0 0 _ _ _ _ _ _ (Nat.zero_le _) (Nat.zero_le _) (dk DX1_putKey_1 8 rfl) (.inl ⟨rfl, rfl, rfl, rfl⟩) rfl ⟨rfl, ⟨rfl, by first | (simp [c_18, c_31, c_37, c_43, c_60, rPut, rPutP, rPut1, rPut2, cF]; done) | (simp [c_18, c_31, c_37, c_43, c_60, rPut, rPutP, rPut1, rPut2, cF]; rfl) | (simp_all [rPut, rPutP, rPut1, rPut2, cF]; done) | (simp_all [rPut, rPutP, rPut1, rPut2, cF]; rfl)⟩⟩
          · refine st_iload C (dk DX1_putKey_0 32 rfl) rfl ?_
            refine st_bipush C (v := 17) (dk DX1_putKey_0 33 rfl) (by decide) ?_
            refine st_icmp_ne C (tgt := 79) (dk DX1_putKey_0 34 rfl) (by decide) (fun c_67 => ?_) (fun c_67 => ?_)
            · refine st_aload_n C (dk DX1_putKey_1 0 rfl) rfl ?_
              refine st_aload_n C (dk DX1_putKey_1 1 rfl) rfl ?_
              refine st_get C fl_RX1_24 (dk DX1_putKey_1 2 rfl) 0 rfl rfl ?_
              refine st_cS C (k_X0_cellOf l G) mf_X0_cellOf ms_X0_cellOf ml_RX1_60 (dk DX1_putKey_1 3 rfl) [] rfl rfl rfl rfl (Nat.le_of_ble_eq_true rfl) ⟨Nat.le_of_ble_eq_true rfl, Nat.le_of_ble_eq_true rfl⟩ ⟨Nat.zero_le _, Nat.zero_le _⟩ (fun r9 w9 hq9 => ?_)
              obtain ⟨rfl, rfl⟩ := hq9
              refine st_iload_n C (dk DX1_putKey_1 4 rfl) rfl ?_
              refine st_iload C (dk DX1_putKey_1 5 rfl) rfl ?_
              refine st_cS C (k_X0_of l G) mf_X0_of ms_X0_of ml_RX1_20 (dk DX1_putKey_1 6 rfl) [] rfl rfl rfl rfl (Nat.le_of_ble_eq_true rfl) ⟨Nat.le_of_ble_eq_true rfl, Nat.le_of_ble_eq_true rfl⟩ ⟨Nat.zero_le _, Nat.zero_le _⟩ (fun r9 w9 hq9 => ?_)
              obtain ⟨rfl, rfl⟩ := hq9
              refine st_put C fl_RX1_24 fc_0 fw_0_4 (dk DX1_putKey_1 7 rfl) 0 rfl rfl rfl (Nat.le_of_ble_eq_true rfl) ?_
              exact Rr 0 0 _ _ _ _ _ _ (Nat.zero_le _) (Nat.zero_le _) (dk DX1_putKey_1 8 rfl) (.inl ⟨rfl, rfl, rfl, rfl⟩) rfl ⟨rfl, ⟨rfl, by first | (simp [c_18, c_31, c_37, c_43, c_60, c_67, rPut, rPutP, rPut1, rPut2, cF]; done) | (simp [c_18, c_31, c_37, c_43, c_60, c_67, rPut, rPutP, rPut1, rPut2, cF]; rfl) | (simp_all [rPut, rPutP, rPut1, rPut2, cF]; done) | (simp_all [rPut, rPutP, rPut1, rPut2, cF]; rfl)⟩⟩
            · refine st_aload_n C (dk DX1_putKey_0 35 rfl) rfl ?_
              refine st_iload_n C (dk DX1_putKey_0 36 rfl) rfl ?_
              refine st_put C fl_RX1_34 fc_0 fw_0_3 (dk DX1_putKey_0 37 rfl) 0 rfl rfl rfl (Nat.le_of_ble_eq_true rfl) ?_
              refine st_iload C (dk DX1_putKey_0 38 rfl) rfl ?_
              refine st_istore C (dk DX1_putKey_0 39 rfl) (by decide) rfl ?_
              refine st_aload_n C (dk DX1_putKey_1 0 rfl) rfl ?_
              refine st_aload_n C (dk DX1_putKey_1 1 rfl) rfl ?_
              refine st_get C fl_RX1_24 (dk DX1_putKey_1 2 rfl) 0 rfl rfl ?_
              refine st_cS C (k_X0_cellOf l G) mf_X0_cellOf ms_X0_cellOf ml_RX1_60 (dk DX1_putKey_1 3 rfl) [] rfl rfl rfl rfl (Nat.le_of_ble_eq_true rfl) ⟨Nat.le_of_ble_eq_true rfl, Nat.le_of_ble_eq_true rfl⟩ ⟨Nat.zero_le _, Nat.zero_le _⟩ (fun r9 w9 hq9 => ?_)
              obtain ⟨rfl, rfl⟩ := hq9
              refine st_iload_n C (dk DX1_putKey_1 4 rfl) rfl ?_
              refine st_iload C (dk DX1_putKey_1 5 rfl) rfl ?_
              refine st_cS C (k_X0_of l G) mf_X0_of ms_X0_of ml_RX1_20 (dk DX1_putKey_1 6 rfl) [] rfl rfl rfl rfl (Nat.le_of_ble_eq_true rfl) ⟨Nat.le_of_ble_eq_true rfl, Nat.le_of_ble_eq_true rfl⟩ ⟨Nat.zero_le _, Nat.zero_le _⟩ (fun r9 w9 hq9 => ?_)
              obtain ⟨rfl, rfl⟩ := hq9
              refine st_put C fl_RX1_24 fc_0 fw_0_4 (dk DX1_putKey_1 7 rfl) 0 rfl rfl rfl (Nat.le_of_ble_eq_true rfl) ?_
              exact Rr 0 0 _ _ _ _ _ _ (Nat.zero_le _) (Nat.zero_le _) (dk DX1_putKey_1 8 rfl) (.inl ⟨rfl, rfl, rfl, rfl⟩) rfl ⟨rfl, ⟨rfl, by first | (simp [c_18, c_31, c_37, c_43, c_60, c_67, rPut, rPutP, rPut1, rPut2, cF]; done) | (simp [c_18, c_31, c_37, c_43, c_60, c_67, rPut, rPutP, rPut1, rPut2, cF]; rfl) | (simp_all [rPut, rPutP, rPut1, rPut2, cF]; done) | (simp_all [rPut, rPutP, rPut1, rPut2, cF]; rfl)⟩⟩
        · refine st_aload_n C (dk DX1_putKey_0 23 rfl) rfl ?_
          refine st_iload_n C (dk DX1_putKey_0 24 rfl) rfl ?_
          refine st_put C fl_RX1_31 fc_0 fw_0_2 (dk DX1_putKey_0 25 rfl) 0 rfl rfl rfl (Nat.le_of_ble_eq_true rfl) ?_
          refine st_iload C (dk DX1_putKey_0 26 rfl) rfl ?_
          refine st_istore_n C (dk DX1_putKey_0 27 rfl) (by decide) rfl ?_
          refine st_goto C (tgt := 79) (dk DX1_putKey_0 28 rfl) (by decide) ?_
          refine st_aload_n C (dk DX1_putKey_1 0 rfl) rfl ?_
          refine st_aload_n C (dk DX1_putKey_1 1 rfl) rfl ?_
          refine st_get C fl_RX1_24 (dk DX1_putKey_1 2 rfl) 0 rfl rfl ?_
          refine st_cS C (k_X0_cellOf l G) mf_X0_cellOf ms_X0_cellOf ml_RX1_60 (dk DX1_putKey_1 3 rfl) [] rfl rfl rfl rfl (Nat.le_of_ble_eq_true rfl) ⟨Nat.le_of_ble_eq_true rfl, Nat.le_of_ble_eq_true rfl⟩ ⟨Nat.zero_le _, Nat.zero_le _⟩ (fun r9 w9 hq9 => ?_)
          obtain ⟨rfl, rfl⟩ := hq9
          refine st_iload_n C (dk DX1_putKey_1 4 rfl) rfl ?_
          refine st_iload C (dk DX1_putKey_1 5 rfl) rfl ?_
          refine st_cS C (k_X0_of l G) mf_X0_of ms_X0_of ml_RX1_20 (dk DX1_putKey_1 6 rfl) [] rfl rfl rfl rfl (Nat.le_of_ble_eq_true rfl) ⟨Nat.le_of_ble_eq_true rfl, Nat.le_of_ble_eq_true rfl⟩ ⟨Nat.zero_le _, Nat.zero_le _⟩ (fun r9 w9 hq9 => ?_)
          obtain ⟨rfl, rfl⟩ := hq9
          refine st_put C fl_RX1_24 fc_0 fw_0_4 (dk DX1_putKey_1 7 rfl) 0 rfl rfl rfl (Nat.le_of_ble_eq_true rfl) ?_
          exact Rr 0 0 _ _ _ _ _ _ (Nat.zero_le _) (Nat.zero_le _) (dk DX1_putKey_1 8 rfl) (.inl ⟨rfl, rfl, rfl, rfl⟩) rfl ⟨rfl, ⟨rfl, by first | (simp [c_18, c_31, c_37, c_43, rPut, rPutP, rPut1, rPut2, cF]; done) | (simp [c_18, c_31, c_37, c_43, rPut, rPutP, rPut1, rPut2, cF]; rfl) | (simp_all [rPut, rPutP, rPut1, rPut2, cF]; done) | (simp_all [rPut, rPutP, rPut1, rPut2, cF]; rfl)⟩⟩
end
section
/-! contracts of the corridor's loops -/
set_option maxHeartbeats 4000000 in
set_option maxRecDepth 100000 in
theorem k_X1_doors (l : Launch) (G : wG) {p q1 q2 : Nat} {fb sb co le sp sw dp : Int32} {lk : Nat → Int32} : Con0 l G yX1_doors cX1_doors 3 (some .int) 0 [.ref p] [(p, ob 0 (cF q1 q2 fb sb co le sp sw dp)), (q1, aI G 15 lk)] (fun r w => r = some (.int (rDoors lk 15)) ∧ w = [(p, ob 0 (cF q1 q2 fb sb co le sp sw dp)), (q1, aI G 15 lk)]) := by
  refine Con.mk (by decide +kernel) (Nat.le_of_ble_eq_true rfl) (fun P C Rr => ?_)
  have loop : ∀ (m i : Nat) (acc x : Int32), i + m = 15 → x = nI i → acc = rDoors lk i → P 0 0 4 [(0, .ref p), (1, .int acc), (2, .int x)] [] [(p, ob 0 (cF q1 q2 fb sb co le sp sw dp)), (q1, aI G 15 lk)] := by
    intro m
    induction m with
    | zero =>
      intro i acc x hi hx hacc
      obtain rfl : i = 15 := by omega
      refine st_iload_n C (dk DX1_doors_0 4 rfl) rfl ?_
      refine st_bipush C (v := 15) (dk DX1_doors_0 5 rfl) (by decide) ?_
      refine st_icmp_ge C (tgt := 28) (dk DX1_doors_0 6 rfl) (by decide) (fun c_7 => ?_) (fun c_7 => ?_)
      · refine st_iload_n C (dk DX1_doors_0 15 rfl) rfl ?_
        exact Rr 0 0 _ _ _ _ _ _ (Nat.zero_le _) (Nat.zero_le _) (dk DX1_doors_0 16 rfl) (.inr (.inl ⟨_, rfl, rfl, rfl, rfl⟩)) rfl ⟨rfl, ⟨by rw [hacc], rfl⟩⟩
      · exact absurd ((ge_nI (a := 15) (i := 15) (by decide) (by decide) rfl hx).mpr (Nat.le_refl _)) c_7
    | succ m ih =>
      intro i acc x hi hx hacc
      refine st_iload_n C (dk DX1_doors_0 4 rfl) rfl ?_
      refine st_bipush C (v := 15) (dk DX1_doors_0 5 rfl) (by decide) ?_
      refine st_icmp_ge C (tgt := 28) (dk DX1_doors_0 6 rfl) (by decide) (fun c_7 => ?_) (fun c_7 => ?_)
      · exact absurd ((ge_nI (a := 15) (i := i) (by decide) (by omega) rfl hx).mp c_7) (by omega)
      · refine st_aload_n C (dk DX1_doors_0 7 rfl) rfl ?_
        refine st_get C fl_RX1_9 (dk DX1_doors_0 8 rfl) 0 rfl rfl ?_
        refine st_iload_n C (dk DX1_doors_0 9 rfl) rfl ?_
        refine st_iald C (dk DX1_doors_0 10 rfl) 1 rfl (vp_nI hx (by omega : i < 15) (by decide)) ?_
        refine st_if_eq C (tgt := 22) (dk DX1_doors_0 11 rfl) (by decide) (fun c_16 => ?_) (fun c_16 => ?_)
        · refine st_iinc C (dk DX1_doors_0 13 rfl) rfl (iadd_ofInt _ (1) (1) (by decide)) (by decide) rfl ?_
          refine st_goto C (tgt := 4) (dk DX1_doors_0 14 rfl) (by decide) ?_
          exact ih (i + 1) _ _ (by omega) (up_nI hx) (by rw [hacc]; rw [cl_nI hx (by omega)] at c_16; simp [rDoors, c_16])
        · refine st_iinc C (dk DX1_doors_0 12 rfl) rfl (iadd_ofInt _ (1) (1) (by decide)) (by decide) rfl ?_
          refine st_iinc C (dk DX1_doors_0 13 rfl) rfl (iadd_ofInt _ (1) (1) (by decide)) (by decide) rfl ?_
          refine st_goto C (tgt := 4) (dk DX1_doors_0 14 rfl) (by decide) ?_
          exact ih (i + 1) _ _ (by omega) (up_nI hx) (by rw [hacc]; rw [cl_nI hx (by omega)] at c_16; simp [rDoors, c_16])
  refine st_iconst C (v := 0) (dk DX1_doors_0 0 rfl) (by decide) ?_
  refine st_istore_n C (dk DX1_doors_0 1 rfl) (by decide) rfl ?_
  refine st_iconst C (v := 0) (dk DX1_doors_0 2 rfl) (by decide) ?_
  refine st_istore_n C (dk DX1_doors_0 3 rfl) (by decide) rfl ?_
  exact loop 15 0 _ _ (by omega) (by decide) rfl
set_option maxHeartbeats 4000000 in
set_option maxRecDepth 100000 in
theorem k_X1_laddersBetween (l : Launch) (G : wG) {p q1 q2 : Nat} {fb sb co le sp sw dp : Int32} {ld : Nat → Int32} : Con0 l G yX1_laddersBetween cX1_laddersBetween 3 (some .int) 2 [.ref p] [(p, ob 0 (cF q1 q2 fb sb co le sp sw dp)), (q2, aI G 16 ld)] (fun r w => r = some (.int (rLads ld le 16)) ∧ w = [(p, ob 0 (cF q1 q2 fb sb co le sp sw dp)), (q2, aI G 16 ld)]) := by
  refine Con.mk (by decide +kernel) (Nat.le_of_ble_eq_true rfl) (fun P C Rr => ?_)
  have loop : ∀ (m i : Nat) (acc x : Int32), i + m = 16 → x = nI i → acc = rLads ld le i → P 0 0 4 [(0, .ref p), (1, .int acc), (2, .int x)] [] [(p, ob 0 (cF q1 q2 fb sb co le sp sw dp)), (q2, aI G 16 ld)] := by
    intro m
    induction m with
    | zero =>
      intro i acc x hi hx hacc
      obtain rfl : i = 16 := by omega
      refine st_iload_n C (dk DX1_laddersBetween_0 4 rfl) rfl ?_
      refine st_bipush C (v := 16) (dk DX1_laddersBetween_0 5 rfl) (by decide) ?_
      refine st_icmp_ge C (tgt := 28) (dk DX1_laddersBetween_0 6 rfl) (by decide) (fun c_7 => ?_) (fun c_7 => ?_)
      · refine st_iload_n C (dk DX1_laddersBetween_0 15 rfl) rfl ?_
        exact Rr 0 0 _ _ _ _ _ _ (Nat.zero_le _) (Nat.zero_le _) (dk DX1_laddersBetween_0 16 rfl) (.inr (.inl ⟨_, rfl, rfl, rfl, rfl⟩)) rfl ⟨rfl, ⟨by rw [hacc], rfl⟩⟩
      · exact absurd ((ge_nI (a := 16) (i := 16) (by decide) (by decide) rfl hx).mpr (Nat.le_refl _)) c_7
    | succ m ih =>
      intro i acc x hi hx hacc
      refine st_iload_n C (dk DX1_laddersBetween_0 4 rfl) rfl ?_
      refine st_bipush C (v := 16) (dk DX1_laddersBetween_0 5 rfl) (by decide) ?_
      refine st_icmp_ge C (tgt := 28) (dk DX1_laddersBetween_0 6 rfl) (by decide) (fun c_7 => ?_) (fun c_7 => ?_)
      · exact absurd ((ge_nI (a := 16) (i := i) (by decide) (by omega) rfl hx).mp c_7) (by omega)
      · refine st_aload_n C (dk DX1_laddersBetween_0 7 rfl) rfl ?_
        refine st_iload_n C (dk DX1_laddersBetween_0 8 rfl) rfl ?_
        refine st_cV C (k_X1_cellAbove l G) mf_X1_cellAbove mi_X1_cellAbove ml_RX1_63 (dk DX1_laddersBetween_0 9 rfl) [0, 1] rfl rfl rfl rfl (Nat.le_of_ble_eq_true rfl) rfl rfl ⟨Nat.le_of_ble_eq_true rfl, Nat.le_of_ble_eq_true rfl⟩ ⟨Nat.zero_le _, Nat.zero_le _⟩ (fun r9 w9 hq9 => ?_)
        obtain ⟨rfl, rfl⟩ := hq9
        refine st_iconst C (v := -1) (dk DX1_laddersBetween_0 10 rfl) (by decide) ?_
        refine st_icmp_eq C (tgt := 22) (dk DX1_laddersBetween_0 11 rfl) (by decide) (fun c_16 => ?_) (fun c_16 => ?_)
        · refine st_iinc C (dk DX1_laddersBetween_0 13 rfl) rfl (iadd_ofInt _ (1) (1) (by decide)) (by decide) rfl ?_
          refine st_goto C (tgt := 4) (dk DX1_laddersBetween_0 14 rfl) (by decide) ?_
          exact ih (i + 1) _ _ (by omega) (up_nI hx) (by rw [hacc]; rw [hx] at c_16; simp [rLads, c_16])
        · refine st_iinc C (dk DX1_laddersBetween_0 12 rfl) rfl (iadd_ofInt _ (1) (1) (by decide)) (by decide) rfl ?_
          refine st_iinc C (dk DX1_laddersBetween_0 13 rfl) rfl (iadd_ofInt _ (1) (1) (by decide)) (by decide) rfl ?_
          refine st_goto C (tgt := 4) (dk DX1_laddersBetween_0 14 rfl) (by decide) ?_
          exact ih (i + 1) _ _ (by omega) (up_nI hx) (by rw [hacc]; rw [hx] at c_16; simp [rLads, c_16])
  refine st_iconst C (v := 0) (dk DX1_laddersBetween_0 0 rfl) (by decide) ?_
  refine st_istore_n C (dk DX1_laddersBetween_0 1 rfl) (by decide) rfl ?_
  refine st_iconst C (v := 0) (dk DX1_laddersBetween_0 2 rfl) (by decide) ?_
  refine st_istore_n C (dk DX1_laddersBetween_0 3 rfl) (by decide) rfl ?_
  exact loop 16 0 _ _ (by omega) (by decide) rfl
set_option maxHeartbeats 4000000 in
set_option maxRecDepth 100000 in
theorem k_X1_copyFrom (l : Launch) (G : wG) {p q1 q2 r r1 r2 : Nat} {fb sb co le sp sw dp fb2 sb2 co2 le2 sp2 sw2 dp2 : Int32} {lk ld lk2 ld2 : Nat → Int32} : Con0 l G yX1_copyFrom cX1_copyFrom 3 none 0 [.ref p, .ref r] [(p, ob 0 (cF q1 q2 fb sb co le sp sw dp)), (q1, aI G 15 lk), (q2, aI G 16 ld), (r, ob 0 (cF r1 r2 fb2 sb2 co2 le2 sp2 sw2 dp2)), (r1, aI G 15 lk2), (r2, aI G 16 ld2)] (fun v w => v = none ∧ ∃ lk3 ld3 : Nat → Int32, (∀ j, j < 15 → lk3 j = lk2 j) ∧ (∀ j, j < 16 → ld3 j = ld2 j) ∧ w = [(p, ob 0 (cF q1 q2 fb2 sb2 co2 le2 sp2 sw2 dp2)), (q1, aI G 15 lk3), (q2, aI G 16 ld3), (r, ob 0 (cF r1 r2 fb2 sb2 co2 le2 sp2 sw2 dp2)), (r1, aI G 15 lk2), (r2, aI G 16 ld2)]) := by
  refine Con.mk (by decide +kernel) (Nat.le_of_ble_eq_true rfl) (fun P C Rr => ?_)
  have K52 : ∀ (x : Int32) (lk ld : Nat → Int32), (∀ j, j < 15 → lk j = lk2 j) → (∀ j, j < 16 → ld j = ld2 j) → P 0 0 52 [(0, .ref p), (1, .ref r), (2, .int x)] [] [(p, ob 0 (cF q1 q2 fb sb co le sp sw dp)), (q1, aI G 15 lk), (q2, aI G 16 ld), (r, ob 0 (cF r1 r2 fb2 sb2 co2 le2 sp2 sw2 dp2)), (r1, aI G 15 lk2), (r2, aI G 16 ld2)] := by
    intro x lk ld hlk hld
    refine st_aload_n C (dk DX1_copyFrom_0 30 rfl) rfl ?_
    refine st_aload_n C (dk DX1_copyFrom_0 31 rfl) rfl ?_
    refine st_get C fl_RX1_31 (dk DX1_copyFrom_0 32 rfl) 3 rfl rfl ?_
    refine st_put C fl_RX1_31 fc_0 fw_0_2 (dk DX1_copyFrom_0 33 rfl) 0 rfl rfl rfl (Nat.le_of_ble_eq_true rfl) ?_
    refine st_aload_n C (dk DX1_copyFrom_0 34 rfl) rfl ?_
    refine st_aload_n C (dk DX1_copyFrom_0 35 rfl) rfl ?_
    refine st_get C fl_RX1_34 (dk DX1_copyFrom_0 36 rfl) 3 rfl rfl ?_
    refine st_put C fl_RX1_34 fc_0 fw_0_3 (dk DX1_copyFrom_0 37 rfl) 0 rfl rfl rfl (Nat.le_of_ble_eq_true rfl) ?_
    refine st_aload_n C (dk DX1_copyFrom_0 38 rfl) rfl ?_
    refine st_aload_n C (dk DX1_copyFrom_0 39 rfl) rfl ?_
    refine st_get C fl_RX1_24 (dk DX1_copyFrom_1 0 rfl) 3 rfl rfl ?_
    refine st_put C fl_RX1_24 fc_0 fw_0_4 (dk DX1_copyFrom_1 1 rfl) 0 rfl rfl rfl (Nat.le_of_ble_eq_true rfl) ?_
    refine st_aload_n C (dk DX1_copyFrom_1 2 rfl) rfl ?_
    refine st_aload_n C (dk DX1_copyFrom_1 3 rfl) rfl ?_
    refine st_get C fl_RX1_28 (dk DX1_copyFrom_1 4 rfl) 3 rfl rfl ?_
    refine st_put C fl_RX1_28 fc_0 fw_0_5 (dk DX1_copyFrom_1 5 rfl) 0 rfl rfl rfl (Nat.le_of_ble_eq_true rfl) ?_
    refine st_aload_n C (dk DX1_copyFrom_1 6 rfl) rfl ?_
    refine st_aload_n C (dk DX1_copyFrom_1 7 rfl) rfl ?_
    refine st_get C fl_RX1_37 (dk DX1_copyFrom_1 8 rfl) 3 rfl rfl ?_
    refine st_put C fl_RX1_37 fc_0 fw_0_6 (dk DX1_copyFrom_1 9 rfl) 0 rfl rfl rfl (Nat.le_of_ble_eq_true rfl) ?_
    refine st_aload_n C (dk DX1_copyFrom_1 10 rfl) rfl ?_
    refine st_aload_n C (dk DX1_copyFrom_1 11 rfl) rfl ?_
    refine st_get C fl_RX1_40 (dk DX1_copyFrom_1 12 rfl) 3 rfl rfl ?_
    refine st_put C fl_RX1_40 fc_0 fw_0_7 (dk DX1_copyFrom_1 13 rfl) 0 rfl rfl rfl (Nat.le_of_ble_eq_true rfl) ?_
    refine st_aload_n C (dk DX1_copyFrom_1 14 rfl) rfl ?_
    refine st_aload_n C (dk DX1_copyFrom_1 15 rfl) rfl ?_
    refine st_get C fl_RX1_43 (dk DX1_copyFrom_1 16 rfl) 3 rfl rfl ?_
    refine st_put C fl_RX1_43 fc_0 fw_0_8 (dk DX1_copyFrom_1 17 rfl) 0 rfl rfl rfl (Nat.le_of_ble_eq_true rfl) ?_
    exact Rr 0 0 _ _ _ _ _ _ (Nat.zero_le _) (Nat.zero_le _) (dk DX1_copyFrom_1 18 rfl) (.inl ⟨rfl, rfl, rfl, rfl⟩) rfl ⟨rfl, ⟨rfl, lk, ld, hlk, hld, rfl⟩⟩
  have loop2 : ∀ (lk : Nat → Int32) (hlk : ∀ j, j < 15 → lk j = lk2 j) (m i : Nat) (x : Int32) (ld : Nat → Int32), i + m = 16 → x = nI i → (∀ j, j < i → ld j = ld2 j) → P 0 0 28 [(0, .ref p), (1, .ref r), (2, .int x)] [] [(p, ob 0 (cF q1 q2 fb sb co le sp sw dp)), (q1, aI G 15 lk), (q2, aI G 16 ld), (r, ob 0 (cF r1 r2 fb2 sb2 co2 le2 sp2 sw2 dp2)), (r1, aI G 15 lk2), (r2, aI G 16 ld2)] := by
    intro lk hlk m
    induction m with
    | zero =>
      intro i x ld hi hx hf
      obtain rfl : i = 16 := by omega
      refine st_iload_n C (dk DX1_copyFrom_0 17 rfl) rfl ?_
      refine st_bipush C (v := 16) (dk DX1_copyFrom_0 18 rfl) (by decide) ?_
      refine st_icmp_ge C (tgt := 52) (dk DX1_copyFrom_0 19 rfl) (by decide) (fun c_31 => ?_) (fun c_31 => ?_)
      · exact K52 _ _ _ hlk hf
      · exact absurd ((ge_nI (a := 16) (i := 16) (by decide) (by decide) rfl hx).mpr (Nat.le_refl _)) c_31
    | succ m ih =>
      intro i x ld hi hx hf
      refine st_iload_n C (dk DX1_copyFrom_0 17 rfl) rfl ?_
      refine st_bipush C (v := 16) (dk DX1_copyFrom_0 18 rfl) (by decide) ?_
      refine st_icmp_ge C (tgt := 52) (dk DX1_copyFrom_0 19 rfl) (by decide) (fun c_31 => ?_) (fun c_31 => ?_)
      · exact absurd ((ge_nI (a := 16) (i := i) (by decide) (by omega) rfl hx).mp c_31) (by omega)
      · refine st_aload_n C (dk DX1_copyFrom_0 20 rfl) rfl ?_
        refine st_get C fl_RX1_15 (dk DX1_copyFrom_0 21 rfl) 0 rfl rfl ?_
        refine st_iload_n C (dk DX1_copyFrom_0 22 rfl) rfl ?_
        refine st_aload_n C (dk DX1_copyFrom_0 23 rfl) rfl ?_
        refine st_get C fl_RX1_15 (dk DX1_copyFrom_0 24 rfl) 3 rfl rfl ?_
        refine st_iload_n C (dk DX1_copyFrom_0 25 rfl) rfl ?_
        refine st_iald C (dk DX1_copyFrom_0 26 rfl) 5 rfl (vp_nI hx (by omega : i < 16) (by decide)) ?_
        refine st_iast C (dk DX1_copyFrom_0 27 rfl) 2 rfl (vp_nI hx (by omega : i < 16) (by decide)) ?_
        refine st_iinc C (dk DX1_copyFrom_0 28 rfl) rfl (iadd_ofInt _ (1) (1) (by decide)) (by decide) rfl ?_
        refine st_goto C (tgt := 28) (dk DX1_copyFrom_0 29 rfl) (by decide) ?_
        exact ih (i + 1) _ _ (by omega) (up_nI hx) (upd_cp hx (by omega) hf)
  have loop1 : ∀  (m i : Nat) (x : Int32) (lk : Nat → Int32), i + m = 15 → x = nI i → (∀ j, j < i → lk j = lk2 j) → P 0 0 2 [(0, .ref p), (1, .ref r), (2, .int x)] [] [(p, ob 0 (cF q1 q2 fb sb co le sp sw dp)), (q1, aI G 15 lk), (q2, aI G 16 ld), (r, ob 0 (cF r1 r2 fb2 sb2 co2 le2 sp2 sw2 dp2)), (r1, aI G 15 lk2), (r2, aI G 16 ld2)] := by
    intro m
    induction m with
    | zero =>
      intro i x lk hi hx hf
      obtain rfl : i = 15 := by omega
      refine st_iload_n C (dk DX1_copyFrom_0 2 rfl) rfl ?_
      refine st_bipush C (v := 15) (dk DX1_copyFrom_0 3 rfl) (by decide) ?_
      refine st_icmp_ge C (tgt := 26) (dk DX1_copyFrom_0 4 rfl) (by decide) (fun c_5 => ?_) (fun c_5 => ?_)
      refine st_iconst C (v := 0) (dk DX1_copyFrom_0 15 rfl) (by decide) ?_
      refine st_istore_n C (dk DX1_copyFrom_0 16 rfl) (by decide) rfl ?_
      exact loop2 lk hf 16 0 _ ld (by omega) (by decide) (fun j hj => absurd hj (Nat.not_lt_zero j))
      · exact absurd ((ge_nI (a := 15) (i := 15) (by decide) (by decide) rfl hx).mpr (Nat.le_refl _)) c_5
    | succ m ih =>
      intro i x lk hi hx hf
      refine st_iload_n C (dk DX1_copyFrom_0 2 rfl) rfl ?_
      refine st_bipush C (v := 15) (dk DX1_copyFrom_0 3 rfl) (by decide) ?_
      refine st_icmp_ge C (tgt := 26) (dk DX1_copyFrom_0 4 rfl) (by decide) (fun c_5 => ?_) (fun c_5 => ?_)
      · exact absurd ((ge_nI (a := 15) (i := i) (by decide) (by omega) rfl hx).mp c_5) (by omega)
      · refine st_aload_n C (dk DX1_copyFrom_0 5 rfl) rfl ?_
        refine st_get C fl_RX1_9 (dk DX1_copyFrom_0 6 rfl) 0 rfl rfl ?_
        refine st_iload_n C (dk DX1_copyFrom_0 7 rfl) rfl ?_
        refine st_aload_n C (dk DX1_copyFrom_0 8 rfl) rfl ?_
        refine st_get C fl_RX1_9 (dk DX1_copyFrom_0 9 rfl) 3 rfl rfl ?_
        refine st_iload_n C (dk DX1_copyFrom_0 10 rfl) rfl ?_
        refine st_iald C (dk DX1_copyFrom_0 11 rfl) 4 rfl (vp_nI hx (by omega : i < 15) (by decide)) ?_
        refine st_iast C (dk DX1_copyFrom_0 12 rfl) 1 rfl (vp_nI hx (by omega : i < 15) (by decide)) ?_
        refine st_iinc C (dk DX1_copyFrom_0 13 rfl) rfl (iadd_ofInt _ (1) (1) (by decide)) (by decide) rfl ?_
        refine st_goto C (tgt := 2) (dk DX1_copyFrom_0 14 rfl) (by decide) ?_
        exact ih (i + 1) _ _ (by omega) (up_nI hx) (upd_cp hx (by omega) hf)
  refine st_iconst C (v := 0) (dk DX1_copyFrom_0 0 rfl) (by decide) ?_
  refine st_istore_n C (dk DX1_copyFrom_0 1 rfl) (by decide) rfl ?_
  exact loop1 15 0 _ lk (by omega) (by decide) (fun j hj => absurd hj (Nat.not_lt_zero j))
set_option maxHeartbeats 4000000 in
set_option maxRecDepth 100000 in
theorem k_X1_clear (l : Launch) (G : wG) {p q1 q2 : Nat} {fb sb co le sp sw dp : Int32} {lk ld : Nat → Int32} : Con0 l G yX1_clear cX1_clear 2 none 1 [.ref p] [(p, ob 0 (cF q1 q2 fb sb co le sp sw dp)), (q1, aI G 15 lk), (q2, aI G 16 ld)] (fun v w => v = none ∧ ∃ lk3 ld3 : Nat → Int32, (∀ j, j < 15 → lk3 j = 0) ∧ (∀ j, j < 16 → ld3 j = 0) ∧ w = [(p, ob 0 (cF q1 q2 0 0 (rOf 0 17 17) le sp sw dp)), (q1, aI G 15 lk3), (q2, aI G 16 ld3)]) := by
  refine Con.mk (by decide +kernel) (Nat.le_of_ble_eq_true rfl) (fun P C Rr => ?_)
  have K42 : ∀ (x : Int32) (lk ld : Nat → Int32), (∀ j, j < 15 → lk j = 0) → (∀ j, j < 16 → ld j = 0) → P 0 0 42 [(0, .ref p), (1, .int x)] [] [(p, ob 0 (cF q1 q2 fb sb co le sp sw dp)), (q1, aI G 15 lk), (q2, aI G 16 ld)] := by
    intro x lk ld hlk hld
    refine st_aload_n C (dk DX1_clear_0 24 rfl) rfl ?_
    refine st_iconst C (v := 0) (dk DX1_clear_0 25 rfl) (by decide) ?_
    refine st_put C fl_RX1_31 fc_0 fw_0_2 (dk DX1_clear_0 26 rfl) 0 rfl rfl rfl (Nat.le_of_ble_eq_true rfl) ?_
    refine st_aload_n C (dk DX1_clear_0 27 rfl) rfl ?_
    refine st_iconst C (v := 0) (dk DX1_clear_0 28 rfl) (by decide) ?_
    refine st_put C fl_RX1_34 fc_0 fw_0_3 (dk DX1_clear_0 29 rfl) 0 rfl rfl rfl (Nat.le_of_ble_eq_true rfl) ?_
    refine st_aload_n C (dk DX1_clear_0 30 rfl) rfl ?_
    refine st_iconst C (v := 0) (dk DX1_clear_0 31 rfl) (by decide) ?_
    refine st_bipush C (v := 17) (dk DX1_clear_0 32 rfl) (by decide) ?_
    refine st_bipush C (v := 17) (dk DX1_clear_0 33 rfl) (by decide) ?_
    refine st_cS C (k_X0_of l G) mf_X0_of ms_X0_of ml_RX1_20 (dk DX1_clear_0 34 rfl) [] rfl rfl rfl rfl (Nat.le_of_ble_eq_true rfl) ⟨Nat.le_of_ble_eq_true rfl, Nat.le_of_ble_eq_true rfl⟩ ⟨Nat.zero_le _, Nat.zero_le _⟩ (fun r9 w9 hq9 => ?_)
    obtain ⟨rfl, rfl⟩ := hq9
    refine st_put C fl_RX1_24 fc_0 fw_0_4 (dk DX1_clear_0 35 rfl) 0 rfl rfl rfl (Nat.le_of_ble_eq_true rfl) ?_
    exact Rr 0 0 _ _ _ _ _ _ (Nat.zero_le _) (Nat.zero_le _) (dk DX1_clear_0 36 rfl) (.inl ⟨rfl, rfl, rfl, rfl⟩) rfl ⟨rfl, ⟨rfl, lk, ld, hlk, hld, rfl⟩⟩
  have loop2 : ∀ (lk : Nat → Int32) (hlk : ∀ j, j < 15 → lk j = 0) (m i : Nat) (x : Int32) (ld : Nat → Int32), i + m = 16 → x = nI i → (∀ j, j < i → ld j = 0) → P 0 0 23 [(0, .ref p), (1, .int x)] [] [(p, ob 0 (cF q1 q2 fb sb co le sp sw dp)), (q1, aI G 15 lk), (q2, aI G 16 ld)] := by
    intro lk hlk m
    induction m with
    | zero =>
      intro i x ld hi hx hf
      obtain rfl : i = 16 := by omega
      refine st_iload_n C (dk DX1_clear_0 14 rfl) rfl ?_
      refine st_bipush C (v := 16) (dk DX1_clear_0 15 rfl) (by decide) ?_
      refine st_icmp_ge C (tgt := 42) (dk DX1_clear_0 16 rfl) (by decide) (fun c_26 => ?_) (fun c_26 => ?_)
      · exact K42 _ _ _ hlk hf
      · exact absurd ((ge_nI (a := 16) (i := 16) (by decide) (by decide) rfl hx).mpr (Nat.le_refl _)) c_26
    | succ m ih =>
      intro i x ld hi hx hf
      refine st_iload_n C (dk DX1_clear_0 14 rfl) rfl ?_
      refine st_bipush C (v := 16) (dk DX1_clear_0 15 rfl) (by decide) ?_
      refine st_icmp_ge C (tgt := 42) (dk DX1_clear_0 16 rfl) (by decide) (fun c_26 => ?_) (fun c_26 => ?_)
      · exact absurd ((ge_nI (a := 16) (i := i) (by decide) (by omega) rfl hx).mp c_26) (by omega)
      · refine st_aload_n C (dk DX1_clear_0 17 rfl) rfl ?_
        refine st_get C fl_RX1_15 (dk DX1_clear_0 18 rfl) 0 rfl rfl ?_
        refine st_iload_n C (dk DX1_clear_0 19 rfl) rfl ?_
        refine st_iconst C (v := 0) (dk DX1_clear_0 20 rfl) (by decide) ?_
        refine st_iast C (dk DX1_clear_0 21 rfl) 2 rfl (vp_nI hx (by omega : i < 16) (by decide)) ?_
        refine st_iinc C (dk DX1_clear_0 22 rfl) rfl (iadd_ofInt _ (1) (1) (by decide)) (by decide) rfl ?_
        refine st_goto C (tgt := 23) (dk DX1_clear_0 23 rfl) (by decide) ?_
        exact ih (i + 1) _ _ (by omega) (up_nI hx) (upd_cp (g := fun _ => 0) hx (by omega) hf)
  have loop1 : ∀  (m i : Nat) (x : Int32) (lk : Nat → Int32), i + m = 15 → x = nI i → (∀ j, j < i → lk j = 0) → P 0 0 2 [(0, .ref p), (1, .int x)] [] [(p, ob 0 (cF q1 q2 fb sb co le sp sw dp)), (q1, aI G 15 lk), (q2, aI G 16 ld)] := by
    intro m
    induction m with
    | zero =>
      intro i x lk hi hx hf
      obtain rfl : i = 15 := by omega
      refine st_iload_n C (dk DX1_clear_0 2 rfl) rfl ?_
      refine st_bipush C (v := 15) (dk DX1_clear_0 3 rfl) (by decide) ?_
      refine st_icmp_ge C (tgt := 21) (dk DX1_clear_0 4 rfl) (by decide) (fun c_5 => ?_) (fun c_5 => ?_)
      · refine st_iconst C (v := 0) (dk DX1_clear_0 12 rfl) (by decide) ?_
        refine st_istore_n C (dk DX1_clear_0 13 rfl) (by decide) rfl ?_
        exact loop2 lk hf 16 0 _ ld (by omega) (by decide) (fun j hj => absurd hj (Nat.not_lt_zero j))
      · exact absurd ((ge_nI (a := 15) (i := 15) (by decide) (by decide) rfl hx).mpr (Nat.le_refl _)) c_5
    | succ m ih =>
      intro i x lk hi hx hf
      refine st_iload_n C (dk DX1_clear_0 2 rfl) rfl ?_
      refine st_bipush C (v := 15) (dk DX1_clear_0 3 rfl) (by decide) ?_
      refine st_icmp_ge C (tgt := 21) (dk DX1_clear_0 4 rfl) (by decide) (fun c_5 => ?_) (fun c_5 => ?_)
      · exact absurd ((ge_nI (a := 15) (i := i) (by decide) (by omega) rfl hx).mp c_5) (by omega)
      · refine st_aload_n C (dk DX1_clear_0 5 rfl) rfl ?_
        refine st_get C fl_RX1_9 (dk DX1_clear_0 6 rfl) 0 rfl rfl ?_
        refine st_iload_n C (dk DX1_clear_0 7 rfl) rfl ?_
        refine st_iconst C (v := 0) (dk DX1_clear_0 8 rfl) (by decide) ?_
        refine st_iast C (dk DX1_clear_0 9 rfl) 1 rfl (vp_nI hx (by omega : i < 15) (by decide)) ?_
        refine st_iinc C (dk DX1_clear_0 10 rfl) rfl (iadd_ofInt _ (1) (1) (by decide)) (by decide) rfl ?_
        refine st_goto C (tgt := 2) (dk DX1_clear_0 11 rfl) (by decide) ?_
        exact ih (i + 1) _ _ (by omega) (up_nI hx) (upd_cp (g := fun _ => 0) hx (by omega) hf)
  refine st_iconst C (v := 0) (dk DX1_clear_0 0 rfl) (by decide) ?_
  refine st_istore_n C (dk DX1_clear_0 1 rfl) (by decide) rfl ?_
  exact loop1 15 0 _ lk (by omega) (by decide) (fun j hj => absurd hj (Nat.not_lt_zero j))
end
section
/-! contracts of Math.max, Math.min, and of the search but its run -/
section Mx
variable {l : Launch} {G : wG} {own : String} {cc : ByteArray} {nL : Nat} {nm : String} {R : Room} {P : PT} {k n pc : Nat} {lv : List (Nat × Value)} {st : List Value} {ws : va_W}
theorem st_max (C : Cx l G own cc nL nm R P) {idx : Nat} {x y : Int32} (hd : decode cc pc = .ok (.invokestatic idx, 3)) (hl : Cond.methodLink own idx yJM_max ∈ WS) (hW : (st.map fun v => v.category).sum ≤ 8) (hR : 1 ≤ R.frames ∧ 21 ≤ R.locals) (hroom : k ≤ R.cells ∧ n ≤ R.slots) (kk : P k n (pc + 3) lv (.int (rMax x y) :: st) ws) : P k n pc lv (.int y :: .int x :: st) ws := by
  obtain ⟨p, e, s, m, args, below, meth, c, A, Q, ⟨hx, hb, hml, hnm, hown, hts, hK, hA⟩, rfl⟩ := C
  intro H locs ls hP hD hS hl9
  exact va_mmax hx hb (hml.trans hl9.1.symm) hown (hts _ hl) (hts _ ms_JM_max) (hts _ mf_JM_max.2.1) (hts _ mf_JM_max.1) hR.1 (by have := hR.2; omega) hroom.1 hroom.2 hd (kk H locs ls hP hD hS hl9)
theorem st_min (C : Cx l G own cc nL nm R P) {idx : Nat} {x y : Int32} (hd : decode cc pc = .ok (.invokestatic idx, 3)) (hl : Cond.methodLink own idx yJM_min ∈ WS) (hW : (st.map fun v => v.category).sum ≤ 8) (hR : 1 ≤ R.frames ∧ 21 ≤ R.locals) (hroom : k ≤ R.cells ∧ n ≤ R.slots) (kk : P k n (pc + 3) lv (.int (rMin x y) :: st) ws) : P k n pc lv (.int y :: .int x :: st) ws := by
  obtain ⟨p, e, s, m, args, below, meth, c, A, Q, ⟨hx, hb, hml, hnm, hown, hts, hK, hA⟩, rfl⟩ := C
  intro H locs ls hP hD hS hl9
  exact va_mmin hx hb (hml.trans hl9.1.symm) hown (hts _ hl) (hts _ ms_JM_min) (hts _ mf_JM_min.2.1) (hts _ mf_JM_min.1) hR.1 (by have := hR.2; omega) hroom.1 hroom.2 hd (kk H locs ls hP hD hS hl9)
end Mx
set_option maxHeartbeats 4000000 in
set_option maxRecDepth 100000 in
theorem k_X3_codeOf (l : Launch) (G : wG) {a : Int32} : Con0 l G yX3_codeOf cX3_codeOf 1 (some .int) 0 [.int a] [] (fun r w => r = some (.int (rCde a)) ∧ w = []) := by
  refine Con.mk (by decide +kernel) (Nat.le_of_ble_eq_true rfl) (fun P C Rr => ?_)
  refine st_iload_n C (dk DX3_codeOf_0 0 rfl) rfl ?_
  refine st_sipush C (v := 16383) (dk DX3_codeOf_0 1 rfl) (by decide) ?_
  refine st_iand C (dk DX3_codeOf_0 2 rfl) ?_
  exact Rr 0 0 _ _ _ _ _ _ (Nat.zero_le _) (Nat.zero_le _) (dk DX3_codeOf_0 3 rfl) (.inr (.inl ⟨_, rfl, rfl, rfl, rfl⟩)) rfl ⟨rfl, ⟨rfl, rfl⟩⟩
set_option maxHeartbeats 4000000 in
set_option maxRecDepth 100000 in
theorem k_X3_stepOf (l : Launch) (G : wG) {a : Int32} : Con0 l G yX3_stepOf cX3_stepOf 1 (some .int) 0 [.int a] [] (fun r w => r = some (.int (rStp a)) ∧ w = []) := by
  refine Con.mk (by decide +kernel) (Nat.le_of_ble_eq_true rfl) (fun P C Rr => ?_)
  refine st_iload_n C (dk DX3_stepOf_0 0 rfl) rfl ?_
  refine st_bipush C (v := 14) (dk DX3_stepOf_0 1 rfl) (by decide) ?_
  refine st_ishr C (dk DX3_stepOf_0 2 rfl) ?_
  refine st_bipush C (v := 7) (dk DX3_stepOf_0 3 rfl) (by decide) ?_
  refine st_iand C (dk DX3_stepOf_0 4 rfl) ?_
  exact Rr 0 0 _ _ _ _ _ _ (Nat.zero_le _) (Nat.zero_le _) (dk DX3_stepOf_0 5 rfl) (.inr (.inl ⟨_, rfl, rfl, rfl, rfl⟩)) rfl ⟨rfl, ⟨rfl, rfl⟩⟩
set_option maxHeartbeats 4000000 in
set_option maxRecDepth 100000 in
theorem k_X3_beforeOf (l : Launch) (G : wG) {a : Int32} : Con0 l G yX3_beforeOf cX3_beforeOf 1 (some .int) 0 [.int a] [] (fun r w => r = some (.int (rBef a)) ∧ w = []) := by
  refine Con.mk (by decide +kernel) (Nat.le_of_ble_eq_true rfl) (fun P C Rr => ?_)
  refine st_iload_n C (dk DX3_beforeOf_0 0 rfl) rfl ?_
  refine st_bipush C (v := 17) (dk DX3_beforeOf_0 1 rfl) (by decide) ?_
  refine st_ishr C (dk DX3_beforeOf_0 2 rfl) ?_
  exact Rr 0 0 _ _ _ _ _ _ (Nat.zero_le _) (Nat.zero_le _) (dk DX3_beforeOf_0 3 rfl) (.inr (.inl ⟨_, rfl, rfl, rfl, rfl⟩)) rfl ⟨rfl, ⟨rfl, rfl⟩⟩
set_option maxHeartbeats 4000000 in
set_option maxRecDepth 100000 in
theorem k_X3_lengthTo (l : Launch) (G : wG) {t t1 t2 t3 t4 : Nat} {sz rc : Int32} {ln : Nat → Int32} {c : Int32} : Con0 l G yX3_lengthTo cX3_lengthTo 2 (some .int) 1 [.ref t, .int c] [(t, ob 2 (sF t1 t2 t3 t4 sz rc)), (t4, aI G 16 ln)] (fun r w => r = some (.int (rLen ln c)) ∧ w = [(t, ob 2 (sF t1 t2 t3 t4 sz rc)), (t4, aI G 16 ln)]) := by
  refine Con.mk (by decide +kernel) (Nat.le_of_ble_eq_true rfl) (fun P C Rr => ?_)
  refine st_iload_n C (dk DX3_lengthTo_0 0 rfl) rfl ?_
  refine st_cS C (k_X5_isCell l G) mf_X5_isCell ms_X5_isCell ml_RX3_57 (dk DX3_lengthTo_0 1 rfl) [] rfl rfl rfl rfl (Nat.le_of_ble_eq_true rfl) ⟨Nat.le_of_ble_eq_true rfl, Nat.le_of_ble_eq_true rfl⟩ ⟨Nat.zero_le _, Nat.zero_le _⟩ (fun r9 w9 hq9 => ?_)
  obtain ⟨rfl, rfl⟩ := hq9
  refine st_if_eq C (tgt := 16) (dk DX3_lengthTo_0 2 rfl) (by decide) (fun c_4 => ?_) (fun c_4 => ?_)
  · refine st_iconst C (v := -1) (dk DX3_lengthTo_0 8 rfl) (by decide) ?_
    exact Rr 0 0 _ _ _ _ _ _ (Nat.zero_le _) (Nat.zero_le _) (dk DX3_lengthTo_0 9 rfl) (.inr (.inl ⟨_, rfl, rfl, rfl, rfl⟩)) rfl ⟨rfl, ⟨by first | (simp [c_4, rLen]; done) | (simp_all [rLen]; done), rfl⟩⟩
  · refine st_aload_n C (dk DX3_lengthTo_0 3 rfl) rfl ?_
    refine st_get C fl_RX3_24 (dk DX3_lengthTo_0 4 rfl) 0 rfl rfl ?_
    refine st_iload_n C (dk DX3_lengthTo_0 5 rfl) rfl ?_
    refine st_iald C (dk DX3_lengthTo_0 6 rfl) 1 rfl (rIn_vp (by decide) (by decide) c_4) ?_
    refine st_goto C (tgt := 17) (dk DX3_lengthTo_0 7 rfl) (by decide) ?_
    exact Rr 0 0 _ _ _ _ _ _ (Nat.zero_le _) (Nat.zero_le _) (dk DX3_lengthTo_0 9 rfl) (.inr (.inl ⟨_, rfl, rfl, rfl, rfl⟩)) rfl ⟨rfl, ⟨by first | (simp [c_4, rLen]; done) | (simp_all [rLen]; done), rfl⟩⟩
set_option maxHeartbeats 4000000 in
set_option maxRecDepth 100000 in
theorem k_X3_entryAt (l : Launch) (G : wG) {t t1 t2 t3 t4 : Nat} {sz rc : Int32} {en : Nat → Int32} {i : Int32} : Con0 l G yX3_entryAt cX3_entryAt 2 (some .int) 0 [.ref t, .int i] [(t, ob 2 (sF t1 t2 t3 t4 sz rc)), (t1, aI G 4624 en)] (fun r w => r = some (.int (rEnt en i)) ∧ w = [(t, ob 2 (sF t1 t2 t3 t4 sz rc)), (t1, aI G 4624 en)]) := by
  refine Con.mk (by decide +kernel) (Nat.le_of_ble_eq_true rfl) (fun P C Rr => ?_)
  refine st_iload_n C (dk DX3_entryAt_0 0 rfl) rfl ?_
  refine st_if_lt C (tgt := 20) (dk DX3_entryAt_0 1 rfl) (by decide) (fun c_1 => ?_) (fun c_1 => ?_)
  · refine st_iconst C (v := 0) (dk DX3_entryAt_0 10 rfl) (by decide) ?_
    exact Rr 0 0 _ _ _ _ _ _ (Nat.zero_le _) (Nat.zero_le _) (dk DX3_entryAt_0 11 rfl) (.inr (.inl ⟨_, rfl, rfl, rfl, rfl⟩)) rfl ⟨rfl, ⟨by first | (simp [c_1, rEnt]; done) | (simp_all [rEnt]; done), rfl⟩⟩
  · refine st_iload_n C (dk DX3_entryAt_0 2 rfl) rfl ?_
    refine st_sipush C (v := 4624) (dk DX3_entryAt_0 3 rfl) (by decide) ?_
    refine st_icmp_ge C (tgt := 20) (dk DX3_entryAt_0 4 rfl) (by decide) (fun c_8 => ?_) (fun c_8 => ?_)
    · refine st_iconst C (v := 0) (dk DX3_entryAt_0 10 rfl) (by decide) ?_
      exact Rr 0 0 _ _ _ _ _ _ (Nat.zero_le _) (Nat.zero_le _) (dk DX3_entryAt_0 11 rfl) (.inr (.inl ⟨_, rfl, rfl, rfl, rfl⟩)) rfl ⟨rfl, ⟨by first | (simp [c_1, c_8, rEnt]; done) | (simp_all [rEnt]; done), rfl⟩⟩
    · refine st_aload_n C (dk DX3_entryAt_0 5 rfl) rfl ?_
      refine st_get C fl_RX3_11 (dk DX3_entryAt_0 6 rfl) 0 rfl rfl ?_
      refine st_iload_n C (dk DX3_entryAt_0 7 rfl) rfl ?_
      refine st_iald C (dk DX3_entryAt_0 8 rfl) 1 rfl (vp_of (by decide) (by decide) c_1 c_8) ?_
      refine st_goto C (tgt := 21) (dk DX3_entryAt_0 9 rfl) (by decide) ?_
      exact Rr 0 0 _ _ _ _ _ _ (Nat.zero_le _) (Nat.zero_le _) (dk DX3_entryAt_0 11 rfl) (.inr (.inl ⟨_, rfl, rfl, rfl, rfl⟩)) rfl ⟨rfl, ⟨by first | (simp [c_1, c_8, rEnt]; done) | (simp_all [rEnt]; done), rfl⟩⟩
set_option maxHeartbeats 4000000 in
set_option maxRecDepth 100000 in
theorem k_X3_add (l : Launch) (G : wG) {t t1 t2 t3 t4 : Nat} {sz rc : Int32} {en : Nat → Int32} {sn : Nat → Int64} {nd ln : Nat → Int32} {c s b k9 : Int32} (hsz : ¬ sz < 0) : Con0 l G yX3_add cX3_add 9 none 1 [.ref t, .int c, .int s, .int b, .int k9] [(t, ob 2 (sF t1 t2 t3 t4 sz rc)), (t1, aI G 4624 en), (t2, aJ G 256 sn), (t3, aI G 16 nd), (t4, aI G 16 ln)] (fun r w => r = none ∧ w = rAdd G t t1 t2 t3 t4 sz rc en sn nd ln c s b k9) := by
  refine Con.mk (by decide +kernel) (Nat.le_of_ble_eq_true rfl) (fun P C Rr => ?_)
  refine st_iload_n C (dk DX3_add_0 0 rfl) rfl ?_
  refine st_bipush C (v := 6) (dk DX3_add_0 1 rfl) (by decide) ?_
  refine st_ishr C (dk DX3_add_0 2 rfl) ?_
  refine st_sipush C (v := 255) (dk DX3_add_0 3 rfl) (by decide) ?_
  refine st_iand C (dk DX3_add_0 4 rfl) ?_
  refine st_istore C (dk DX3_add_0 5 rfl) (by decide) rfl ?_
  refine st_lconst C (v := 1) (dk DX3_add_0 6 rfl) (by decide) ?_
  refine st_iload_n C (dk DX3_add_0 7 rfl) rfl ?_
  refine st_bipush C (v := 63) (dk DX3_add_0 8 rfl) (by decide) ?_
  refine st_iand C (dk DX3_add_0 9 rfl) ?_
  refine st_lshl C (dk DX3_add_0 10 rfl) ?_
  refine st_lstore C (dk DX3_add_0 11 rfl) (by decide) rfl rfl ?_
  refine st_aload_n C (dk DX3_add_0 12 rfl) rfl ?_
  refine st_get C fl_RX3_17 (dk DX3_add_0 13 rfl) 0 rfl rfl ?_
  refine st_iload C (dk DX3_add_0 14 rfl) rfl ?_
  refine st_lald C (dk DX3_add_0 15 rfl) 2 rfl (vp_small 8 (by decide) (by decide)) ?_
  refine st_lload C (dk DX3_add_0 16 rfl) rfl ?_
  refine st_land C (dk DX3_add_0 17 rfl) ?_
  refine st_lconst C (v := 0) (dk DX3_add_0 18 rfl) (by decide) ?_
  refine st_lcmp C (dk DX3_add_0 19 rfl) ?_
  refine st_if_ne C (tgt := 43) (dk DX3_add_0 20 rfl) (by decide) (fun c_30 => ?_) (fun c_30 => ?_)
  · refine Rr 0 0 _ _ _ _ _ _ (Nat.zero_le _) (Nat.zero_le _) (dk DX3_add_0 25 rfl) (.inl ⟨rfl, rfl, rfl, rfl⟩) rfl ?_
    refine ⟨rfl, rfl, ?_⟩
    have d30 : ¬ lg_cmp (sn (rRow c).toNatClampNeg &&& rBit c) 0 = 0 := c_30
    rw [rAdd, if_neg d30]
    rfl
  · refine st_aload_n C (dk DX3_add_0 21 rfl) rfl ?_
    refine st_get C fl_RX3_40 (dk DX3_add_0 22 rfl) 0 rfl rfl ?_
    refine st_sipush C (v := 4624) (dk DX3_add_0 23 rfl) (by decide) ?_
    refine st_icmp_lt C (tgt := 44) (dk DX3_add_0 24 rfl) (by decide) (fun c_40 => ?_) (fun c_40 => ?_)
    · refine st_aload_n C (dk DX3_add_0 26 rfl) rfl ?_
      refine st_get C fl_RX3_17 (dk DX3_add_0 27 rfl) 0 rfl rfl ?_
      refine st_iload C (dk DX3_add_0 28 rfl) rfl ?_
      refine st_dup2 C (dk DX3_add_0 29 rfl) rfl rfl ?_
      refine st_lald C (dk DX3_add_0 30 rfl) 2 rfl (vp_small 8 (by decide) (by decide)) ?_
      refine st_lload C (dk DX3_add_0 31 rfl) rfl ?_
      refine st_lor C (dk DX3_add_0 32 rfl) ?_
      refine st_last C (dk DX3_add_0 33 rfl) 2 rfl (vp_small 8 (by decide) (by decide)) ?_
      refine st_aload_n C (dk DX3_add_0 34 rfl) rfl ?_
      refine st_get C fl_RX3_11 (dk DX3_add_0 35 rfl) 0 rfl rfl ?_
      refine st_aload_n C (dk DX3_add_0 36 rfl) rfl ?_
      refine st_get C fl_RX3_40 (dk DX3_add_0 37 rfl) 0 rfl rfl ?_
      refine st_iload_n C (dk DX3_add_0 38 rfl) rfl ?_
      refine st_iload_n C (dk DX3_add_0 39 rfl) rfl ?_
      refine st_bipush C (v := 14) (dk DX3_add_1 0 rfl) (by decide) ?_
      refine st_ishl C (dk DX3_add_1 1 rfl) ?_
      refine st_ior C (dk DX3_add_1 2 rfl) ?_
      refine st_iload_n C (dk DX3_add_1 3 rfl) rfl ?_
      refine st_bipush C (v := 17) (dk DX3_add_1 4 rfl) (by decide) ?_
      refine st_ishl C (dk DX3_add_1 5 rfl) ?_
      refine st_ior C (dk DX3_add_1 6 rfl) ?_
      refine st_iast C (dk DX3_add_1 7 rfl) 1 rfl (vp_ofN (by decide) (by decide) hsz c_40) ?_
      refine st_iload_n C (dk DX3_add_1 8 rfl) rfl ?_
      refine st_cS C (k_X0_cellOf l G) mf_X0_cellOf ms_X0_cellOf ml_RX3_54 (dk DX3_add_1 9 rfl) [] rfl rfl rfl rfl (Nat.le_of_ble_eq_true rfl) ⟨Nat.le_of_ble_eq_true rfl, Nat.le_of_ble_eq_true rfl⟩ ⟨Nat.zero_le _, Nat.zero_le _⟩ (fun r9 w9 hq9 => ?_)
      obtain ⟨rfl, rfl⟩ := hq9
      refine st_istore C (dk DX3_add_1 10 rfl) (by decide) rfl ?_
      refine st_aload_n C (dk DX3_add_1 11 rfl) rfl ?_
      refine st_get C fl_RX3_24 (dk DX3_add_1 12 rfl) 0 rfl rfl ?_
      refine st_iload C (dk DX3_add_1 13 rfl) rfl ?_
      refine st_iald C (dk DX3_add_1 14 rfl) 4 rfl (vp_small 4 (by decide) (by decide)) ?_
      refine st_iconst C (v := -1) (dk DX3_add_1 15 rfl) (by decide) ?_
      refine st_icmp_ne C (tgt := 123) (dk DX3_add_1 16 rfl) (by decide) (fun c_90 => ?_) (fun c_90 => ?_)
      · refine st_aload_n C (dk DX3_add_1 34 rfl) rfl ?_
        refine st_dup C (dk DX3_add_1 35 rfl) rfl ?_
        refine st_get C fl_RX3_40 (dk DX3_add_1 36 rfl) 0 rfl rfl ?_
        refine st_iconst C (v := 1) (dk DX3_add_1 37 rfl) (by decide) ?_
        refine st_iadd C (dk DX3_add_1 38 rfl) ?_
        refine st_put C fl_RX3_40 fc_2 fw_2_4 (dk DX3_add_1 39 rfl) 0 rfl rfl rfl (Nat.le_of_ble_eq_true rfl) ?_
        refine Rr 0 0 _ _ _ _ _ _ (Nat.zero_le _) (Nat.zero_le _) (dk DX3_add_2 0 rfl) (.inl ⟨rfl, rfl, rfl, rfl⟩) rfl ?_
        refine ⟨rfl, rfl, ?_⟩
        have d30 : lg_cmp (sn (rRow c).toNatClampNeg &&& rBit c) 0 = 0 := c_30
        have d90 : ¬ ln (rCell c).toNatClampNeg = -1 := c_90
        rw [rAdd, if_pos d30, if_pos c_40, if_neg d90]
        rfl
      · refine st_aload_n C (dk DX3_add_1 17 rfl) rfl ?_
        refine st_get C fl_RX3_24 (dk DX3_add_1 18 rfl) 0 rfl rfl ?_
        refine st_iload C (dk DX3_add_1 19 rfl) rfl ?_
        refine st_iload C (dk DX3_add_1 20 rfl) rfl ?_
        refine st_iast C (dk DX3_add_1 21 rfl) 4 rfl (vp_small 4 (by decide) (by decide)) ?_
        refine st_aload_n C (dk DX3_add_1 22 rfl) rfl ?_
        refine st_get C fl_RX3_21 (dk DX3_add_1 23 rfl) 0 rfl rfl ?_
        refine st_iload C (dk DX3_add_1 24 rfl) rfl ?_
        refine st_aload_n C (dk DX3_add_1 25 rfl) rfl ?_
        refine st_get C fl_RX3_40 (dk DX3_add_1 26 rfl) 0 rfl rfl ?_
        refine st_iast C (dk DX3_add_1 27 rfl) 3 rfl (vp_small 4 (by decide) (by decide)) ?_
        refine st_aload_n C (dk DX3_add_1 28 rfl) rfl ?_
        refine st_dup C (dk DX3_add_1 29 rfl) rfl ?_
        refine st_get C fl_RX3_43 (dk DX3_add_1 30 rfl) 0 rfl rfl ?_
        refine st_iconst C (v := 1) (dk DX3_add_1 31 rfl) (by decide) ?_
        refine st_iadd C (dk DX3_add_1 32 rfl) ?_
        refine st_put C fl_RX3_43 fc_2 fw_2_5 (dk DX3_add_1 33 rfl) 0 rfl rfl rfl (Nat.le_of_ble_eq_true rfl) ?_
        refine st_aload_n C (dk DX3_add_1 34 rfl) rfl ?_
        refine st_dup C (dk DX3_add_1 35 rfl) rfl ?_
        refine st_get C fl_RX3_40 (dk DX3_add_1 36 rfl) 0 rfl rfl ?_
        refine st_iconst C (v := 1) (dk DX3_add_1 37 rfl) (by decide) ?_
        refine st_iadd C (dk DX3_add_1 38 rfl) ?_
        refine st_put C fl_RX3_40 fc_2 fw_2_4 (dk DX3_add_1 39 rfl) 0 rfl rfl rfl (Nat.le_of_ble_eq_true rfl) ?_
        refine Rr 0 0 _ _ _ _ _ _ (Nat.zero_le _) (Nat.zero_le _) (dk DX3_add_2 0 rfl) (.inl ⟨rfl, rfl, rfl, rfl⟩) rfl ?_
        refine ⟨rfl, rfl, ?_⟩
        have d30 : lg_cmp (sn (rRow c).toNatClampNeg &&& rBit c) 0 = 0 := c_30
        have d90 : ln (rCell c).toNatClampNeg = -1 := c_90
        rw [rAdd, if_pos d30, if_pos c_40, if_pos d90]
        rfl
    · refine Rr 0 0 _ _ _ _ _ _ (Nat.zero_le _) (Nat.zero_le _) (dk DX3_add_0 25 rfl) (.inl ⟨rfl, rfl, rfl, rfl⟩) rfl ?_
      refine ⟨rfl, rfl, ?_⟩
      have d30 : lg_cmp (sn (rRow c).toNatClampNeg &&& rBit c) 0 = 0 := c_30
      rw [rAdd, if_pos d30, if_neg c_40]
      rfl
set_option maxHeartbeats 4000000 in
set_option maxRecDepth 100000 in
theorem k_X3_mostLength (l : Launch) (G : wG) {t t1 t2 t3 t4 : Nat} {sz rc : Int32} {ln : Nat → Int32} : Con0 l G yX3_mostLength cX3_mostLength 3 (some .int) 1 [.ref t] [(t, ob 2 (sF t1 t2 t3 t4 sz rc)), (t4, aI G 16 ln)] (fun r w => r = some (.int (rMost ln 16)) ∧ w = [(t, ob 2 (sF t1 t2 t3 t4 sz rc)), (t4, aI G 16 ln)]) := by
  refine Con.mk (by decide +kernel) (Nat.le_of_ble_eq_true rfl) (fun P C Rr => ?_)
  have loop : ∀ (m i : Nat) (x : Int32) (acc : Int32), i + m = 16 → x = nI i → acc = rMost ln i → P 0 0 4 [(0, .ref t), (1, .int acc), (2, .int x)] [] [(t, ob 2 (sF t1 t2 t3 t4 sz rc)), (t4, aI G 16 ln)] := by
    intro m
    induction m with
    | zero =>
      intro i x acc hi hx hacc
      obtain rfl : i = 16 := by omega
      refine st_iload_n C (dk DX3_mostLength_0 4 rfl) rfl ?_
      refine st_bipush C (v := 16) (dk DX3_mostLength_0 5 rfl) (by decide) ?_
      refine st_icmp_ge C (tgt := 27) (dk DX3_mostLength_0 6 rfl) (by decide) (fun c_7 => ?_) (fun c_7 => ?_)
      · refine st_iload_n C (dk DX3_mostLength_0 16 rfl) rfl ?_
        exact Rr 0 0 _ _ _ _ _ _ (Nat.zero_le _) (Nat.zero_le _) (dk DX3_mostLength_0 17 rfl) (.inr (.inl ⟨_, rfl, rfl, rfl, rfl⟩)) rfl ⟨rfl, ⟨by rw [hacc], rfl⟩⟩
      · exact absurd ((ge_nI (a := 16) (i := 16) (by decide) (by decide) rfl hx).mpr (Nat.le_refl _)) c_7
    | succ m ih =>
      intro i x acc hi hx hacc
      refine st_iload_n C (dk DX3_mostLength_0 4 rfl) rfl ?_
      refine st_bipush C (v := 16) (dk DX3_mostLength_0 5 rfl) (by decide) ?_
      refine st_icmp_ge C (tgt := 27) (dk DX3_mostLength_0 6 rfl) (by decide) (fun c_7 => ?_) (fun c_7 => ?_)
      · exact absurd ((ge_nI (a := 16) (i := i) (by decide) (by omega) rfl hx).mp c_7) (by omega)
      · refine st_iload_n C (dk DX3_mostLength_0 7 rfl) rfl ?_
        refine st_aload_n C (dk DX3_mostLength_0 8 rfl) rfl ?_
        refine st_get C fl_RX3_24 (dk DX3_mostLength_0 9 rfl) 0 rfl rfl ?_
        refine st_iload_n C (dk DX3_mostLength_0 10 rfl) rfl ?_
        refine st_iald C (dk DX3_mostLength_0 11 rfl) 1 rfl (vp_nI hx (by omega : i < 16) (by decide)) ?_
        refine st_max C (dk DX3_mostLength_0 12 rfl) mk_RX3_70 (Nat.le_of_ble_eq_true rfl) ⟨Nat.le_of_ble_eq_true rfl, Nat.le_of_ble_eq_true rfl⟩ ⟨Nat.zero_le _, Nat.zero_le _⟩ ?_
        refine st_istore_n C (dk DX3_mostLength_0 13 rfl) (by decide) rfl ?_
        refine st_iinc C (dk DX3_mostLength_0 14 rfl) rfl (iadd_ofInt _ (1) (1) (by decide)) (by decide) rfl ?_
        refine st_goto C (tgt := 4) (dk DX3_mostLength_0 15 rfl) (by decide) ?_
        exact ih (i + 1) _ _ (by omega) (up_nI hx) (by rw [cl_nI hx (by omega), hacc]; rfl)
  refine st_iconst C (v := 0) (dk DX3_mostLength_0 0 rfl) (by decide) ?_
  refine st_istore_n C (dk DX3_mostLength_0 1 rfl) (by decide) rfl ?_
  refine st_iconst C (v := 0) (dk DX3_mostLength_0 2 rfl) (by decide) ?_
  refine st_istore_n C (dk DX3_mostLength_0 3 rfl) (by decide) rfl ?_
  exact loop 16 0 _ _ (by omega) (by decide) rfl
set_option maxHeartbeats 4000000 in
set_option maxRecDepth 100000 in
theorem k_X3_sumOfLengths (l : Launch) (G : wG) {t t1 t2 t3 t4 : Nat} {sz rc : Int32} {ln : Nat → Int32} : Con0 l G yX3_sumOfLengths cX3_sumOfLengths 3 (some .int) 1 [.ref t] [(t, ob 2 (sF t1 t2 t3 t4 sz rc)), (t4, aI G 16 ln)] (fun r w => r = some (.int (rSum ln 16)) ∧ w = [(t, ob 2 (sF t1 t2 t3 t4 sz rc)), (t4, aI G 16 ln)]) := by
  refine Con.mk (by decide +kernel) (Nat.le_of_ble_eq_true rfl) (fun P C Rr => ?_)
  have loop : ∀ (m i : Nat) (x : Int32) (acc : Int32), i + m = 16 → x = nI i → acc = rSum ln i → P 0 0 4 [(0, .ref t), (1, .int acc), (2, .int x)] [] [(t, ob 2 (sF t1 t2 t3 t4 sz rc)), (t4, aI G 16 ln)] := by
    intro m
    induction m with
    | zero =>
      intro i x acc hi hx hacc
      obtain rfl : i = 16 := by omega
      refine st_iload_n C (dk DX3_sumOfLengths_0 4 rfl) rfl ?_
      refine st_bipush C (v := 16) (dk DX3_sumOfLengths_0 5 rfl) (by decide) ?_
      refine st_icmp_ge C (tgt := 29) (dk DX3_sumOfLengths_0 6 rfl) (by decide) (fun c_7 => ?_) (fun c_7 => ?_)
      · refine st_iload_n C (dk DX3_sumOfLengths_0 18 rfl) rfl ?_
        exact Rr 0 0 _ _ _ _ _ _ (Nat.zero_le _) (Nat.zero_le _) (dk DX3_sumOfLengths_0 19 rfl) (.inr (.inl ⟨_, rfl, rfl, rfl, rfl⟩)) rfl ⟨rfl, ⟨by rw [hacc], rfl⟩⟩
      · exact absurd ((ge_nI (a := 16) (i := 16) (by decide) (by decide) rfl hx).mpr (Nat.le_refl _)) c_7
    | succ m ih =>
      intro i x acc hi hx hacc
      refine st_iload_n C (dk DX3_sumOfLengths_0 4 rfl) rfl ?_
      refine st_bipush C (v := 16) (dk DX3_sumOfLengths_0 5 rfl) (by decide) ?_
      refine st_icmp_ge C (tgt := 29) (dk DX3_sumOfLengths_0 6 rfl) (by decide) (fun c_7 => ?_) (fun c_7 => ?_)
      · exact absurd ((ge_nI (a := 16) (i := i) (by decide) (by omega) rfl hx).mp c_7) (by omega)
      · refine st_iload_n C (dk DX3_sumOfLengths_0 7 rfl) rfl ?_
        refine st_iconst C (v := 0) (dk DX3_sumOfLengths_0 8 rfl) (by decide) ?_
        refine st_aload_n C (dk DX3_sumOfLengths_0 9 rfl) rfl ?_
        refine st_get C fl_RX3_24 (dk DX3_sumOfLengths_0 10 rfl) 0 rfl rfl ?_
        refine st_iload_n C (dk DX3_sumOfLengths_0 11 rfl) rfl ?_
        refine st_iald C (dk DX3_sumOfLengths_0 12 rfl) 1 rfl (vp_nI hx (by omega : i < 16) (by decide)) ?_
        refine st_max C (dk DX3_sumOfLengths_0 13 rfl) mk_RX3_70 (Nat.le_of_ble_eq_true rfl) ⟨Nat.le_of_ble_eq_true rfl, Nat.le_of_ble_eq_true rfl⟩ ⟨Nat.zero_le _, Nat.zero_le _⟩ ?_
        refine st_iadd C (dk DX3_sumOfLengths_0 14 rfl) ?_
        refine st_istore_n C (dk DX3_sumOfLengths_0 15 rfl) (by decide) rfl ?_
        refine st_iinc C (dk DX3_sumOfLengths_0 16 rfl) rfl (iadd_ofInt _ (1) (1) (by decide)) (by decide) rfl ?_
        refine st_goto C (tgt := 4) (dk DX3_sumOfLengths_0 17 rfl) (by decide) ?_
        exact ih (i + 1) _ _ (by omega) (up_nI hx) (by rw [cl_nI hx (by omega), hacc]; rfl)
  refine st_iconst C (v := 0) (dk DX3_sumOfLengths_0 0 rfl) (by decide) ?_
  refine st_istore_n C (dk DX3_sumOfLengths_0 1 rfl) (by decide) rfl ?_
  refine st_iconst C (v := 0) (dk DX3_sumOfLengths_0 2 rfl) (by decide) ?_
  refine st_istore_n C (dk DX3_sumOfLengths_0 3 rfl) (by decide) rfl ?_
  exact loop 16 0 _ _ (by omega) (by decide) rfl
set_option maxHeartbeats 4000000 in
set_option maxRecDepth 100000 in
theorem k_X3_forget (l : Launch) (G : wG) {t t1 t2 t3 t4 : Nat} {sz rc : Int32} {sn : Nat → Int64} {nd ln : Nat → Int32} : Con0 l G yX3_forget cX3_forget 2 none 0 [.ref t] [(t, ob 2 (sF t1 t2 t3 t4 sz rc)), (t2, aJ G 256 sn), (t3, aI G 16 nd), (t4, aI G 16 ln)] (fun v w => v = none ∧ ∃ (sn3 : Nat → Int64) (nd3 ln3 : Nat → Int32), (∀ j, j < 256 → sn3 j = 0) ∧ (∀ j, j < 16 → nd3 j = 0) ∧ (∀ j, j < 16 → ln3 j = -1) ∧ w = [(t, ob 2 (sF t1 t2 t3 t4 0 0)), (t2, aJ G 256 sn3), (t3, aI G 16 nd3), (t4, aI G 16 ln3)]) := by
  refine Con.mk (by decide +kernel) (Nat.le_of_ble_eq_true rfl) (fun P C Rr => ?_)
  have loop2 : ∀ (m i : Nat) (x : Int32) (sn : Nat → Int64) (nd ln : Nat → Int32), i + m = 16 → x = nI i → (∀ j, j < 256 → sn j = 0) → (∀ j, j < i → nd j = 0) → (∀ j, j < i → ln j = -1) → P 0 0 36 [(0, .ref t), (1, .int x)] [] [(t, ob 2 (sF t1 t2 t3 t4 0 0)), (t2, aJ G 256 sn), (t3, aI G 16 nd), (t4, aI G 16 ln)] := by
    intro m
    induction m with
    | zero =>
      intro i x sn nd ln hi hx hsn hnd hln
      obtain rfl : i = 16 := by omega
      refine st_iload_n C (dk DX3_forget_0 22 rfl) rfl ?_
      refine st_bipush C (v := 16) (dk DX3_forget_0 23 rfl) (by decide) ?_
      refine st_icmp_ge C (tgt := 62) (dk DX3_forget_0 24 rfl) (by decide) (fun c_39 => ?_) (fun c_39 => ?_)
      · exact Rr 0 0 _ _ _ _ _ _ (Nat.zero_le _) (Nat.zero_le _) (dk DX3_forget_0 37 rfl) (.inl ⟨rfl, rfl, rfl, rfl⟩) rfl ⟨rfl, ⟨rfl, sn, nd, ln, hsn, hnd, hln, rfl⟩⟩
      · exact absurd ((ge_nI (a := 16) (i := 16) (by decide) (by decide) rfl hx).mpr (Nat.le_refl _)) c_39
    | succ m ih =>
      intro i x sn nd ln hi hx hsn hnd hln
      refine st_iload_n C (dk DX3_forget_0 22 rfl) rfl ?_
      refine st_bipush C (v := 16) (dk DX3_forget_0 23 rfl) (by decide) ?_
      refine st_icmp_ge C (tgt := 62) (dk DX3_forget_0 24 rfl) (by decide) (fun c_39 => ?_) (fun c_39 => ?_)
      · exact absurd ((ge_nI (a := 16) (i := i) (by decide) (by omega) rfl hx).mp c_39) (by omega)
      · refine st_aload_n C (dk DX3_forget_0 25 rfl) rfl ?_
        refine st_get C fl_RX3_21 (dk DX3_forget_0 26 rfl) 0 rfl rfl ?_
        refine st_iload_n C (dk DX3_forget_0 27 rfl) rfl ?_
        refine st_iconst C (v := 0) (dk DX3_forget_0 28 rfl) (by decide) ?_
        refine st_iast C (dk DX3_forget_0 29 rfl) 2 rfl (vp_nI hx (by omega : i < 16) (by decide)) ?_
        refine st_aload_n C (dk DX3_forget_0 30 rfl) rfl ?_
        refine st_get C fl_RX3_24 (dk DX3_forget_0 31 rfl) 0 rfl rfl ?_
        refine st_iload_n C (dk DX3_forget_0 32 rfl) rfl ?_
        refine st_iconst C (v := -1) (dk DX3_forget_0 33 rfl) (by decide) ?_
        refine st_iast C (dk DX3_forget_0 34 rfl) 3 rfl (vp_nI hx (by omega : i < 16) (by decide)) ?_
        refine st_iinc C (dk DX3_forget_0 35 rfl) rfl (iadd_ofInt _ (1) (1) (by decide)) (by decide) rfl ?_
        refine st_goto C (tgt := 36) (dk DX3_forget_0 36 rfl) (by decide) ?_
        exact ih (i + 1) _ _ _ _ (by omega) (up_nI hx) hsn (upd_cp (g := fun _ => 0) hx (by omega) hnd) (upd_cp (g := fun _ => -1) hx (by omega) hln)
  have loop1 : ∀ (m i : Nat) (x : Int32) (sn : Nat → Int64), i + m = 256 → x = nI i → (∀ j, j < i → sn j = 0) → P 0 0 12 [(0, .ref t), (1, .int x)] [] [(t, ob 2 (sF t1 t2 t3 t4 0 0)), (t2, aJ G 256 sn), (t3, aI G 16 nd), (t4, aI G 16 ln)] := by
    intro m
    induction m with
    | zero =>
      intro i x sn hi hx hsn
      obtain rfl : i = 256 := by omega
      refine st_iload_n C (dk DX3_forget_0 8 rfl) rfl ?_
      refine st_aload_n C (dk DX3_forget_0 9 rfl) rfl ?_
      refine st_get C fl_RX3_17 (dk DX3_forget_0 10 rfl) 0 rfl rfl ?_
      refine st_alenJ C (dk DX3_forget_0 11 rfl) 1 rfl rfl ?_
      refine st_icmp_ge C (tgt := 34) (dk DX3_forget_0 12 rfl) (by decide) (fun c_18 => ?_) (fun c_18 => ?_)
      · refine st_iconst C (v := 0) (dk DX3_forget_0 20 rfl) (by decide) ?_
        refine st_istore_n C (dk DX3_forget_0 21 rfl) (by decide) rfl ?_
        exact loop2 16 0 _ _ _ _ (by omega) (by decide) hsn (fun j hj => absurd hj (Nat.not_lt_zero j)) (fun j hj => absurd hj (Nat.not_lt_zero j))
      · exact absurd ((ge_nI (a := 256) (i := 256) (by decide) (by decide) rfl hx).mpr (Nat.le_refl _)) c_18
    | succ m ih =>
      intro i x sn hi hx hsn
      refine st_iload_n C (dk DX3_forget_0 8 rfl) rfl ?_
      refine st_aload_n C (dk DX3_forget_0 9 rfl) rfl ?_
      refine st_get C fl_RX3_17 (dk DX3_forget_0 10 rfl) 0 rfl rfl ?_
      refine st_alenJ C (dk DX3_forget_0 11 rfl) 1 rfl rfl ?_
      refine st_icmp_ge C (tgt := 34) (dk DX3_forget_0 12 rfl) (by decide) (fun c_18 => ?_) (fun c_18 => ?_)
      · exact absurd ((ge_nI (a := 256) (i := i) (by decide) (by omega) rfl hx).mp c_18) (by omega)
      · refine st_aload_n C (dk DX3_forget_0 13 rfl) rfl ?_
        refine st_get C fl_RX3_17 (dk DX3_forget_0 14 rfl) 0 rfl rfl ?_
        refine st_iload_n C (dk DX3_forget_0 15 rfl) rfl ?_
        refine st_lconst C (v := 0) (dk DX3_forget_0 16 rfl) (by decide) ?_
        refine st_last C (dk DX3_forget_0 17 rfl) 1 rfl (vp_nI hx (by omega : i < 256) (by decide)) ?_
        refine st_iinc C (dk DX3_forget_0 18 rfl) rfl (iadd_ofInt _ (1) (1) (by decide)) (by decide) rfl ?_
        refine st_goto C (tgt := 12) (dk DX3_forget_0 19 rfl) (by decide) ?_
        exact ih (i + 1) _ _ (by omega) (up_nI hx) (upd_cpL (g := fun _ => 0) hx (by omega) hsn)
  refine st_aload_n C (dk DX3_forget_0 0 rfl) rfl ?_
  refine st_iconst C (v := 0) (dk DX3_forget_0 1 rfl) (by decide) ?_
  refine st_put C fl_RX3_40 fc_2 fw_2_4 (dk DX3_forget_0 2 rfl) 0 rfl rfl rfl (Nat.le_of_ble_eq_true rfl) ?_
  refine st_aload_n C (dk DX3_forget_0 3 rfl) rfl ?_
  refine st_iconst C (v := 0) (dk DX3_forget_0 4 rfl) (by decide) ?_
  refine st_put C fl_RX3_43 fc_2 fw_2_5 (dk DX3_forget_0 5 rfl) 0 rfl rfl rfl (Nat.le_of_ble_eq_true rfl) ?_
  refine st_iconst C (v := 0) (dk DX3_forget_0 6 rfl) (by decide) ?_
  refine st_istore_n C (dk DX3_forget_0 7 rfl) (by decide) rfl ?_
  exact loop1 256 0 _ _ (by omega) (by decide) (fun j hj => absurd hj (Nat.not_lt_zero j))
end
section
/-! contracts of stepTo and of the text but its reading -/
set_option maxHeartbeats 4000000 in
set_option maxRecDepth 100000 in
theorem k_X3_stepTo (l : Launch) (G : wG) {t t1 t2 t3 t4 : Nat} {sz rc : Int32} {en nd ln : Nat → Int32} {c b : Int32} : Con0 l G yX3_stepTo cX3_stepTo 5 (some .int) 1 [.ref t, .int c, .int b] [(t, ob 2 (sF t1 t2 t3 t4 sz rc)), (t1, aI G 4624 en), (t3, aI G 16 nd), (t4, aI G 16 ln)] (fun r w => r = some (.int (rStepTo en nd ln c b)) ∧ w = [(t, ob 2 (sF t1 t2 t3 t4 sz rc)), (t1, aI G 4624 en), (t3, aI G 16 nd), (t4, aI G 16 ln)]) := by
  refine Con.mk (by decide +kernel) (Nat.le_of_ble_eq_true rfl) (fun P C Rr => ?_)
  have loop : ∀ (m a : Nat) (e9 x : Int32), a + m < 2 ^ 31 → x = nI (a + m) → rStp (rChase en e9 m) = rStepTo en nd ln c b → P 0 0 44 [(0, .ref t), (1, .int c), (2, .int (nI a)), (3, .int e9), (4, .int x)] [] [(t, ob 2 (sF t1 t2 t3 t4 sz rc)), (t1, aI G 4624 en), (t3, aI G 16 nd), (t4, aI G 16 ln)] := by
    intro m
    induction m with
    | zero =>
      intro a e9 x ha hx hr
      refine st_iload C (dk DX3_stepTo_0 27 rfl) rfl ?_
      refine st_iload_n C (dk DX3_stepTo_0 28 rfl) rfl ?_
      refine st_icmp_le C (tgt := 65) (dk DX3_stepTo_0 29 rfl) (by decide) (fun c_47 => ?_) (fun c_47 => ?_)
      · refine st_iload_n C (dk DX3_stepTo_0 37 rfl) rfl ?_
        refine st_cS C (k_X3_stepOf l G) mf_X3_stepOf ms_X3_stepOf ml_RX3_67 (dk DX3_stepTo_0 38 rfl) [] rfl rfl rfl rfl (Nat.le_of_ble_eq_true rfl) ⟨Nat.le_of_ble_eq_true rfl, Nat.le_of_ble_eq_true rfl⟩ ⟨Nat.zero_le _, Nat.zero_le _⟩ (fun r9 w9 hq9 => ?_)
        obtain ⟨rfl, rfl⟩ := hq9
        exact Rr 0 0 _ _ _ _ _ _ (Nat.zero_le _) (Nat.zero_le _) (dk DX3_stepTo_0 39 rfl) (.inr (.inl ⟨_, rfl, rfl, rfl, rfl⟩)) rfl ⟨rfl, ⟨congrArg (fun z => some (Value.int z)) hr, rfl⟩⟩
      · exact absurd ((ge_nI (a := a + 0) (i := a) ha (by omega) hx rfl).mpr (by omega)) c_47
    | succ m ih =>
      intro a e9 x ha hx hr
      refine st_iload C (dk DX3_stepTo_0 27 rfl) rfl ?_
      refine st_iload_n C (dk DX3_stepTo_0 28 rfl) rfl ?_
      refine st_icmp_le C (tgt := 65) (dk DX3_stepTo_0 29 rfl) (by decide) (fun c_47 => ?_) (fun c_47 => ?_)
      · exact absurd ((ge_nI (a := a + (m + 1)) (i := a) ha (by omega) hx rfl).mp c_47) (by omega)
      · refine st_aload_n C (dk DX3_stepTo_0 30 rfl) rfl ?_
        refine st_iload_n C (dk DX3_stepTo_0 31 rfl) rfl ?_
        refine st_cS C (k_X3_beforeOf l G) mf_X3_beforeOf ms_X3_beforeOf ml_RX3_64 (dk DX3_stepTo_0 32 rfl) [] rfl rfl rfl rfl (Nat.le_of_ble_eq_true rfl) ⟨Nat.le_of_ble_eq_true rfl, Nat.le_of_ble_eq_true rfl⟩ ⟨Nat.zero_le _, Nat.zero_le _⟩ (fun r9 w9 hq9 => ?_)
        obtain ⟨rfl, rfl⟩ := hq9
        refine st_cV C (k_X3_entryAt l G) mf_X3_entryAt mi_X3_entryAt ml_RX3_61 (dk DX3_stepTo_0 33 rfl) [0, 1] rfl rfl rfl rfl (Nat.le_of_ble_eq_true rfl) rfl rfl ⟨Nat.le_of_ble_eq_true rfl, Nat.le_of_ble_eq_true rfl⟩ ⟨Nat.zero_le _, Nat.zero_le _⟩ (fun r9 w9 hq9 => ?_)
        obtain ⟨rfl, rfl⟩ := hq9
        refine st_istore_n C (dk DX3_stepTo_0 34 rfl) (by decide) rfl ?_
        refine st_iinc C (dk DX3_stepTo_0 35 rfl) rfl (iadd_ofInt _ (-1) (-1) (by decide)) (by decide) rfl ?_
        refine st_goto C (tgt := 44) (dk DX3_stepTo_0 36 rfl) (by decide) ?_
        exact ih a _ _ (by omega) (by rw [hx]; exact pk_m1 (a + m)) hr
  refine st_iload_n C (dk DX3_stepTo_0 0 rfl) rfl ?_
  refine st_cS C (k_X5_isCell l G) mf_X5_isCell ms_X5_isCell ml_RX3_57 (dk DX3_stepTo_0 1 rfl) [] rfl rfl rfl rfl (Nat.le_of_ble_eq_true rfl) ⟨Nat.le_of_ble_eq_true rfl, Nat.le_of_ble_eq_true rfl⟩ ⟨Nat.zero_le _, Nat.zero_le _⟩ (fun r9 w9 hq9 => ?_)
  obtain ⟨rfl, rfl⟩ := hq9
  refine st_if_eq C (tgt := 21) (dk DX3_stepTo_0 2 rfl) (by decide) (fun c_4 => ?_) (fun c_4 => ?_)
  · refine st_iconst C (v := -1) (dk DX3_stepTo_0 11 rfl) (by decide) ?_
    exact Rr 0 0 _ _ _ _ _ _ (Nat.zero_le _) (Nat.zero_le _) (dk DX3_stepTo_0 12 rfl) (.inr (.inl ⟨_, rfl, rfl, rfl, rfl⟩)) rfl ⟨rfl, ⟨by first | (simp [c_4, rStepTo]; done) | (simp_all [rStepTo]; done), rfl⟩⟩
  · refine st_iload_n C (dk DX3_stepTo_0 3 rfl) rfl ?_
    refine st_if_lt C (tgt := 21) (dk DX3_stepTo_0 4 rfl) (by decide) (fun c_8 => ?_) (fun c_8 => ?_)
    · refine st_iconst C (v := -1) (dk DX3_stepTo_0 11 rfl) (by decide) ?_
      exact Rr 0 0 _ _ _ _ _ _ (Nat.zero_le _) (Nat.zero_le _) (dk DX3_stepTo_0 12 rfl) (.inr (.inl ⟨_, rfl, rfl, rfl, rfl⟩)) rfl ⟨rfl, ⟨by first | (simp [c_4, c_8, rStepTo]; done) | (simp_all [rStepTo]; done), rfl⟩⟩
    · refine st_iload_n C (dk DX3_stepTo_0 5 rfl) rfl ?_
      refine st_aload_n C (dk DX3_stepTo_0 6 rfl) rfl ?_
      refine st_get C fl_RX3_24 (dk DX3_stepTo_0 7 rfl) 0 rfl rfl ?_
      refine st_iload_n C (dk DX3_stepTo_0 8 rfl) rfl ?_
      refine st_iald C (dk DX3_stepTo_0 9 rfl) 3 rfl (rIn_vp (by decide) (by decide) c_4) ?_
      refine st_icmp_lt C (tgt := 23) (dk DX3_stepTo_0 10 rfl) (by decide) (fun c_18 => ?_) (fun c_18 => ?_)
      · obtain ⟨j, hj, rfl⟩ := nI_of c_8
        obtain ⟨b9, hb9, hlt, hb⟩ := lt_pos hj c_18
        refine st_aload_n C (dk DX3_stepTo_0 13 rfl) rfl ?_
        refine st_aload_n C (dk DX3_stepTo_0 14 rfl) rfl ?_
        refine st_get C fl_RX3_21 (dk DX3_stepTo_0 15 rfl) 0 rfl rfl ?_
        refine st_iload_n C (dk DX3_stepTo_0 16 rfl) rfl ?_
        refine st_iald C (dk DX3_stepTo_0 17 rfl) 2 rfl (rIn_vp (by decide) (by decide) c_4) ?_
        refine st_cV C (k_X3_entryAt l G) mf_X3_entryAt mi_X3_entryAt ml_RX3_61 (dk DX3_stepTo_0 18 rfl) [0, 1] rfl rfl rfl rfl (Nat.le_of_ble_eq_true rfl) rfl rfl ⟨Nat.le_of_ble_eq_true rfl, Nat.le_of_ble_eq_true rfl⟩ ⟨Nat.zero_le _, Nat.zero_le _⟩ (fun r9 w9 hq9 => ?_)
        obtain ⟨rfl, rfl⟩ := hq9
        refine st_istore_n C (dk DX3_stepTo_0 19 rfl) (by decide) rfl ?_
        refine st_aload_n C (dk DX3_stepTo_0 20 rfl) rfl ?_
        refine st_get C fl_RX3_24 (dk DX3_stepTo_0 21 rfl) 0 rfl rfl ?_
        refine st_iload_n C (dk DX3_stepTo_0 22 rfl) rfl ?_
        refine st_iald C (dk DX3_stepTo_0 23 rfl) 3 rfl (rIn_vp (by decide) (by decide) c_4) ?_
        refine st_iconst C (v := 1) (dk DX3_stepTo_0 24 rfl) (by decide) ?_
        refine st_isub C (dk DX3_stepTo_0 25 rfl) ?_
        refine st_istore C (dk DX3_stepTo_0 26 rfl) (by decide) rfl ?_
        exact loop (b9 - 1 - j) j _ _ (by omega) (by rw [hb, show (1 : Int32) = nI 1 from rfl, pk_sub (by omega)]; congr 1; omega) (by rw [rStepTo, if_neg c_4, if_neg c_8, if_pos c_18, hb, nI_clamp hb9, nI_clamp hj])
      · refine st_iconst C (v := -1) (dk DX3_stepTo_0 11 rfl) (by decide) ?_
        exact Rr 0 0 _ _ _ _ _ _ (Nat.zero_le _) (Nat.zero_le _) (dk DX3_stepTo_0 12 rfl) (.inr (.inl ⟨_, rfl, rfl, rfl, rfl⟩)) rfl ⟨rfl, ⟨by first | (simp [c_4, c_8, c_18, rStepTo]; done) | (simp_all [rStepTo]; done), rfl⟩⟩
set_option maxHeartbeats 4000000 in
set_option maxRecDepth 100000 in
theorem k_X4_codeAt (l : Launch) (G : wG) {y y1 : Nat} {tl ce la : Int32} {cd : Nat → Int32} {i : Int32} : Con0 l G yX4_codeAt cX4_codeAt 2 (some .int) 0 [.ref y, .int i] [(y, ob 3 (tF y1 tl ce la)), (y1, aI G 60 cd)] (fun r w => r = some (.int (rAt cd i)) ∧ w = [(y, ob 3 (tF y1 tl ce la)), (y1, aI G 60 cd)]) := by
  refine Con.mk (by decide +kernel) (Nat.le_of_ble_eq_true rfl) (fun P C Rr => ?_)
  refine st_iload_n C (dk DX4_codeAt_0 0 rfl) rfl ?_
  refine st_if_lt C (tgt := 19) (dk DX4_codeAt_0 1 rfl) (by decide) (fun c_1 => ?_) (fun c_1 => ?_)
  · refine st_iconst C (v := 0) (dk DX4_codeAt_0 10 rfl) (by decide) ?_
    exact Rr 0 0 _ _ _ _ _ _ (Nat.zero_le _) (Nat.zero_le _) (dk DX4_codeAt_0 11 rfl) (.inr (.inl ⟨_, rfl, rfl, rfl, rfl⟩)) rfl ⟨rfl, ⟨by first | (simp [c_1, rAt]; done) | (simp_all [rAt]; done), rfl⟩⟩
  · refine st_iload_n C (dk DX4_codeAt_0 2 rfl) rfl ?_
    refine st_bipush C (v := 60) (dk DX4_codeAt_0 3 rfl) (by decide) ?_
    refine st_icmp_ge C (tgt := 19) (dk DX4_codeAt_0 4 rfl) (by decide) (fun c_7 => ?_) (fun c_7 => ?_)
    · refine st_iconst C (v := 0) (dk DX4_codeAt_0 10 rfl) (by decide) ?_
      exact Rr 0 0 _ _ _ _ _ _ (Nat.zero_le _) (Nat.zero_le _) (dk DX4_codeAt_0 11 rfl) (.inr (.inl ⟨_, rfl, rfl, rfl, rfl⟩)) rfl ⟨rfl, ⟨by first | (simp [c_1, c_7, rAt]; done) | (simp_all [rAt]; done), rfl⟩⟩
    · refine st_aload_n C (dk DX4_codeAt_0 5 rfl) rfl ?_
      refine st_get C fl_RX4_9 (dk DX4_codeAt_0 6 rfl) 0 rfl rfl ?_
      refine st_iload_n C (dk DX4_codeAt_0 7 rfl) rfl ?_
      refine st_iald C (dk DX4_codeAt_0 8 rfl) 1 rfl (vp_of (by decide) (by decide) c_1 c_7) ?_
      refine st_goto C (tgt := 20) (dk DX4_codeAt_0 9 rfl) (by decide) ?_
      exact Rr 0 0 _ _ _ _ _ _ (Nat.zero_le _) (Nat.zero_le _) (dk DX4_codeAt_0 11 rfl) (.inr (.inl ⟨_, rfl, rfl, rfl, rfl⟩)) rfl ⟨rfl, ⟨by first | (simp [c_1, c_7, rAt]; done) | (simp_all [rAt]; done), rfl⟩⟩
set_option maxHeartbeats 4000000 in
set_option maxRecDepth 100000 in
theorem k_X4_add (l : Launch) (G : wG) {y y1 : Nat} {tl ce la : Int32} {cd : Nat → Int32} {v : Int32} : Con0 l G yX4_add cX4_add 2 none 0 [.ref y, .int v] [(y, ob 3 (tF y1 tl ce la)), (y1, aI G 60 cd)] (fun r w => r = none ∧ w = [(y, ob 3 (if tl < 0 then tF y1 tl ce la else if 60 ≤ tl then tF y1 tl ce la else tF y1 (tl + 1) ce la)), (y1, aI G 60 (if tl < 0 then cd else if 60 ≤ tl then cd else upd cd tl.toNatClampNeg v))]) := by
  refine Con.mk (by decide +kernel) (Nat.le_of_ble_eq_true rfl) (fun P C Rr => ?_)
  refine st_aload_n C (dk DX4_add_0 0 rfl) rfl ?_
  refine st_get C fl_RX4_15 (dk DX4_add_0 1 rfl) 0 rfl rfl ?_
  refine st_if_lt C (tgt := 36) (dk DX4_add_0 2 rfl) (by decide) (fun c_4 => ?_) (fun c_4 => ?_)
  · exact Rr 0 0 _ _ _ _ _ _ (Nat.zero_le _) (Nat.zero_le _) (dk DX4_add_0 19 rfl) (.inl ⟨rfl, rfl, rfl, rfl⟩) rfl ⟨rfl, ⟨rfl, by rw [if_pos c_4, if_pos c_4]; rfl⟩⟩
  · refine st_aload_n C (dk DX4_add_0 3 rfl) rfl ?_
    refine st_get C fl_RX4_15 (dk DX4_add_0 4 rfl) 0 rfl rfl ?_
    refine st_bipush C (v := 60) (dk DX4_add_0 5 rfl) (by decide) ?_
    refine st_icmp_ge C (tgt := 36) (dk DX4_add_0 6 rfl) (by decide) (fun c_13 => ?_) (fun c_13 => ?_)
    · exact Rr 0 0 _ _ _ _ _ _ (Nat.zero_le _) (Nat.zero_le _) (dk DX4_add_0 19 rfl) (.inl ⟨rfl, rfl, rfl, rfl⟩) rfl ⟨rfl, ⟨rfl, by rw [if_neg c_4, if_pos c_13, if_neg c_4, if_pos c_13]; rfl⟩⟩
    · refine st_aload_n C (dk DX4_add_0 7 rfl) rfl ?_
      refine st_get C fl_RX4_9 (dk DX4_add_0 8 rfl) 0 rfl rfl ?_
      refine st_aload_n C (dk DX4_add_0 9 rfl) rfl ?_
      refine st_get C fl_RX4_15 (dk DX4_add_0 10 rfl) 0 rfl rfl ?_
      refine st_iload_n C (dk DX4_add_0 11 rfl) rfl ?_
      refine st_iast C (dk DX4_add_0 12 rfl) 1 rfl (vp_of (by decide) (by decide) c_4 c_13) ?_
      refine st_aload_n C (dk DX4_add_0 13 rfl) rfl ?_
      refine st_dup C (dk DX4_add_0 14 rfl) rfl ?_
      refine st_get C fl_RX4_15 (dk DX4_add_0 15 rfl) 0 rfl rfl ?_
      refine st_iconst C (v := 1) (dk DX4_add_0 16 rfl) (by decide) ?_
      refine st_iadd C (dk DX4_add_0 17 rfl) ?_
      refine st_put C fl_RX4_15 fc_3 fw_3_1 (dk DX4_add_0 18 rfl) 0 rfl rfl rfl (Nat.le_of_ble_eq_true rfl) ?_
      exact Rr 0 0 _ _ _ _ _ _ (Nat.zero_le _) (Nat.zero_le _) (dk DX4_add_0 19 rfl) (.inl ⟨rfl, rfl, rfl, rfl⟩) rfl ⟨rfl, ⟨rfl, by rw [if_neg c_4, if_neg c_13, if_neg c_4, if_neg c_13]; rfl⟩⟩
set_option maxHeartbeats 4000000 in
set_option maxRecDepth 100000 in
theorem k_X4_takeKey (l : Launch) (G : wG) {y y1 : Nat} {tl ce la : Int32} {p q1 q2 : Nat} {fb sb co le sp sw dp : Int32} {b : Int32} : Con0 l G yX4_takeKey cX4_takeKey 3 (some .boolean) 2 [.ref y, .int b, .ref p] [(y, ob 3 (tF y1 tl ce la)), (p, ob 0 (cF q1 q2 fb sb co le sp sw dp))] (fun r w => r = some (.int (rTkB ce b fb sb)) ∧ w = [(y, ob 3 (rTkT y1 tl ce la b fb sb)), (p, ob 0 (rTkC q1 q2 fb sb co le sp sw dp ce b))]) := by
  refine Con.mk (by decide +kernel) (Nat.le_of_ble_eq_true rfl) (fun P C Rr => ?_)
  refine st_aload_n C (dk DX4_takeKey_0 0 rfl) rfl ?_
  refine st_get C fl_RX4_19 (dk DX4_takeKey_0 1 rfl) 0 rfl rfl ?_
  refine st_bipush C (v := 16) (dk DX4_takeKey_0 2 rfl) (by decide) ?_
  refine st_icmp_ge C (tgt := 21) (dk DX4_takeKey_0 3 rfl) (by decide) (fun c_6 => ?_) (fun c_6 => ?_)
  · refine st_iconst C (v := 0) (dk DX4_takeKey_0 10 rfl) (by decide) ?_
    exact Rr 0 0 _ _ _ _ _ _ (Nat.zero_le _) (Nat.zero_le _) (dk DX4_takeKey_0 11 rfl) (.inr (.inr (.inl ⟨_, rfl, (by first | exact Or.inl rfl | exact Or.inr rfl | assumption), rfl, rfl, rfl⟩))) rfl ⟨rfl, ⟨by first | (simp [c_6, rTkB, rTkT, rTkC]; done) | (simp_all [rTkB, rTkT, rTkC]; done), by first | (simp [c_6, rTkB, rTkT, rTkC]; done) | (simp [c_6, rTkB, rTkT, rTkC]; rfl) | (simp_all [rTkB, rTkT, rTkC]; done) | (simp_all [rTkB, rTkT, rTkC]; rfl)⟩⟩
  · refine st_iload_n C (dk DX4_takeKey_0 4 rfl) rfl ?_
    refine st_if_eq C (tgt := 23) (dk DX4_takeKey_0 5 rfl) (by decide) (fun c_10 => ?_) (fun c_10 => ?_)
    · refine st_aload_n C (dk DX4_takeKey_0 12 rfl) rfl ?_
      refine st_aload_n C (dk DX4_takeKey_0 13 rfl) rfl ?_
      refine st_get C fl_RX4_19 (dk DX4_takeKey_0 14 rfl) 0 rfl rfl ?_
      refine st_iload_n C (dk DX4_takeKey_0 15 rfl) rfl ?_
      refine st_cV C (k_X1_putKey l G) mf_X1_putKey mi_X1_putKey ml_RX4_49 (dk DX4_takeKey_0 16 rfl) [1] rfl rfl rfl rfl (Nat.le_of_ble_eq_true rfl) rfl rfl ⟨Nat.le_of_ble_eq_true rfl, Nat.le_of_ble_eq_true rfl⟩ ⟨Nat.zero_le _, Nat.zero_le _⟩ (fun r9 w9 hq9 => ?_)
      obtain ⟨rfl, rfl⟩ := hq9
      refine st_aload_n C (dk DX4_takeKey_0 17 rfl) rfl ?_
      refine st_dup C (dk DX4_takeKey_0 18 rfl) rfl ?_
      refine st_get C fl_RX4_19 (dk DX4_takeKey_0 19 rfl) 0 rfl rfl ?_
      refine st_iconst C (v := 1) (dk DX4_takeKey_0 20 rfl) (by decide) ?_
      refine st_iadd C (dk DX4_takeKey_0 21 rfl) ?_
      refine st_put C fl_RX4_19 fc_3 fw_3_2 (dk DX4_takeKey_0 22 rfl) 0 rfl rfl rfl (Nat.le_of_ble_eq_true rfl) ?_
      refine st_aload_n C (dk DX4_takeKey_0 23 rfl) rfl ?_
      refine st_iconst C (v := 1) (dk DX4_takeKey_0 24 rfl) (by decide) ?_
      refine st_put C fl_RX4_22 fc_3 fw_3_3 (dk DX4_takeKey_0 25 rfl) 0 rfl rfl rfl (Nat.le_of_ble_eq_true rfl) ?_
      refine st_iconst C (v := 1) (dk DX4_takeKey_0 26 rfl) (by decide) ?_
      exact Rr 0 0 _ _ _ _ _ _ (Nat.zero_le _) (Nat.zero_le _) (dk DX4_takeKey_0 27 rfl) (.inr (.inr (.inl ⟨_, rfl, (by first | exact Or.inl rfl | exact Or.inr rfl | assumption), rfl, rfl, rfl⟩))) rfl ⟨rfl, ⟨by first | (simp [c_6, c_10, rTkB, rTkT, rTkC]; done) | (simp_all [rTkB, rTkT, rTkC]; done), by first | (simp [c_6, c_10, rTkB, rTkT, rTkC]; done) | (simp [c_6, c_10, rTkB, rTkT, rTkC]; rfl) | (simp_all [rTkB, rTkT, rTkC]; done) | (simp_all [rTkB, rTkT, rTkC]; rfl)⟩⟩
    · refine st_aload_n C (dk DX4_takeKey_0 6 rfl) rfl ?_
      refine st_cV C (k_X1_keys l G) mf_X1_keys mi_X1_keys ml_RX4_43 (dk DX4_takeKey_0 7 rfl) [1] rfl rfl rfl rfl (Nat.le_of_ble_eq_true rfl) rfl rfl ⟨Nat.le_of_ble_eq_true rfl, Nat.le_of_ble_eq_true rfl⟩ ⟨Nat.zero_le _, Nat.zero_le _⟩ (fun r9 w9 hq9 => ?_)
      obtain ⟨rfl, rfl⟩ := hq9
      refine st_iconst C (v := 2) (dk DX4_takeKey_0 8 rfl) (by decide) ?_
      refine st_icmp_lt C (tgt := 23) (dk DX4_takeKey_0 9 rfl) (by decide) (fun c_18 => ?_) (fun c_18 => ?_)
      · refine st_aload_n C (dk DX4_takeKey_0 12 rfl) rfl ?_
        refine st_aload_n C (dk DX4_takeKey_0 13 rfl) rfl ?_
        refine st_get C fl_RX4_19 (dk DX4_takeKey_0 14 rfl) 0 rfl rfl ?_
        refine st_iload_n C (dk DX4_takeKey_0 15 rfl) rfl ?_
        refine st_cV C (k_X1_putKey l G) mf_X1_putKey mi_X1_putKey ml_RX4_49 (dk DX4_takeKey_0 16 rfl) [1] rfl rfl rfl rfl (Nat.le_of_ble_eq_true rfl) rfl rfl ⟨Nat.le_of_ble_eq_true rfl, Nat.le_of_ble_eq_true rfl⟩ ⟨Nat.zero_le _, Nat.zero_le _⟩ (fun r9 w9 hq9 => ?_)
        obtain ⟨rfl, rfl⟩ := hq9
        refine st_aload_n C (dk DX4_takeKey_0 17 rfl) rfl ?_
        refine st_dup C (dk DX4_takeKey_0 18 rfl) rfl ?_
        refine st_get C fl_RX4_19 (dk DX4_takeKey_0 19 rfl) 0 rfl rfl ?_
        refine st_iconst C (v := 1) (dk DX4_takeKey_0 20 rfl) (by decide) ?_
        refine st_iadd C (dk DX4_takeKey_0 21 rfl) ?_
        refine st_put C fl_RX4_19 fc_3 fw_3_2 (dk DX4_takeKey_0 22 rfl) 0 rfl rfl rfl (Nat.le_of_ble_eq_true rfl) ?_
        refine st_aload_n C (dk DX4_takeKey_0 23 rfl) rfl ?_
        refine st_iconst C (v := 1) (dk DX4_takeKey_0 24 rfl) (by decide) ?_
        refine st_put C fl_RX4_22 fc_3 fw_3_3 (dk DX4_takeKey_0 25 rfl) 0 rfl rfl rfl (Nat.le_of_ble_eq_true rfl) ?_
        refine st_iconst C (v := 1) (dk DX4_takeKey_0 26 rfl) (by decide) ?_
        exact Rr 0 0 _ _ _ _ _ _ (Nat.zero_le _) (Nat.zero_le _) (dk DX4_takeKey_0 27 rfl) (.inr (.inr (.inl ⟨_, rfl, (by first | exact Or.inl rfl | exact Or.inr rfl | assumption), rfl, rfl, rfl⟩))) rfl ⟨rfl, ⟨by first | (simp [c_6, c_10, c_18, rTkB, rTkT, rTkC]; done) | (simp_all [rTkB, rTkT, rTkC]; done), by first | (simp [c_6, c_10, c_18, rTkB, rTkT, rTkC]; done) | (simp [c_6, c_10, c_18, rTkB, rTkT, rTkC]; rfl) | (simp_all [rTkB, rTkT, rTkC]; done) | (simp_all [rTkB, rTkT, rTkC]; rfl)⟩⟩
      · refine st_iconst C (v := 0) (dk DX4_takeKey_0 10 rfl) (by decide) ?_
        exact Rr 0 0 _ _ _ _ _ _ (Nat.zero_le _) (Nat.zero_le _) (dk DX4_takeKey_0 11 rfl) (.inr (.inr (.inl ⟨_, rfl, (by first | exact Or.inl rfl | exact Or.inr rfl | assumption), rfl, rfl, rfl⟩))) rfl ⟨rfl, ⟨by first | (simp [c_6, c_10, c_18, rTkB, rTkT, rTkC]; done) | (simp_all [rTkB, rTkT, rTkC]; done), by first | (simp [c_6, c_10, c_18, rTkB, rTkT, rTkC]; done) | (simp [c_6, c_10, c_18, rTkB, rTkT, rTkC]; rfl) | (simp_all [rTkB, rTkT, rTkC]; done) | (simp_all [rTkB, rTkT, rTkC]; rfl)⟩⟩
set_option maxHeartbeats 4000000 in
set_option maxRecDepth 100000 in
theorem k_X4_takeLadder (l : Launch) (G : wG) {y y1 : Nat} {tl ce la : Int32} {p q1 q2 : Nat} {fb sb co le sp sw dp : Int32} {ld : Nat → Int32} : Con0 l G yX4_takeLadder cX4_takeLadder 2 (some .boolean) 2 [.ref y, .ref p] [(y, ob 3 (tF y1 tl ce la)), (p, ob 0 (cF q1 q2 fb sb co le sp sw dp)), (q2, aI G 16 ld)] (fun r w => r = some (.int (rTlB la)) ∧ w = [(y, ob 3 (rTlT y1 tl ce la)), (p, ob 0 (cF q1 q2 fb sb co le sp sw dp)), (q2, aI G 16 (rTlD ld ce la))]) := by
  refine Con.mk (by decide +kernel) (Nat.le_of_ble_eq_true rfl) (fun P C Rr => ?_)
  refine st_aload_n C (dk DX4_takeLadder_0 0 rfl) rfl ?_
  refine st_get C fl_RX4_22 (dk DX4_takeLadder_0 1 rfl) 0 rfl rfl ?_
  refine st_iconst C (v := 1) (dk DX4_takeLadder_0 2 rfl) (by decide) ?_
  refine st_icmp_eq C (tgt := 10) (dk DX4_takeLadder_0 3 rfl) (by decide) (fun c_5 => ?_) (fun c_5 => ?_)
  · refine st_aload_n C (dk DX4_takeLadder_0 6 rfl) rfl ?_
    refine st_aload_n C (dk DX4_takeLadder_0 7 rfl) rfl ?_
    refine st_get C fl_RX4_19 (dk DX4_takeLadder_0 8 rfl) 0 rfl rfl ?_
    refine st_iconst C (v := 1) (dk DX4_takeLadder_0 9 rfl) (by decide) ?_
    refine st_isub C (dk DX4_takeLadder_0 10 rfl) ?_
    refine st_iconst C (v := 1) (dk DX4_takeLadder_0 11 rfl) (by decide) ?_
    refine st_cV C (k_X1_setLadder l G) mf_X1_setLadder mi_X1_setLadder ml_RX4_53 (dk DX4_takeLadder_0 12 rfl) [1, 2] rfl rfl rfl rfl (Nat.le_of_ble_eq_true rfl) rfl rfl ⟨Nat.le_of_ble_eq_true rfl, Nat.le_of_ble_eq_true rfl⟩ ⟨Nat.zero_le _, Nat.zero_le _⟩ (fun r9 w9 hq9 => ?_)
    obtain ⟨rfl, rfl⟩ := hq9
    refine st_aload_n C (dk DX4_takeLadder_0 13 rfl) rfl ?_
    refine st_iconst C (v := 2) (dk DX4_takeLadder_0 14 rfl) (by decide) ?_
    refine st_put C fl_RX4_22 fc_3 fw_3_3 (dk DX4_takeLadder_0 15 rfl) 0 rfl rfl rfl (Nat.le_of_ble_eq_true rfl) ?_
    refine st_iconst C (v := 1) (dk DX4_takeLadder_0 16 rfl) (by decide) ?_
    exact Rr 0 0 _ _ _ _ _ _ (Nat.zero_le _) (Nat.zero_le _) (dk DX4_takeLadder_0 17 rfl) (.inr (.inr (.inl ⟨_, rfl, (by first | exact Or.inl rfl | exact Or.inr rfl | assumption), rfl, rfl, rfl⟩))) rfl ⟨rfl, ⟨by first | (simp [c_5, rTlB, rTlT, rTlD]; done) | (simp_all [rTlB, rTlT, rTlD]; done), by first | (simp [c_5, rTlB, rTlT, rTlD]; done) | (simp [c_5, rTlB, rTlT, rTlD]; rfl) | (simp_all [rTlB, rTlT, rTlD]; done) | (simp_all [rTlB, rTlT, rTlD]; rfl)⟩⟩
  · refine st_iconst C (v := 0) (dk DX4_takeLadder_0 4 rfl) (by decide) ?_
    exact Rr 0 0 _ _ _ _ _ _ (Nat.zero_le _) (Nat.zero_le _) (dk DX4_takeLadder_0 5 rfl) (.inr (.inr (.inl ⟨_, rfl, (by first | exact Or.inl rfl | exact Or.inr rfl | assumption), rfl, rfl, rfl⟩))) rfl ⟨rfl, ⟨by first | (simp [c_5, rTlB, rTlT, rTlD]; done) | (simp_all [rTlB, rTlT, rTlD]; done), by first | (simp [c_5, rTlB, rTlT, rTlD]; done) | (simp [c_5, rTlB, rTlT, rTlD]; rfl) | (simp_all [rTlB, rTlT, rTlD]; done) | (simp_all [rTlB, rTlT, rTlD]; rfl)⟩⟩
set_option maxHeartbeats 4000000 in
set_option maxRecDepth 100000 in
theorem k_X4_takeDoor (l : Launch) (G : wG) {y y1 : Nat} {tl ce la : Int32} {p q1 q2 : Nat} {fb sb co le sp sw dp : Int32} {lk : Nat → Int32} {v : Int32} : Con0 l G yX4_takeDoor cX4_takeDoor 3 (some .boolean) 2 [.ref y, .int v, .ref p] [(y, ob 3 (tF y1 tl ce la)), (p, ob 0 (cF q1 q2 fb sb co le sp sw dp)), (q1, aI G 15 lk)] (fun r w => r = some (.int (rTdB la ce)) ∧ w = [(y, ob 3 (rTdT y1 tl ce la)), (p, ob 0 (cF q1 q2 fb sb co le sp sw dp)), (q1, aI G 15 (rTdK lk ce la v))]) := by
  refine Con.mk (by decide +kernel) (Nat.le_of_ble_eq_true rfl) (fun P C Rr => ?_)
  refine st_aload_n C (dk DX4_takeDoor_0 0 rfl) rfl ?_
  refine st_get C fl_RX4_22 (dk DX4_takeDoor_0 1 rfl) 0 rfl rfl ?_
  refine st_iconst C (v := 1) (dk DX4_takeDoor_0 2 rfl) (by decide) ?_
  refine st_icmp_eq C (tgt := 16) (dk DX4_takeDoor_0 3 rfl) (by decide) (fun c_5 => ?_) (fun c_5 => ?_)
  · refine st_aload_n C (dk DX4_takeDoor_0 8 rfl) rfl ?_
    refine st_get C fl_RX4_19 (dk DX4_takeDoor_0 9 rfl) 0 rfl rfl ?_
    refine st_bipush C (v := 16) (dk DX4_takeDoor_0 10 rfl) (by decide) ?_
    refine st_icmp_lt C (tgt := 27) (dk DX4_takeDoor_0 11 rfl) (by decide) (fun c_22 => ?_) (fun c_22 => ?_)
    · refine st_aload_n C (dk DX4_takeDoor_0 14 rfl) rfl ?_
      refine st_aload_n C (dk DX4_takeDoor_0 15 rfl) rfl ?_
      refine st_get C fl_RX4_19 (dk DX4_takeDoor_0 16 rfl) 0 rfl rfl ?_
      refine st_iconst C (v := 1) (dk DX4_takeDoor_0 17 rfl) (by decide) ?_
      refine st_isub C (dk DX4_takeDoor_0 18 rfl) ?_
      refine st_iload_n C (dk DX4_takeDoor_0 19 rfl) rfl ?_
      refine st_cV C (k_X1_setLock l G) mf_X1_setLock mi_X1_setLock ml_RX4_56 (dk DX4_takeDoor_0 20 rfl) [1, 2] rfl rfl rfl rfl (Nat.le_of_ble_eq_true rfl) rfl rfl ⟨Nat.le_of_ble_eq_true rfl, Nat.le_of_ble_eq_true rfl⟩ ⟨Nat.zero_le _, Nat.zero_le _⟩ (fun r9 w9 hq9 => ?_)
      obtain ⟨rfl, rfl⟩ := hq9
      refine st_aload_n C (dk DX4_takeDoor_0 21 rfl) rfl ?_
      refine st_iconst C (v := 3) (dk DX4_takeDoor_0 22 rfl) (by decide) ?_
      refine st_put C fl_RX4_22 fc_3 fw_3_3 (dk DX4_takeDoor_0 23 rfl) 0 rfl rfl rfl (Nat.le_of_ble_eq_true rfl) ?_
      refine st_iconst C (v := 1) (dk DX4_takeDoor_0 24 rfl) (by decide) ?_
      exact Rr 0 0 _ _ _ _ _ _ (Nat.zero_le _) (Nat.zero_le _) (dk DX4_takeDoor_0 25 rfl) (.inr (.inr (.inl ⟨_, rfl, (by first | exact Or.inl rfl | exact Or.inr rfl | assumption), rfl, rfl, rfl⟩))) rfl ⟨rfl, ⟨by first | (simp [c_5, c_22, rTdB, rTdT, rTdK]; done) | (simp_all [rTdB, rTdT, rTdK]; done), by first | (simp [c_5, c_22, rTdB, rTdT, rTdK]; done) | (simp [c_5, c_22, rTdB, rTdT, rTdK]; rfl) | (simp_all [rTdB, rTdT, rTdK]; done) | (simp_all [rTdB, rTdT, rTdK]; rfl)⟩⟩
    · refine st_iconst C (v := 0) (dk DX4_takeDoor_0 12 rfl) (by decide) ?_
      exact Rr 0 0 _ _ _ _ _ _ (Nat.zero_le _) (Nat.zero_le _) (dk DX4_takeDoor_0 13 rfl) (.inr (.inr (.inl ⟨_, rfl, (by first | exact Or.inl rfl | exact Or.inr rfl | assumption), rfl, rfl, rfl⟩))) rfl ⟨rfl, ⟨by first | (simp [c_5, c_22, rTdB, rTdT, rTdK]; done) | (simp_all [rTdB, rTdT, rTdK]; done), by first | (simp [c_5, c_22, rTdB, rTdT, rTdK]; done) | (simp [c_5, c_22, rTdB, rTdT, rTdK]; rfl) | (simp_all [rTdB, rTdT, rTdK]; done) | (simp_all [rTdB, rTdT, rTdK]; rfl)⟩⟩
  · refine st_aload_n C (dk DX4_takeDoor_0 4 rfl) rfl ?_
    refine st_get C fl_RX4_22 (dk DX4_takeDoor_0 5 rfl) 0 rfl rfl ?_
    refine st_iconst C (v := 2) (dk DX4_takeDoor_0 6 rfl) (by decide) ?_
    refine st_icmp_ne C (tgt := 25) (dk DX4_takeDoor_0 7 rfl) (by decide) (fun c_13 => ?_) (fun c_13 => ?_)
    · refine st_iconst C (v := 0) (dk DX4_takeDoor_0 12 rfl) (by decide) ?_
      exact Rr 0 0 _ _ _ _ _ _ (Nat.zero_le _) (Nat.zero_le _) (dk DX4_takeDoor_0 13 rfl) (.inr (.inr (.inl ⟨_, rfl, (by first | exact Or.inl rfl | exact Or.inr rfl | assumption), rfl, rfl, rfl⟩))) rfl ⟨rfl, ⟨by first | (simp [c_5, c_13, rTdB, rTdT, rTdK]; done) | (simp_all [rTdB, rTdT, rTdK]; done), by first | (simp [c_5, c_13, rTdB, rTdT, rTdK]; done) | (simp [c_5, c_13, rTdB, rTdT, rTdK]; rfl) | (simp_all [rTdB, rTdT, rTdK]; done) | (simp_all [rTdB, rTdT, rTdK]; rfl)⟩⟩
    · refine st_aload_n C (dk DX4_takeDoor_0 8 rfl) rfl ?_
      refine st_get C fl_RX4_19 (dk DX4_takeDoor_0 9 rfl) 0 rfl rfl ?_
      refine st_bipush C (v := 16) (dk DX4_takeDoor_0 10 rfl) (by decide) ?_
      refine st_icmp_lt C (tgt := 27) (dk DX4_takeDoor_0 11 rfl) (by decide) (fun c_22 => ?_) (fun c_22 => ?_)
      · refine st_aload_n C (dk DX4_takeDoor_0 14 rfl) rfl ?_
        refine st_aload_n C (dk DX4_takeDoor_0 15 rfl) rfl ?_
        refine st_get C fl_RX4_19 (dk DX4_takeDoor_0 16 rfl) 0 rfl rfl ?_
        refine st_iconst C (v := 1) (dk DX4_takeDoor_0 17 rfl) (by decide) ?_
        refine st_isub C (dk DX4_takeDoor_0 18 rfl) ?_
        refine st_iload_n C (dk DX4_takeDoor_0 19 rfl) rfl ?_
        refine st_cV C (k_X1_setLock l G) mf_X1_setLock mi_X1_setLock ml_RX4_56 (dk DX4_takeDoor_0 20 rfl) [1, 2] rfl rfl rfl rfl (Nat.le_of_ble_eq_true rfl) rfl rfl ⟨Nat.le_of_ble_eq_true rfl, Nat.le_of_ble_eq_true rfl⟩ ⟨Nat.zero_le _, Nat.zero_le _⟩ (fun r9 w9 hq9 => ?_)
        obtain ⟨rfl, rfl⟩ := hq9
        refine st_aload_n C (dk DX4_takeDoor_0 21 rfl) rfl ?_
        refine st_iconst C (v := 3) (dk DX4_takeDoor_0 22 rfl) (by decide) ?_
        refine st_put C fl_RX4_22 fc_3 fw_3_3 (dk DX4_takeDoor_0 23 rfl) 0 rfl rfl rfl (Nat.le_of_ble_eq_true rfl) ?_
        refine st_iconst C (v := 1) (dk DX4_takeDoor_0 24 rfl) (by decide) ?_
        exact Rr 0 0 _ _ _ _ _ _ (Nat.zero_le _) (Nat.zero_le _) (dk DX4_takeDoor_0 25 rfl) (.inr (.inr (.inl ⟨_, rfl, (by first | exact Or.inl rfl | exact Or.inr rfl | assumption), rfl, rfl, rfl⟩))) rfl ⟨rfl, ⟨by first | (simp [c_5, c_13, c_22, rTdB, rTdT, rTdK]; done) | (simp_all [rTdB, rTdT, rTdK]; done), by first | (simp [c_5, c_13, c_22, rTdB, rTdT, rTdK]; done) | (simp [c_5, c_13, c_22, rTdB, rTdT, rTdK]; rfl) | (simp_all [rTdB, rTdT, rTdK]; done) | (simp_all [rTdB, rTdT, rTdK]; rfl)⟩⟩
      · refine st_iconst C (v := 0) (dk DX4_takeDoor_0 12 rfl) (by decide) ?_
        exact Rr 0 0 _ _ _ _ _ _ (Nat.zero_le _) (Nat.zero_le _) (dk DX4_takeDoor_0 13 rfl) (.inr (.inr (.inl ⟨_, rfl, (by first | exact Or.inl rfl | exact Or.inr rfl | assumption), rfl, rfl, rfl⟩))) rfl ⟨rfl, ⟨by first | (simp [c_5, c_13, c_22, rTdB, rTdT, rTdK]; done) | (simp_all [rTdB, rTdT, rTdK]; done), by first | (simp [c_5, c_13, c_22, rTdB, rTdT, rTdK]; done) | (simp [c_5, c_13, c_22, rTdB, rTdT, rTdK]; rfl) | (simp_all [rTdB, rTdT, rTdK]; done) | (simp_all [rTdB, rTdT, rTdK]; rfl)⟩⟩
end
section
/-! contracts of Text.take and of the saves -/
set_option maxHeartbeats 4000000 in
set_option maxRecDepth 100000 in
theorem k_X4_take (l : Launch) (G : wG) {y y1 : Nat} {tl ce la : Int32} {p q1 q2 : Nat} {fb sb co le sp sw dp : Int32} {lk ld : Nat → Int32} {c : Int32} : Con0 l G yX4_take cX4_take 3 (some .boolean) 3 [.ref y, .int c, .ref p] [(y, ob 3 (tF y1 tl ce la)), (p, ob 0 (cF q1 q2 fb sb co le sp sw dp)), (q1, aI G 15 lk), (q2, aI G 16 ld)] (fun r w => r = some (.int (rTB c ce la fb sb)) ∧ w = [(y, ob 3 (rTT y1 c tl ce la fb sb)), (p, ob 0 (rTC q1 q2 fb sb co le sp sw dp c ce)), (q1, aI G 15 (rTK lk c ce la)), (q2, aI G 16 (rTD ld c ce la))]) := by
  refine Con.mk (by decide +kernel) (Nat.le_of_ble_eq_true rfl) (fun P C Rr => ?_)
  refine st_iload_n C (dk DX4_take_0 0 rfl) rfl ?_
  refine st_bipush C (v := 46) (dk DX4_take_0 1 rfl) (by decide) ?_
  refine st_icmp_eq C (tgt := 18) (dk DX4_take_0 2 rfl) (by decide) (fun c_3 => ?_) (fun c_3 => ?_)
  · refine st_aload_n C (dk DX4_take_0 9 rfl) rfl ?_
    refine st_iload_n C (dk DX4_take_0 10 rfl) rfl ?_
    refine st_bipush C (v := 46) (dk DX4_take_0 11 rfl) (by decide) ?_
    refine st_icmp_ne C (tgt := 29) (dk DX4_take_0 12 rfl) (by decide) (fun c_22 => ?_) (fun c_22 => ?_)
    · exact absurd (show c = 46 by assumption) c_22
    · refine st_iconst C (v := 0) (dk DX4_take_0 13 rfl) (by decide) ?_
      refine st_goto C (tgt := 33) (dk DX4_take_0 14 rfl) (by decide) ?_
      refine st_aload_n C (dk DX4_take_0 18 rfl) rfl ?_
      refine st_cV C (k_X4_takeKey l G) mf_X4_takeKey mi_X4_takeKey ml_RX4_33 (dk DX4_take_0 19 rfl) [0, 1] rfl rfl rfl rfl (Nat.le_of_ble_eq_true rfl) rfl rfl ⟨Nat.le_of_ble_eq_true rfl, Nat.le_of_ble_eq_true rfl⟩ ⟨Nat.zero_le _, Nat.zero_le _⟩ (fun r9 w9 hq9 => ?_)
      obtain ⟨rfl, rfl⟩ := hq9
      refine Rr 0 0 _ _ _ _ _ _ (Nat.zero_le _) (Nat.zero_le _) (dk DX4_take_0 20 rfl) (.inr (.inr (.inl ⟨_, rfl, (by first | exact Or.inl rfl | exact Or.inr rfl | exact rTkB_01 _ _ _ _ | exact rTlB_01 _ | exact rTdB_01 _ _), rfl, rfl, rfl⟩))) rfl ?_
      have hk : rKind c = 0 := by first | (simp [rKind, c_3, c_22]; done) | (simp_all [rKind]; done)
      have hy : rKey c = 0 := by first | (simp [rKey, c_3, c_22]; done) | (simp_all [rKey]; done)
      refine ⟨rfl, by rw [rTB, hk, hy]; rfl, ?_⟩
      rw [rTT, rTC, rTK, rTD, hk, hy]
      rfl
  · refine st_iload_n C (dk DX4_take_0 3 rfl) rfl ?_
    refine st_bipush C (v := 49) (dk DX4_take_0 4 rfl) (by decide) ?_
    refine st_icmp_lt C (tgt := 38) (dk DX4_take_0 5 rfl) (by decide) (fun c_9 => ?_) (fun c_9 => ?_)
    · refine st_iload_n C (dk DX4_take_0 21 rfl) rfl ?_
      refine st_bipush C (v := 124) (dk DX4_take_0 22 rfl) (by decide) ?_
      refine st_icmp_ne C (tgt := 50) (dk DX4_take_0 23 rfl) (by decide) (fun c_41 => ?_) (fun c_41 => ?_)
      · refine st_iload_n C (dk DX4_take_0 28 rfl) rfl ?_
        refine st_bipush C (v := 97) (dk DX4_take_0 29 rfl) (by decide) ?_
        refine st_icmp_lt C (tgt := 80) (dk DX4_take_0 30 rfl) (by decide) (fun c_53 => ?_) (fun c_53 => ?_)
        · refine st_iconst C (v := 0) (dk DX4_take_1 5 rfl) (by decide) ?_
          refine Rr 0 0 _ _ _ _ _ _ (Nat.zero_le _) (Nat.zero_le _) (dk DX4_take_1 6 rfl) (.inr (.inr (.inl ⟨_, rfl, (by first | exact Or.inl rfl | exact Or.inr rfl | exact rTkB_01 _ _ _ _ | exact rTlB_01 _ | exact rTdB_01 _ _), rfl, rfl, rfl⟩))) rfl ?_
          have hk : rKind c = 3 := by first | (simp [rKind, c_3, c_9, c_41, c_53]; done) | (simp_all [rKind]; done)
          refine ⟨rfl, by rw [rTB, hk]; rfl, ?_⟩
          rw [rTT, rTC, rTK, rTD, hk]
          rfl
        · refine st_iload_n C (dk DX4_take_0 31 rfl) rfl ?_
          refine st_bipush C (v := 101) (dk DX4_take_0 32 rfl) (by decide) ?_
          refine st_icmp_gt C (tgt := 80) (dk DX4_take_0 33 rfl) (by decide) (fun c_59 => ?_) (fun c_59 => ?_)
          · refine st_iconst C (v := 0) (dk DX4_take_1 5 rfl) (by decide) ?_
            refine Rr 0 0 _ _ _ _ _ _ (Nat.zero_le _) (Nat.zero_le _) (dk DX4_take_1 6 rfl) (.inr (.inr (.inl ⟨_, rfl, (by first | exact Or.inl rfl | exact Or.inr rfl | exact rTkB_01 _ _ _ _ | exact rTlB_01 _ | exact rTdB_01 _ _), rfl, rfl, rfl⟩))) rfl ?_
            have hk : rKind c = 3 := by first | (simp [rKind, c_3, c_9, c_41, c_53, c_59]; done) | (simp_all [rKind]; done)
            refine ⟨rfl, by rw [rTB, hk]; rfl, ?_⟩
            rw [rTT, rTC, rTK, rTD, hk]
            rfl
          · refine st_aload_n C (dk DX4_take_0 34 rfl) rfl ?_
            refine st_iload_n C (dk DX4_take_0 35 rfl) rfl ?_
            refine st_bipush C (v := 97) (dk DX4_take_0 36 rfl) (by decide) ?_
            refine st_isub C (dk DX4_take_0 37 rfl) ?_
            refine st_iconst C (v := 1) (dk DX4_take_0 38 rfl) (by decide) ?_
            refine st_iadd C (dk DX4_take_0 39 rfl) ?_
            refine st_aload_n C (dk DX4_take_1 0 rfl) rfl ?_
            refine st_cV C (k_X4_takeDoor l G) mf_X4_takeDoor mi_X4_takeDoor ml_RX4_40 (dk DX4_take_1 1 rfl) [0, 1, 2] rfl rfl rfl rfl (Nat.le_of_ble_eq_true rfl) rfl rfl ⟨Nat.le_of_ble_eq_true rfl, Nat.le_of_ble_eq_true rfl⟩ ⟨Nat.zero_le _, Nat.zero_le _⟩ (fun r9 w9 hq9 => ?_)
            obtain ⟨rfl, rfl⟩ := hq9
            refine st_if_eq C (tgt := 80) (dk DX4_take_1 2 rfl) (by decide) (fun c_73 => ?_) (fun c_73 => ?_)
            · refine st_iconst C (v := 0) (dk DX4_take_1 5 rfl) (by decide) ?_
              refine Rr 0 0 _ _ _ _ _ _ (Nat.zero_le _) (Nat.zero_le _) (dk DX4_take_1 6 rfl) (.inr (.inr (.inl ⟨_, rfl, (by first | exact Or.inl rfl | exact Or.inr rfl | exact rTkB_01 _ _ _ _ | exact rTlB_01 _ | exact rTdB_01 _ _), rfl, rfl, rfl⟩))) rfl ?_
              have hk : rKind c = 2 := by first | (simp [rKind, c_3, c_9, c_41, c_53, c_59, c_73]; done) | (simp_all [rKind]; done)
              refine ⟨rfl, by rw [rTB, hk]; exact congrArg (fun z => some (Value.int z)) c_73.symm, ?_⟩
              rw [rTT, rTC, rTK, rTD, hk]
              rfl
            · refine st_iconst C (v := 1) (dk DX4_take_1 3 rfl) (by decide) ?_
              refine st_goto C (tgt := 81) (dk DX4_take_1 4 rfl) (by decide) ?_
              refine Rr 0 0 _ _ _ _ _ _ (Nat.zero_le _) (Nat.zero_le _) (dk DX4_take_1 6 rfl) (.inr (.inr (.inl ⟨_, rfl, (by first | exact Or.inl rfl | exact Or.inr rfl | exact rTkB_01 _ _ _ _ | exact rTlB_01 _ | exact rTdB_01 _ _), rfl, rfl, rfl⟩))) rfl ?_
              have hk : rKind c = 2 := by first | (simp [rKind, c_3, c_9, c_41, c_53, c_59, c_73]; done) | (simp_all [rKind]; done)
              refine ⟨rfl, by rw [rTB, hk]; exact congrArg (fun z => some (Value.int z)) (rTdB_1 c_73).symm, ?_⟩
              rw [rTT, rTC, rTK, rTD, hk]
              rfl
      · refine st_aload_n C (dk DX4_take_0 24 rfl) rfl ?_
        refine st_aload_n C (dk DX4_take_0 25 rfl) rfl ?_
        refine st_cV C (k_X4_takeLadder l G) mf_X4_takeLadder mi_X4_takeLadder ml_RX4_36 (dk DX4_take_0 26 rfl) [0, 1, 3] rfl rfl rfl rfl (Nat.le_of_ble_eq_true rfl) rfl rfl ⟨Nat.le_of_ble_eq_true rfl, Nat.le_of_ble_eq_true rfl⟩ ⟨Nat.zero_le _, Nat.zero_le _⟩ (fun r9 w9 hq9 => ?_)
        obtain ⟨rfl, rfl⟩ := hq9
        refine Rr 0 0 _ _ _ _ _ _ (Nat.zero_le _) (Nat.zero_le _) (dk DX4_take_0 27 rfl) (.inr (.inr (.inl ⟨_, rfl, (by first | exact Or.inl rfl | exact Or.inr rfl | exact rTkB_01 _ _ _ _ | exact rTlB_01 _ | exact rTdB_01 _ _), rfl, rfl, rfl⟩))) rfl ?_
        have hk : rKind c = 1 := by first | (simp [rKind, c_3, c_9, c_41]; done) | (simp_all [rKind]; done)
        refine ⟨rfl, by rw [rTB, hk]; rfl, ?_⟩
        rw [rTT, rTC, rTK, rTD, hk]
        rfl
    · refine st_iload_n C (dk DX4_take_0 6 rfl) rfl ?_
      refine st_bipush C (v := 53) (dk DX4_take_0 7 rfl) (by decide) ?_
      refine st_icmp_gt C (tgt := 38) (dk DX4_take_0 8 rfl) (by decide) (fun c_15 => ?_) (fun c_15 => ?_)
      · refine st_iload_n C (dk DX4_take_0 21 rfl) rfl ?_
        refine st_bipush C (v := 124) (dk DX4_take_0 22 rfl) (by decide) ?_
        refine st_icmp_ne C (tgt := 50) (dk DX4_take_0 23 rfl) (by decide) (fun c_41 => ?_) (fun c_41 => ?_)
        · refine st_iload_n C (dk DX4_take_0 28 rfl) rfl ?_
          refine st_bipush C (v := 97) (dk DX4_take_0 29 rfl) (by decide) ?_
          refine st_icmp_lt C (tgt := 80) (dk DX4_take_0 30 rfl) (by decide) (fun c_53 => ?_) (fun c_53 => ?_)
          · refine st_iconst C (v := 0) (dk DX4_take_1 5 rfl) (by decide) ?_
            refine Rr 0 0 _ _ _ _ _ _ (Nat.zero_le _) (Nat.zero_le _) (dk DX4_take_1 6 rfl) (.inr (.inr (.inl ⟨_, rfl, (by first | exact Or.inl rfl | exact Or.inr rfl | exact rTkB_01 _ _ _ _ | exact rTlB_01 _ | exact rTdB_01 _ _), rfl, rfl, rfl⟩))) rfl ?_
            have hk : rKind c = 3 := by first | (simp [rKind, c_3, c_9, c_15, c_41, c_53]; done) | (simp_all [rKind]; done)
            refine ⟨rfl, by rw [rTB, hk]; rfl, ?_⟩
            rw [rTT, rTC, rTK, rTD, hk]
            rfl
          · refine st_iload_n C (dk DX4_take_0 31 rfl) rfl ?_
            refine st_bipush C (v := 101) (dk DX4_take_0 32 rfl) (by decide) ?_
            refine st_icmp_gt C (tgt := 80) (dk DX4_take_0 33 rfl) (by decide) (fun c_59 => ?_) (fun c_59 => ?_)
            · refine st_iconst C (v := 0) (dk DX4_take_1 5 rfl) (by decide) ?_
              refine Rr 0 0 _ _ _ _ _ _ (Nat.zero_le _) (Nat.zero_le _) (dk DX4_take_1 6 rfl) (.inr (.inr (.inl ⟨_, rfl, (by first | exact Or.inl rfl | exact Or.inr rfl | exact rTkB_01 _ _ _ _ | exact rTlB_01 _ | exact rTdB_01 _ _), rfl, rfl, rfl⟩))) rfl ?_
              have hk : rKind c = 3 := by first | (simp [rKind, c_3, c_9, c_15, c_41, c_53, c_59]; done) | (simp_all [rKind]; done)
              refine ⟨rfl, by rw [rTB, hk]; rfl, ?_⟩
              rw [rTT, rTC, rTK, rTD, hk]
              rfl
            · refine st_aload_n C (dk DX4_take_0 34 rfl) rfl ?_
              refine st_iload_n C (dk DX4_take_0 35 rfl) rfl ?_
              refine st_bipush C (v := 97) (dk DX4_take_0 36 rfl) (by decide) ?_
              refine st_isub C (dk DX4_take_0 37 rfl) ?_
              refine st_iconst C (v := 1) (dk DX4_take_0 38 rfl) (by decide) ?_
              refine st_iadd C (dk DX4_take_0 39 rfl) ?_
              refine st_aload_n C (dk DX4_take_1 0 rfl) rfl ?_
              refine st_cV C (k_X4_takeDoor l G) mf_X4_takeDoor mi_X4_takeDoor ml_RX4_40 (dk DX4_take_1 1 rfl) [0, 1, 2] rfl rfl rfl rfl (Nat.le_of_ble_eq_true rfl) rfl rfl ⟨Nat.le_of_ble_eq_true rfl, Nat.le_of_ble_eq_true rfl⟩ ⟨Nat.zero_le _, Nat.zero_le _⟩ (fun r9 w9 hq9 => ?_)
              obtain ⟨rfl, rfl⟩ := hq9
              refine st_if_eq C (tgt := 80) (dk DX4_take_1 2 rfl) (by decide) (fun c_73 => ?_) (fun c_73 => ?_)
              · refine st_iconst C (v := 0) (dk DX4_take_1 5 rfl) (by decide) ?_
                refine Rr 0 0 _ _ _ _ _ _ (Nat.zero_le _) (Nat.zero_le _) (dk DX4_take_1 6 rfl) (.inr (.inr (.inl ⟨_, rfl, (by first | exact Or.inl rfl | exact Or.inr rfl | exact rTkB_01 _ _ _ _ | exact rTlB_01 _ | exact rTdB_01 _ _), rfl, rfl, rfl⟩))) rfl ?_
                have hk : rKind c = 2 := by first | (simp [rKind, c_3, c_9, c_15, c_41, c_53, c_59, c_73]; done) | (simp_all [rKind]; done)
                refine ⟨rfl, by rw [rTB, hk]; exact congrArg (fun z => some (Value.int z)) c_73.symm, ?_⟩
                rw [rTT, rTC, rTK, rTD, hk]
                rfl
              · refine st_iconst C (v := 1) (dk DX4_take_1 3 rfl) (by decide) ?_
                refine st_goto C (tgt := 81) (dk DX4_take_1 4 rfl) (by decide) ?_
                refine Rr 0 0 _ _ _ _ _ _ (Nat.zero_le _) (Nat.zero_le _) (dk DX4_take_1 6 rfl) (.inr (.inr (.inl ⟨_, rfl, (by first | exact Or.inl rfl | exact Or.inr rfl | exact rTkB_01 _ _ _ _ | exact rTlB_01 _ | exact rTdB_01 _ _), rfl, rfl, rfl⟩))) rfl ?_
                have hk : rKind c = 2 := by first | (simp [rKind, c_3, c_9, c_15, c_41, c_53, c_59, c_73]; done) | (simp_all [rKind]; done)
                refine ⟨rfl, by rw [rTB, hk]; exact congrArg (fun z => some (Value.int z)) (rTdB_1 c_73).symm, ?_⟩
                rw [rTT, rTC, rTK, rTD, hk]
                rfl
        · refine st_aload_n C (dk DX4_take_0 24 rfl) rfl ?_
          refine st_aload_n C (dk DX4_take_0 25 rfl) rfl ?_
          refine st_cV C (k_X4_takeLadder l G) mf_X4_takeLadder mi_X4_takeLadder ml_RX4_36 (dk DX4_take_0 26 rfl) [0, 1, 3] rfl rfl rfl rfl (Nat.le_of_ble_eq_true rfl) rfl rfl ⟨Nat.le_of_ble_eq_true rfl, Nat.le_of_ble_eq_true rfl⟩ ⟨Nat.zero_le _, Nat.zero_le _⟩ (fun r9 w9 hq9 => ?_)
          obtain ⟨rfl, rfl⟩ := hq9
          refine Rr 0 0 _ _ _ _ _ _ (Nat.zero_le _) (Nat.zero_le _) (dk DX4_take_0 27 rfl) (.inr (.inr (.inl ⟨_, rfl, (by first | exact Or.inl rfl | exact Or.inr rfl | exact rTkB_01 _ _ _ _ | exact rTlB_01 _ | exact rTdB_01 _ _), rfl, rfl, rfl⟩))) rfl ?_
          have hk : rKind c = 1 := by first | (simp [rKind, c_3, c_9, c_15, c_41]; done) | (simp_all [rKind]; done)
          refine ⟨rfl, by rw [rTB, hk]; rfl, ?_⟩
          rw [rTT, rTC, rTK, rTD, hk]
          rfl
      · refine st_aload_n C (dk DX4_take_0 9 rfl) rfl ?_
        refine st_iload_n C (dk DX4_take_0 10 rfl) rfl ?_
        refine st_bipush C (v := 46) (dk DX4_take_0 11 rfl) (by decide) ?_
        refine st_icmp_ne C (tgt := 29) (dk DX4_take_0 12 rfl) (by decide) (fun c_22 => ?_) (fun c_22 => ?_)
        · refine st_iload_n C (dk DX4_take_0 15 rfl) rfl ?_
          refine st_bipush C (v := 48) (dk DX4_take_0 16 rfl) (by decide) ?_
          refine st_isub C (dk DX4_take_0 17 rfl) ?_
          refine st_aload_n C (dk DX4_take_0 18 rfl) rfl ?_
          refine st_cV C (k_X4_takeKey l G) mf_X4_takeKey mi_X4_takeKey ml_RX4_33 (dk DX4_take_0 19 rfl) [0, 1] rfl rfl rfl rfl (Nat.le_of_ble_eq_true rfl) rfl rfl ⟨Nat.le_of_ble_eq_true rfl, Nat.le_of_ble_eq_true rfl⟩ ⟨Nat.zero_le _, Nat.zero_le _⟩ (fun r9 w9 hq9 => ?_)
          obtain ⟨rfl, rfl⟩ := hq9
          refine Rr 0 0 _ _ _ _ _ _ (Nat.zero_le _) (Nat.zero_le _) (dk DX4_take_0 20 rfl) (.inr (.inr (.inl ⟨_, rfl, (by first | exact Or.inl rfl | exact Or.inr rfl | exact rTkB_01 _ _ _ _ | exact rTlB_01 _ | exact rTdB_01 _ _), rfl, rfl, rfl⟩))) rfl ?_
          have hk : rKind c = 0 := by first | (simp [rKind, c_3, c_9, c_15, c_22]; done) | (simp_all [rKind]; done)
          have hy : rKey c = c - 48 := by first | (simp [rKey, c_3, c_9, c_15, c_22]; done) | (simp_all [rKey]; done)
          refine ⟨rfl, by rw [rTB, hk, hy]; rfl, ?_⟩
          rw [rTT, rTC, rTK, rTD, hk, hy]
          rfl
        · exact absurd c_22 (by assumption)
set_option maxHeartbeats 4000000 in
set_option maxRecDepth 100000 in
theorem k_X2_slotAt (l : Launch) (G : wG) {v v1 : Nat} {nx sz : Int32} {f : Nat → Option Nat} {x : Int32} {j b : Nat} (hx : x = nI j) (hj : j < 6) (hf : f j = some b) : Con0 l G yX2_slotAt cX2_slotAt 2 (some (.object "FoldedKeys$Corridor")) 0 [.ref v, .int x] [(v, ob 1 (vF v1 nx sz)), (v1, aQ G 6 f)] (fun r w => r = some (.ref b) ∧ w = [(v, ob 1 (vF v1 nx sz)), (v1, aQ G 6 f)]) := by
  refine Con.mk (by decide +kernel) (Nat.le_of_ble_eq_true rfl) (fun P C Rr => ?_)
  refine st_iload_n C (dk DX2_slotAt_0 0 rfl) rfl ?_
  refine st_if_lt C (tgt := 19) (dk DX2_slotAt_0 1 rfl) (by decide) (fun c_1 => ?_) (fun c_1 => ?_)
  · exact absurd c_1 (by rw [hx]; exact nI_pos (by omega))
  · refine st_iload_n C (dk DX2_slotAt_0 2 rfl) rfl ?_
    refine st_bipush C (v := 6) (dk DX2_slotAt_0 3 rfl) (by decide) ?_
    refine st_icmp_ge C (tgt := 19) (dk DX2_slotAt_0 4 rfl) (by decide) (fun c_7 => ?_) (fun c_7 => ?_)
    · exact absurd ((ge_nI (a := 6) (i := j) (by decide) (by omega) rfl hx).mp c_7) (by omega)
    · refine st_aload_n C (dk DX2_slotAt_0 5 rfl) rfl ?_
      refine st_get C fl_RX2_11 (dk DX2_slotAt_0 6 rfl) 0 rfl rfl ?_
      refine st_iload_n C (dk DX2_slotAt_0 7 rfl) rfl ?_
      refine st_aald C (dk DX2_slotAt_0 8 rfl) 1 rfl (vp_nI hx hj (by decide)) (by rw [cl_nI hx (by omega)]; exact hf) ?_
      refine st_goto C (tgt := 20) (dk DX2_slotAt_0 9 rfl) (by decide) ?_
      exact Rr 0 0 _ _ _ _ _ _ (Nat.zero_le _) (Nat.zero_le _) (dk DX2_slotAt_0 11 rfl) (.inr (.inr (.inr (.inr (.inr ⟨_, _, rfl, rfl, rfl, rfl⟩))))) rfl ⟨rfl, ⟨rfl, rfl⟩⟩
set_option maxHeartbeats 4000000 in
set_option maxRecDepth 100000 in
theorem k_X2_push (l : Launch) (G : wG) {v v1 : Nat} {nx sz : Int32} {u u1 u2 : Nat → Nat} {rs : Nat → Nat → Int32} {rl rd : Nat → Nat → Int32} {p q1 q2 : Nat} {ns lk ld : Nat → Int32} {j : Nat} (hx : nx = nI j) (hj : j < 6) : Con0 l G yX2_push cX2_push 3 none 1 [.ref v, .ref p] [(v, ob 1 (vF v1 nx sz)), (v1, aQ G 6 (fun k => some (u k))), (u 0, ob 0 (cR (u1 0) (u2 0) (rs 0))), (u1 0, aI G 15 (rl 0)), (u2 0, aI G 16 (rd 0)), (u 1, ob 0 (cR (u1 1) (u2 1) (rs 1))), (u1 1, aI G 15 (rl 1)), (u2 1, aI G 16 (rd 1)), (u 2, ob 0 (cR (u1 2) (u2 2) (rs 2))), (u1 2, aI G 15 (rl 2)), (u2 2, aI G 16 (rd 2)), (u 3, ob 0 (cR (u1 3) (u2 3) (rs 3))), (u1 3, aI G 15 (rl 3)), (u2 3, aI G 16 (rd 3)), (u 4, ob 0 (cR (u1 4) (u2 4) (rs 4))), (u1 4, aI G 15 (rl 4)), (u2 4, aI G 16 (rd 4)), (u 5, ob 0 (cR (u1 5) (u2 5) (rs 5))), (u1 5, aI G 15 (rl 5)), (u2 5, aI G 16 (rd 5)), (p, ob 0 (cR q1 q2 ns)), (q1, aI G 15 lk), (q2, aI G 16 ld)] (fun r w => r = none ∧ ∃ lk3 ld3 : Nat → Int32, (∀ i, i < 15 → lk3 i = lk i) ∧ (∀ i, i < 16 → ld3 i = ld i) ∧ w = [(v, ob 1 (vF v1 (nx + 1 - (nx + 1) / 6 * 6) (rMin (sz + 1) 6))), (v1, aQ G 6 (fun k => some (u k))), (u 0, ob 0 (cR (u1 0) (u2 0) ((va_up rs j ns) 0))), (u1 0, aI G 15 ((va_up rl j lk3) 0)), (u2 0, aI G 16 ((va_up rd j ld3) 0)), (u 1, ob 0 (cR (u1 1) (u2 1) ((va_up rs j ns) 1))), (u1 1, aI G 15 ((va_up rl j lk3) 1)), (u2 1, aI G 16 ((va_up rd j ld3) 1)), (u 2, ob 0 (cR (u1 2) (u2 2) ((va_up rs j ns) 2))), (u1 2, aI G 15 ((va_up rl j lk3) 2)), (u2 2, aI G 16 ((va_up rd j ld3) 2)), (u 3, ob 0 (cR (u1 3) (u2 3) ((va_up rs j ns) 3))), (u1 3, aI G 15 ((va_up rl j lk3) 3)), (u2 3, aI G 16 ((va_up rd j ld3) 3)), (u 4, ob 0 (cR (u1 4) (u2 4) ((va_up rs j ns) 4))), (u1 4, aI G 15 ((va_up rl j lk3) 4)), (u2 4, aI G 16 ((va_up rd j ld3) 4)), (u 5, ob 0 (cR (u1 5) (u2 5) ((va_up rs j ns) 5))), (u1 5, aI G 15 ((va_up rl j lk3) 5)), (u2 5, aI G 16 ((va_up rd j ld3) 5)), (p, ob 0 (cR q1 q2 ns)), (q1, aI G 15 lk), (q2, aI G 16 ld)]) := by
  refine Con.mk (by decide +kernel) (Nat.le_of_ble_eq_true rfl) (fun P C Rr => ?_)
  have hj6 : j = 0 ∨ j = 1 ∨ j = 2 ∨ j = 3 ∨ j = 4 ∨ j = 5 := by omega
  rcases hj6 with rfl | rfl | rfl | rfl | rfl | rfl
  · refine st_aload_n C (dk DX2_push_0 0 rfl) rfl ?_
    refine st_aload_n C (dk DX2_push_0 1 rfl) rfl ?_
    refine st_get C fl_RX2_18 (dk DX2_push_0 2 rfl) 0 rfl rfl ?_
    refine st_cV C (k_X2_slotAt l G (f := fun k => some (u k)) hx (by decide : 0 < 6) rfl) mf_X2_slotAt mi_X2_slotAt ml_RX2_22 (dk DX2_push_0 3 rfl) [0, 1] rfl rfl rfl rfl (Nat.le_of_ble_eq_true rfl) rfl rfl ⟨Nat.le_of_ble_eq_true rfl, Nat.le_of_ble_eq_true rfl⟩ ⟨Nat.zero_le _, Nat.zero_le _⟩ (fun r9 w9 hq9 => ?_)
    obtain ⟨rfl, rfl⟩ := hq9
    refine st_astore_n C (dk DX2_push_0 4 rfl) (by decide) rfl ?_
    refine st_aload_n C (dk DX2_push_0 5 rfl) rfl ?_
    refine st_ifnonnull C (tgt := 14) (dk DX2_push_0 6 rfl) (by decide) ?_
    refine st_aload_n C (dk DX2_push_0 8 rfl) rfl ?_
    refine st_aload_n C (dk DX2_push_0 9 rfl) rfl ?_
    refine st_cV C (k_X1_copyFrom l G) mf_X1_copyFrom mi_X1_copyFrom ml_RX2_26 (dk DX2_push_0 10 rfl) [2, 3, 4, 20, 21, 22] rfl rfl rfl rfl (Nat.le_of_ble_eq_true rfl) rfl rfl ⟨Nat.le_of_ble_eq_true rfl, Nat.le_of_ble_eq_true rfl⟩ ⟨Nat.zero_le _, Nat.zero_le _⟩ (fun r9 w9 hq9 => ?_)
    obtain ⟨rfl, lk16, ld16, hlk16, hld16, rfl⟩ := hq9
    refine st_aload_n C (dk DX2_push_0 11 rfl) rfl ?_
    refine st_aload_n C (dk DX2_push_0 12 rfl) rfl ?_
    refine st_get C fl_RX2_18 (dk DX2_push_0 13 rfl) 0 rfl rfl ?_
    refine st_iconst C (v := 1) (dk DX2_push_0 14 rfl) (by decide) ?_
    refine st_iadd C (dk DX2_push_0 15 rfl) ?_
    refine st_bipush C (v := 6) (dk DX2_push_0 16 rfl) (by decide) ?_
    refine st_irem C (dk DX2_push_0 17 rfl) (by decide) ?_
    refine st_put C fl_RX2_18 fc_1 fw_1_1 (dk DX2_push_0 18 rfl) 0 rfl rfl rfl (Nat.le_of_ble_eq_true rfl) ?_
    refine st_aload_n C (dk DX2_push_0 19 rfl) rfl ?_
    refine st_aload_n C (dk DX2_push_0 20 rfl) rfl ?_
    refine st_get C fl_RX2_30 (dk DX2_push_0 21 rfl) 0 rfl rfl ?_
    refine st_iconst C (v := 1) (dk DX2_push_0 22 rfl) (by decide) ?_
    refine st_iadd C (dk DX2_push_0 23 rfl) ?_
    refine st_bipush C (v := 6) (dk DX2_push_0 24 rfl) (by decide) ?_
    refine st_min C (dk DX2_push_0 25 rfl) mk_RX2_33 (Nat.le_of_ble_eq_true rfl) ⟨Nat.le_of_ble_eq_true rfl, Nat.le_of_ble_eq_true rfl⟩ ⟨Nat.zero_le _, Nat.zero_le _⟩ ?_
    refine st_put C fl_RX2_30 fc_1 fw_1_2 (dk DX2_push_0 26 rfl) 0 rfl rfl rfl (Nat.le_of_ble_eq_true rfl) ?_
    exact Rr 0 0 _ _ _ _ _ _ (Nat.zero_le _) (Nat.zero_le _) (dk DX2_push_0 27 rfl) (.inl ⟨rfl, rfl, rfl, rfl⟩) rfl ⟨rfl, ⟨rfl, lk16, ld16, hlk16, hld16, rfl⟩⟩
  · refine st_aload_n C (dk DX2_push_0 0 rfl) rfl ?_
    refine st_aload_n C (dk DX2_push_0 1 rfl) rfl ?_
    refine st_get C fl_RX2_18 (dk DX2_push_0 2 rfl) 0 rfl rfl ?_
    refine st_cV C (k_X2_slotAt l G (f := fun k => some (u k)) hx (by decide : 1 < 6) rfl) mf_X2_slotAt mi_X2_slotAt ml_RX2_22 (dk DX2_push_0 3 rfl) [0, 1] rfl rfl rfl rfl (Nat.le_of_ble_eq_true rfl) rfl rfl ⟨Nat.le_of_ble_eq_true rfl, Nat.le_of_ble_eq_true rfl⟩ ⟨Nat.zero_le _, Nat.zero_le _⟩ (fun r9 w9 hq9 => ?_)
    obtain ⟨rfl, rfl⟩ := hq9
    refine st_astore_n C (dk DX2_push_0 4 rfl) (by decide) rfl ?_
    refine st_aload_n C (dk DX2_push_0 5 rfl) rfl ?_
    refine st_ifnonnull C (tgt := 14) (dk DX2_push_0 6 rfl) (by decide) ?_
    refine st_aload_n C (dk DX2_push_0 8 rfl) rfl ?_
    refine st_aload_n C (dk DX2_push_0 9 rfl) rfl ?_
    refine st_cV C (k_X1_copyFrom l G) mf_X1_copyFrom mi_X1_copyFrom ml_RX2_26 (dk DX2_push_0 10 rfl) [5, 6, 7, 20, 21, 22] rfl rfl rfl rfl (Nat.le_of_ble_eq_true rfl) rfl rfl ⟨Nat.le_of_ble_eq_true rfl, Nat.le_of_ble_eq_true rfl⟩ ⟨Nat.zero_le _, Nat.zero_le _⟩ (fun r9 w9 hq9 => ?_)
    obtain ⟨rfl, lk16, ld16, hlk16, hld16, rfl⟩ := hq9
    refine st_aload_n C (dk DX2_push_0 11 rfl) rfl ?_
    refine st_aload_n C (dk DX2_push_0 12 rfl) rfl ?_
    refine st_get C fl_RX2_18 (dk DX2_push_0 13 rfl) 0 rfl rfl ?_
    refine st_iconst C (v := 1) (dk DX2_push_0 14 rfl) (by decide) ?_
    refine st_iadd C (dk DX2_push_0 15 rfl) ?_
    refine st_bipush C (v := 6) (dk DX2_push_0 16 rfl) (by decide) ?_
    refine st_irem C (dk DX2_push_0 17 rfl) (by decide) ?_
    refine st_put C fl_RX2_18 fc_1 fw_1_1 (dk DX2_push_0 18 rfl) 0 rfl rfl rfl (Nat.le_of_ble_eq_true rfl) ?_
    refine st_aload_n C (dk DX2_push_0 19 rfl) rfl ?_
    refine st_aload_n C (dk DX2_push_0 20 rfl) rfl ?_
    refine st_get C fl_RX2_30 (dk DX2_push_0 21 rfl) 0 rfl rfl ?_
    refine st_iconst C (v := 1) (dk DX2_push_0 22 rfl) (by decide) ?_
    refine st_iadd C (dk DX2_push_0 23 rfl) ?_
    refine st_bipush C (v := 6) (dk DX2_push_0 24 rfl) (by decide) ?_
    refine st_min C (dk DX2_push_0 25 rfl) mk_RX2_33 (Nat.le_of_ble_eq_true rfl) ⟨Nat.le_of_ble_eq_true rfl, Nat.le_of_ble_eq_true rfl⟩ ⟨Nat.zero_le _, Nat.zero_le _⟩ ?_
    refine st_put C fl_RX2_30 fc_1 fw_1_2 (dk DX2_push_0 26 rfl) 0 rfl rfl rfl (Nat.le_of_ble_eq_true rfl) ?_
    exact Rr 0 0 _ _ _ _ _ _ (Nat.zero_le _) (Nat.zero_le _) (dk DX2_push_0 27 rfl) (.inl ⟨rfl, rfl, rfl, rfl⟩) rfl ⟨rfl, ⟨rfl, lk16, ld16, hlk16, hld16, rfl⟩⟩
  · refine st_aload_n C (dk DX2_push_0 0 rfl) rfl ?_
    refine st_aload_n C (dk DX2_push_0 1 rfl) rfl ?_
    refine st_get C fl_RX2_18 (dk DX2_push_0 2 rfl) 0 rfl rfl ?_
    refine st_cV C (k_X2_slotAt l G (f := fun k => some (u k)) hx (by decide : 2 < 6) rfl) mf_X2_slotAt mi_X2_slotAt ml_RX2_22 (dk DX2_push_0 3 rfl) [0, 1] rfl rfl rfl rfl (Nat.le_of_ble_eq_true rfl) rfl rfl ⟨Nat.le_of_ble_eq_true rfl, Nat.le_of_ble_eq_true rfl⟩ ⟨Nat.zero_le _, Nat.zero_le _⟩ (fun r9 w9 hq9 => ?_)
    obtain ⟨rfl, rfl⟩ := hq9
    refine st_astore_n C (dk DX2_push_0 4 rfl) (by decide) rfl ?_
    refine st_aload_n C (dk DX2_push_0 5 rfl) rfl ?_
    refine st_ifnonnull C (tgt := 14) (dk DX2_push_0 6 rfl) (by decide) ?_
    refine st_aload_n C (dk DX2_push_0 8 rfl) rfl ?_
    refine st_aload_n C (dk DX2_push_0 9 rfl) rfl ?_
    refine st_cV C (k_X1_copyFrom l G) mf_X1_copyFrom mi_X1_copyFrom ml_RX2_26 (dk DX2_push_0 10 rfl) [8, 9, 10, 20, 21, 22] rfl rfl rfl rfl (Nat.le_of_ble_eq_true rfl) rfl rfl ⟨Nat.le_of_ble_eq_true rfl, Nat.le_of_ble_eq_true rfl⟩ ⟨Nat.zero_le _, Nat.zero_le _⟩ (fun r9 w9 hq9 => ?_)
    obtain ⟨rfl, lk16, ld16, hlk16, hld16, rfl⟩ := hq9
    refine st_aload_n C (dk DX2_push_0 11 rfl) rfl ?_
    refine st_aload_n C (dk DX2_push_0 12 rfl) rfl ?_
    refine st_get C fl_RX2_18 (dk DX2_push_0 13 rfl) 0 rfl rfl ?_
    refine st_iconst C (v := 1) (dk DX2_push_0 14 rfl) (by decide) ?_
    refine st_iadd C (dk DX2_push_0 15 rfl) ?_
    refine st_bipush C (v := 6) (dk DX2_push_0 16 rfl) (by decide) ?_
    refine st_irem C (dk DX2_push_0 17 rfl) (by decide) ?_
    refine st_put C fl_RX2_18 fc_1 fw_1_1 (dk DX2_push_0 18 rfl) 0 rfl rfl rfl (Nat.le_of_ble_eq_true rfl) ?_
    refine st_aload_n C (dk DX2_push_0 19 rfl) rfl ?_
    refine st_aload_n C (dk DX2_push_0 20 rfl) rfl ?_
    refine st_get C fl_RX2_30 (dk DX2_push_0 21 rfl) 0 rfl rfl ?_
    refine st_iconst C (v := 1) (dk DX2_push_0 22 rfl) (by decide) ?_
    refine st_iadd C (dk DX2_push_0 23 rfl) ?_
    refine st_bipush C (v := 6) (dk DX2_push_0 24 rfl) (by decide) ?_
    refine st_min C (dk DX2_push_0 25 rfl) mk_RX2_33 (Nat.le_of_ble_eq_true rfl) ⟨Nat.le_of_ble_eq_true rfl, Nat.le_of_ble_eq_true rfl⟩ ⟨Nat.zero_le _, Nat.zero_le _⟩ ?_
    refine st_put C fl_RX2_30 fc_1 fw_1_2 (dk DX2_push_0 26 rfl) 0 rfl rfl rfl (Nat.le_of_ble_eq_true rfl) ?_
    exact Rr 0 0 _ _ _ _ _ _ (Nat.zero_le _) (Nat.zero_le _) (dk DX2_push_0 27 rfl) (.inl ⟨rfl, rfl, rfl, rfl⟩) rfl ⟨rfl, ⟨rfl, lk16, ld16, hlk16, hld16, rfl⟩⟩
  · refine st_aload_n C (dk DX2_push_0 0 rfl) rfl ?_
    refine st_aload_n C (dk DX2_push_0 1 rfl) rfl ?_
    refine st_get C fl_RX2_18 (dk DX2_push_0 2 rfl) 0 rfl rfl ?_
    refine st_cV C (k_X2_slotAt l G (f := fun k => some (u k)) hx (by decide : 3 < 6) rfl) mf_X2_slotAt mi_X2_slotAt ml_RX2_22 (dk DX2_push_0 3 rfl) [0, 1] rfl rfl rfl rfl (Nat.le_of_ble_eq_true rfl) rfl rfl ⟨Nat.le_of_ble_eq_true rfl, Nat.le_of_ble_eq_true rfl⟩ ⟨Nat.zero_le _, Nat.zero_le _⟩ (fun r9 w9 hq9 => ?_)
    obtain ⟨rfl, rfl⟩ := hq9
    refine st_astore_n C (dk DX2_push_0 4 rfl) (by decide) rfl ?_
    refine st_aload_n C (dk DX2_push_0 5 rfl) rfl ?_
    refine st_ifnonnull C (tgt := 14) (dk DX2_push_0 6 rfl) (by decide) ?_
    refine st_aload_n C (dk DX2_push_0 8 rfl) rfl ?_
    refine st_aload_n C (dk DX2_push_0 9 rfl) rfl ?_
    refine st_cV C (k_X1_copyFrom l G) mf_X1_copyFrom mi_X1_copyFrom ml_RX2_26 (dk DX2_push_0 10 rfl) [11, 12, 13, 20, 21, 22] rfl rfl rfl rfl (Nat.le_of_ble_eq_true rfl) rfl rfl ⟨Nat.le_of_ble_eq_true rfl, Nat.le_of_ble_eq_true rfl⟩ ⟨Nat.zero_le _, Nat.zero_le _⟩ (fun r9 w9 hq9 => ?_)
    obtain ⟨rfl, lk16, ld16, hlk16, hld16, rfl⟩ := hq9
    refine st_aload_n C (dk DX2_push_0 11 rfl) rfl ?_
    refine st_aload_n C (dk DX2_push_0 12 rfl) rfl ?_
    refine st_get C fl_RX2_18 (dk DX2_push_0 13 rfl) 0 rfl rfl ?_
    refine st_iconst C (v := 1) (dk DX2_push_0 14 rfl) (by decide) ?_
    refine st_iadd C (dk DX2_push_0 15 rfl) ?_
    refine st_bipush C (v := 6) (dk DX2_push_0 16 rfl) (by decide) ?_
    refine st_irem C (dk DX2_push_0 17 rfl) (by decide) ?_
    refine st_put C fl_RX2_18 fc_1 fw_1_1 (dk DX2_push_0 18 rfl) 0 rfl rfl rfl (Nat.le_of_ble_eq_true rfl) ?_
    refine st_aload_n C (dk DX2_push_0 19 rfl) rfl ?_
    refine st_aload_n C (dk DX2_push_0 20 rfl) rfl ?_
    refine st_get C fl_RX2_30 (dk DX2_push_0 21 rfl) 0 rfl rfl ?_
    refine st_iconst C (v := 1) (dk DX2_push_0 22 rfl) (by decide) ?_
    refine st_iadd C (dk DX2_push_0 23 rfl) ?_
    refine st_bipush C (v := 6) (dk DX2_push_0 24 rfl) (by decide) ?_
    refine st_min C (dk DX2_push_0 25 rfl) mk_RX2_33 (Nat.le_of_ble_eq_true rfl) ⟨Nat.le_of_ble_eq_true rfl, Nat.le_of_ble_eq_true rfl⟩ ⟨Nat.zero_le _, Nat.zero_le _⟩ ?_
    refine st_put C fl_RX2_30 fc_1 fw_1_2 (dk DX2_push_0 26 rfl) 0 rfl rfl rfl (Nat.le_of_ble_eq_true rfl) ?_
    exact Rr 0 0 _ _ _ _ _ _ (Nat.zero_le _) (Nat.zero_le _) (dk DX2_push_0 27 rfl) (.inl ⟨rfl, rfl, rfl, rfl⟩) rfl ⟨rfl, ⟨rfl, lk16, ld16, hlk16, hld16, rfl⟩⟩
  · refine st_aload_n C (dk DX2_push_0 0 rfl) rfl ?_
    refine st_aload_n C (dk DX2_push_0 1 rfl) rfl ?_
    refine st_get C fl_RX2_18 (dk DX2_push_0 2 rfl) 0 rfl rfl ?_
    refine st_cV C (k_X2_slotAt l G (f := fun k => some (u k)) hx (by decide : 4 < 6) rfl) mf_X2_slotAt mi_X2_slotAt ml_RX2_22 (dk DX2_push_0 3 rfl) [0, 1] rfl rfl rfl rfl (Nat.le_of_ble_eq_true rfl) rfl rfl ⟨Nat.le_of_ble_eq_true rfl, Nat.le_of_ble_eq_true rfl⟩ ⟨Nat.zero_le _, Nat.zero_le _⟩ (fun r9 w9 hq9 => ?_)
    obtain ⟨rfl, rfl⟩ := hq9
    refine st_astore_n C (dk DX2_push_0 4 rfl) (by decide) rfl ?_
    refine st_aload_n C (dk DX2_push_0 5 rfl) rfl ?_
    refine st_ifnonnull C (tgt := 14) (dk DX2_push_0 6 rfl) (by decide) ?_
    refine st_aload_n C (dk DX2_push_0 8 rfl) rfl ?_
    refine st_aload_n C (dk DX2_push_0 9 rfl) rfl ?_
    refine st_cV C (k_X1_copyFrom l G) mf_X1_copyFrom mi_X1_copyFrom ml_RX2_26 (dk DX2_push_0 10 rfl) [14, 15, 16, 20, 21, 22] rfl rfl rfl rfl (Nat.le_of_ble_eq_true rfl) rfl rfl ⟨Nat.le_of_ble_eq_true rfl, Nat.le_of_ble_eq_true rfl⟩ ⟨Nat.zero_le _, Nat.zero_le _⟩ (fun r9 w9 hq9 => ?_)
    obtain ⟨rfl, lk16, ld16, hlk16, hld16, rfl⟩ := hq9
    refine st_aload_n C (dk DX2_push_0 11 rfl) rfl ?_
    refine st_aload_n C (dk DX2_push_0 12 rfl) rfl ?_
    refine st_get C fl_RX2_18 (dk DX2_push_0 13 rfl) 0 rfl rfl ?_
    refine st_iconst C (v := 1) (dk DX2_push_0 14 rfl) (by decide) ?_
    refine st_iadd C (dk DX2_push_0 15 rfl) ?_
    refine st_bipush C (v := 6) (dk DX2_push_0 16 rfl) (by decide) ?_
    refine st_irem C (dk DX2_push_0 17 rfl) (by decide) ?_
    refine st_put C fl_RX2_18 fc_1 fw_1_1 (dk DX2_push_0 18 rfl) 0 rfl rfl rfl (Nat.le_of_ble_eq_true rfl) ?_
    refine st_aload_n C (dk DX2_push_0 19 rfl) rfl ?_
    refine st_aload_n C (dk DX2_push_0 20 rfl) rfl ?_
    refine st_get C fl_RX2_30 (dk DX2_push_0 21 rfl) 0 rfl rfl ?_
    refine st_iconst C (v := 1) (dk DX2_push_0 22 rfl) (by decide) ?_
    refine st_iadd C (dk DX2_push_0 23 rfl) ?_
    refine st_bipush C (v := 6) (dk DX2_push_0 24 rfl) (by decide) ?_
    refine st_min C (dk DX2_push_0 25 rfl) mk_RX2_33 (Nat.le_of_ble_eq_true rfl) ⟨Nat.le_of_ble_eq_true rfl, Nat.le_of_ble_eq_true rfl⟩ ⟨Nat.zero_le _, Nat.zero_le _⟩ ?_
    refine st_put C fl_RX2_30 fc_1 fw_1_2 (dk DX2_push_0 26 rfl) 0 rfl rfl rfl (Nat.le_of_ble_eq_true rfl) ?_
    exact Rr 0 0 _ _ _ _ _ _ (Nat.zero_le _) (Nat.zero_le _) (dk DX2_push_0 27 rfl) (.inl ⟨rfl, rfl, rfl, rfl⟩) rfl ⟨rfl, ⟨rfl, lk16, ld16, hlk16, hld16, rfl⟩⟩
  · refine st_aload_n C (dk DX2_push_0 0 rfl) rfl ?_
    refine st_aload_n C (dk DX2_push_0 1 rfl) rfl ?_
    refine st_get C fl_RX2_18 (dk DX2_push_0 2 rfl) 0 rfl rfl ?_
    refine st_cV C (k_X2_slotAt l G (f := fun k => some (u k)) hx (by decide : 5 < 6) rfl) mf_X2_slotAt mi_X2_slotAt ml_RX2_22 (dk DX2_push_0 3 rfl) [0, 1] rfl rfl rfl rfl (Nat.le_of_ble_eq_true rfl) rfl rfl ⟨Nat.le_of_ble_eq_true rfl, Nat.le_of_ble_eq_true rfl⟩ ⟨Nat.zero_le _, Nat.zero_le _⟩ (fun r9 w9 hq9 => ?_)
    obtain ⟨rfl, rfl⟩ := hq9
    refine st_astore_n C (dk DX2_push_0 4 rfl) (by decide) rfl ?_
    refine st_aload_n C (dk DX2_push_0 5 rfl) rfl ?_
    refine st_ifnonnull C (tgt := 14) (dk DX2_push_0 6 rfl) (by decide) ?_
    refine st_aload_n C (dk DX2_push_0 8 rfl) rfl ?_
    refine st_aload_n C (dk DX2_push_0 9 rfl) rfl ?_
    refine st_cV C (k_X1_copyFrom l G) mf_X1_copyFrom mi_X1_copyFrom ml_RX2_26 (dk DX2_push_0 10 rfl) [17, 18, 19, 20, 21, 22] rfl rfl rfl rfl (Nat.le_of_ble_eq_true rfl) rfl rfl ⟨Nat.le_of_ble_eq_true rfl, Nat.le_of_ble_eq_true rfl⟩ ⟨Nat.zero_le _, Nat.zero_le _⟩ (fun r9 w9 hq9 => ?_)
    obtain ⟨rfl, lk16, ld16, hlk16, hld16, rfl⟩ := hq9
    refine st_aload_n C (dk DX2_push_0 11 rfl) rfl ?_
    refine st_aload_n C (dk DX2_push_0 12 rfl) rfl ?_
    refine st_get C fl_RX2_18 (dk DX2_push_0 13 rfl) 0 rfl rfl ?_
    refine st_iconst C (v := 1) (dk DX2_push_0 14 rfl) (by decide) ?_
    refine st_iadd C (dk DX2_push_0 15 rfl) ?_
    refine st_bipush C (v := 6) (dk DX2_push_0 16 rfl) (by decide) ?_
    refine st_irem C (dk DX2_push_0 17 rfl) (by decide) ?_
    refine st_put C fl_RX2_18 fc_1 fw_1_1 (dk DX2_push_0 18 rfl) 0 rfl rfl rfl (Nat.le_of_ble_eq_true rfl) ?_
    refine st_aload_n C (dk DX2_push_0 19 rfl) rfl ?_
    refine st_aload_n C (dk DX2_push_0 20 rfl) rfl ?_
    refine st_get C fl_RX2_30 (dk DX2_push_0 21 rfl) 0 rfl rfl ?_
    refine st_iconst C (v := 1) (dk DX2_push_0 22 rfl) (by decide) ?_
    refine st_iadd C (dk DX2_push_0 23 rfl) ?_
    refine st_bipush C (v := 6) (dk DX2_push_0 24 rfl) (by decide) ?_
    refine st_min C (dk DX2_push_0 25 rfl) mk_RX2_33 (Nat.le_of_ble_eq_true rfl) ⟨Nat.le_of_ble_eq_true rfl, Nat.le_of_ble_eq_true rfl⟩ ⟨Nat.zero_le _, Nat.zero_le _⟩ ?_
    refine st_put C fl_RX2_30 fc_1 fw_1_2 (dk DX2_push_0 26 rfl) 0 rfl rfl rfl (Nat.le_of_ble_eq_true rfl) ?_
    exact Rr 0 0 _ _ _ _ _ _ (Nat.zero_le _) (Nat.zero_le _) (dk DX2_push_0 27 rfl) (.inl ⟨rfl, rfl, rfl, rfl⟩) rfl ⟨rfl, ⟨rfl, lk16, ld16, hlk16, hld16, rfl⟩⟩
set_option maxHeartbeats 4000000 in
set_option maxRecDepth 100000 in
theorem k_X2_popInto (l : Launch) (G : wG) {v v1 : Nat} {nx sz : Int32} {u u1 u2 : Nat → Nat} {rs : Nat → Nat → Int32} {rl rd : Nat → Nat → Int32} {p q1 q2 : Nat} {ns lk ld : Nat → Int32} {j : Nat} (hx : nx + 6 - 1 - (nx + 6 - 1) / 6 * 6 = nI j) (hj : j < 6) (hs0 : ¬ sz = 0) : Con0 l G yX2_popInto cX2_popInto 4 none 1 [.ref v, .ref p] [(v, ob 1 (vF v1 nx sz)), (v1, aQ G 6 (fun k => some (u k))), (u 0, ob 0 (cR (u1 0) (u2 0) (rs 0))), (u1 0, aI G 15 (rl 0)), (u2 0, aI G 16 (rd 0)), (u 1, ob 0 (cR (u1 1) (u2 1) (rs 1))), (u1 1, aI G 15 (rl 1)), (u2 1, aI G 16 (rd 1)), (u 2, ob 0 (cR (u1 2) (u2 2) (rs 2))), (u1 2, aI G 15 (rl 2)), (u2 2, aI G 16 (rd 2)), (u 3, ob 0 (cR (u1 3) (u2 3) (rs 3))), (u1 3, aI G 15 (rl 3)), (u2 3, aI G 16 (rd 3)), (u 4, ob 0 (cR (u1 4) (u2 4) (rs 4))), (u1 4, aI G 15 (rl 4)), (u2 4, aI G 16 (rd 4)), (u 5, ob 0 (cR (u1 5) (u2 5) (rs 5))), (u1 5, aI G 15 (rl 5)), (u2 5, aI G 16 (rd 5)), (p, ob 0 (cR q1 q2 ns)), (q1, aI G 15 lk), (q2, aI G 16 ld)] (fun r w => r = none ∧ ∃ lk3 ld3 : Nat → Int32, (∀ i, i < 15 → lk3 i = rl j i) ∧ (∀ i, i < 16 → ld3 i = rd j i) ∧ w = [(v, ob 1 (vF v1 (nx + 6 - 1 - (nx + 6 - 1) / 6 * 6) (sz - 1))), (v1, aQ G 6 (fun k => some (u k))), (u 0, ob 0 (cR (u1 0) (u2 0) (rs 0))), (u1 0, aI G 15 (rl 0)), (u2 0, aI G 16 (rd 0)), (u 1, ob 0 (cR (u1 1) (u2 1) (rs 1))), (u1 1, aI G 15 (rl 1)), (u2 1, aI G 16 (rd 1)), (u 2, ob 0 (cR (u1 2) (u2 2) (rs 2))), (u1 2, aI G 15 (rl 2)), (u2 2, aI G 16 (rd 2)), (u 3, ob 0 (cR (u1 3) (u2 3) (rs 3))), (u1 3, aI G 15 (rl 3)), (u2 3, aI G 16 (rd 3)), (u 4, ob 0 (cR (u1 4) (u2 4) (rs 4))), (u1 4, aI G 15 (rl 4)), (u2 4, aI G 16 (rd 4)), (u 5, ob 0 (cR (u1 5) (u2 5) (rs 5))), (u1 5, aI G 15 (rl 5)), (u2 5, aI G 16 (rd 5)), (p, ob 0 (cR q1 q2 (rs j))), (q1, aI G 15 lk3), (q2, aI G 16 ld3)]) := by
  refine Con.mk (by decide +kernel) (Nat.le_of_ble_eq_true rfl) (fun P C Rr => ?_)
  have hj6 : j = 0 ∨ j = 1 ∨ j = 2 ∨ j = 3 ∨ j = 4 ∨ j = 5 := by omega
  rcases hj6 with rfl | rfl | rfl | rfl | rfl | rfl
  · refine st_aload_n C (dk DX2_popInto_0 0 rfl) rfl ?_
    refine st_get C fl_RX2_18 (dk DX2_popInto_0 1 rfl) 0 rfl rfl ?_
    refine st_bipush C (v := 6) (dk DX2_popInto_0 2 rfl) (by decide) ?_
    refine st_iadd C (dk DX2_popInto_0 3 rfl) ?_
    refine st_iconst C (v := 1) (dk DX2_popInto_0 4 rfl) (by decide) ?_
    refine st_isub C (dk DX2_popInto_0 5 rfl) ?_
    refine st_bipush C (v := 6) (dk DX2_popInto_0 6 rfl) (by decide) ?_
    refine st_irem C (dk DX2_popInto_0 7 rfl) (by decide) ?_
    refine st_istore_n C (dk DX2_popInto_0 8 rfl) (by decide) rfl ?_
    refine st_aload_n C (dk DX2_popInto_0 9 rfl) rfl ?_
    refine st_iload_n C (dk DX2_popInto_0 10 rfl) rfl ?_
    refine st_cV C (k_X2_slotAt l G (f := fun k => some (u k)) hx (by decide : 0 < 6) rfl) mf_X2_slotAt mi_X2_slotAt ml_RX2_22 (dk DX2_popInto_0 11 rfl) [0, 1] rfl rfl rfl rfl (Nat.le_of_ble_eq_true rfl) rfl rfl ⟨Nat.le_of_ble_eq_true rfl, Nat.le_of_ble_eq_true rfl⟩ ⟨Nat.zero_le _, Nat.zero_le _⟩ (fun r9 w9 hq9 => ?_)
    obtain ⟨rfl, rfl⟩ := hq9
    refine st_astore_n C (dk DX2_popInto_0 12 rfl) (by decide) rfl ?_
    refine st_aload_n C (dk DX2_popInto_0 13 rfl) rfl ?_
    refine st_ifnull C (dk DX2_popInto_0 14 rfl) ?_
    refine st_aload_n C (dk DX2_popInto_0 15 rfl) rfl ?_
    refine st_get C fl_RX2_30 (dk DX2_popInto_0 16 rfl) 0 rfl rfl ?_
    refine st_if_ne C (tgt := 31) (dk DX2_popInto_0 17 rfl) (by decide) (fun c_27 => ?_) (fun c_27 => ?_)
    · refine st_aload_n C (dk DX2_popInto_0 19 rfl) rfl ?_
      refine st_aload_n C (dk DX2_popInto_0 20 rfl) rfl ?_
      refine st_cV C (k_X1_copyFrom l G) mf_X1_copyFrom mi_X1_copyFrom ml_RX2_26 (dk DX2_popInto_0 21 rfl) [20, 21, 22, 2, 3, 4] rfl rfl rfl rfl (Nat.le_of_ble_eq_true rfl) rfl rfl ⟨Nat.le_of_ble_eq_true rfl, Nat.le_of_ble_eq_true rfl⟩ ⟨Nat.zero_le _, Nat.zero_le _⟩ (fun r9 w9 hq9 => ?_)
      obtain ⟨rfl, lk33, ld33, hlk33, hld33, rfl⟩ := hq9
      refine st_aload_n C (dk DX2_popInto_0 22 rfl) rfl ?_
      refine st_iload_n C (dk DX2_popInto_0 23 rfl) rfl ?_
      refine st_put C fl_RX2_18 fc_1 fw_1_1 (dk DX2_popInto_0 24 rfl) 0 rfl rfl rfl (Nat.le_of_ble_eq_true rfl) ?_
      refine st_aload_n C (dk DX2_popInto_0 25 rfl) rfl ?_
      refine st_dup C (dk DX2_popInto_0 26 rfl) rfl ?_
      refine st_get C fl_RX2_30 (dk DX2_popInto_0 27 rfl) 0 rfl rfl ?_
      refine st_iconst C (v := 1) (dk DX2_popInto_0 28 rfl) (by decide) ?_
      refine st_isub C (dk DX2_popInto_0 29 rfl) ?_
      refine st_put C fl_RX2_30 fc_1 fw_1_2 (dk DX2_popInto_0 30 rfl) 0 rfl rfl rfl (Nat.le_of_ble_eq_true rfl) ?_
      exact Rr 0 0 _ _ _ _ _ _ (Nat.zero_le _) (Nat.zero_le _) (dk DX2_popInto_0 31 rfl) (.inl ⟨rfl, rfl, rfl, rfl⟩) rfl ⟨rfl, ⟨rfl, lk33, ld33, hlk33, hld33, rfl⟩⟩
    · exact absurd c_27 hs0
  · refine st_aload_n C (dk DX2_popInto_0 0 rfl) rfl ?_
    refine st_get C fl_RX2_18 (dk DX2_popInto_0 1 rfl) 0 rfl rfl ?_
    refine st_bipush C (v := 6) (dk DX2_popInto_0 2 rfl) (by decide) ?_
    refine st_iadd C (dk DX2_popInto_0 3 rfl) ?_
    refine st_iconst C (v := 1) (dk DX2_popInto_0 4 rfl) (by decide) ?_
    refine st_isub C (dk DX2_popInto_0 5 rfl) ?_
    refine st_bipush C (v := 6) (dk DX2_popInto_0 6 rfl) (by decide) ?_
    refine st_irem C (dk DX2_popInto_0 7 rfl) (by decide) ?_
    refine st_istore_n C (dk DX2_popInto_0 8 rfl) (by decide) rfl ?_
    refine st_aload_n C (dk DX2_popInto_0 9 rfl) rfl ?_
    refine st_iload_n C (dk DX2_popInto_0 10 rfl) rfl ?_
    refine st_cV C (k_X2_slotAt l G (f := fun k => some (u k)) hx (by decide : 1 < 6) rfl) mf_X2_slotAt mi_X2_slotAt ml_RX2_22 (dk DX2_popInto_0 11 rfl) [0, 1] rfl rfl rfl rfl (Nat.le_of_ble_eq_true rfl) rfl rfl ⟨Nat.le_of_ble_eq_true rfl, Nat.le_of_ble_eq_true rfl⟩ ⟨Nat.zero_le _, Nat.zero_le _⟩ (fun r9 w9 hq9 => ?_)
    obtain ⟨rfl, rfl⟩ := hq9
    refine st_astore_n C (dk DX2_popInto_0 12 rfl) (by decide) rfl ?_
    refine st_aload_n C (dk DX2_popInto_0 13 rfl) rfl ?_
    refine st_ifnull C (dk DX2_popInto_0 14 rfl) ?_
    refine st_aload_n C (dk DX2_popInto_0 15 rfl) rfl ?_
    refine st_get C fl_RX2_30 (dk DX2_popInto_0 16 rfl) 0 rfl rfl ?_
    refine st_if_ne C (tgt := 31) (dk DX2_popInto_0 17 rfl) (by decide) (fun c_27 => ?_) (fun c_27 => ?_)
    · refine st_aload_n C (dk DX2_popInto_0 19 rfl) rfl ?_
      refine st_aload_n C (dk DX2_popInto_0 20 rfl) rfl ?_
      refine st_cV C (k_X1_copyFrom l G) mf_X1_copyFrom mi_X1_copyFrom ml_RX2_26 (dk DX2_popInto_0 21 rfl) [20, 21, 22, 5, 6, 7] rfl rfl rfl rfl (Nat.le_of_ble_eq_true rfl) rfl rfl ⟨Nat.le_of_ble_eq_true rfl, Nat.le_of_ble_eq_true rfl⟩ ⟨Nat.zero_le _, Nat.zero_le _⟩ (fun r9 w9 hq9 => ?_)
      obtain ⟨rfl, lk33, ld33, hlk33, hld33, rfl⟩ := hq9
      refine st_aload_n C (dk DX2_popInto_0 22 rfl) rfl ?_
      refine st_iload_n C (dk DX2_popInto_0 23 rfl) rfl ?_
      refine st_put C fl_RX2_18 fc_1 fw_1_1 (dk DX2_popInto_0 24 rfl) 0 rfl rfl rfl (Nat.le_of_ble_eq_true rfl) ?_
      refine st_aload_n C (dk DX2_popInto_0 25 rfl) rfl ?_
      refine st_dup C (dk DX2_popInto_0 26 rfl) rfl ?_
      refine st_get C fl_RX2_30 (dk DX2_popInto_0 27 rfl) 0 rfl rfl ?_
      refine st_iconst C (v := 1) (dk DX2_popInto_0 28 rfl) (by decide) ?_
      refine st_isub C (dk DX2_popInto_0 29 rfl) ?_
      refine st_put C fl_RX2_30 fc_1 fw_1_2 (dk DX2_popInto_0 30 rfl) 0 rfl rfl rfl (Nat.le_of_ble_eq_true rfl) ?_
      exact Rr 0 0 _ _ _ _ _ _ (Nat.zero_le _) (Nat.zero_le _) (dk DX2_popInto_0 31 rfl) (.inl ⟨rfl, rfl, rfl, rfl⟩) rfl ⟨rfl, ⟨rfl, lk33, ld33, hlk33, hld33, rfl⟩⟩
    · exact absurd c_27 hs0
  · refine st_aload_n C (dk DX2_popInto_0 0 rfl) rfl ?_
    refine st_get C fl_RX2_18 (dk DX2_popInto_0 1 rfl) 0 rfl rfl ?_
    refine st_bipush C (v := 6) (dk DX2_popInto_0 2 rfl) (by decide) ?_
    refine st_iadd C (dk DX2_popInto_0 3 rfl) ?_
    refine st_iconst C (v := 1) (dk DX2_popInto_0 4 rfl) (by decide) ?_
    refine st_isub C (dk DX2_popInto_0 5 rfl) ?_
    refine st_bipush C (v := 6) (dk DX2_popInto_0 6 rfl) (by decide) ?_
    refine st_irem C (dk DX2_popInto_0 7 rfl) (by decide) ?_
    refine st_istore_n C (dk DX2_popInto_0 8 rfl) (by decide) rfl ?_
    refine st_aload_n C (dk DX2_popInto_0 9 rfl) rfl ?_
    refine st_iload_n C (dk DX2_popInto_0 10 rfl) rfl ?_
    refine st_cV C (k_X2_slotAt l G (f := fun k => some (u k)) hx (by decide : 2 < 6) rfl) mf_X2_slotAt mi_X2_slotAt ml_RX2_22 (dk DX2_popInto_0 11 rfl) [0, 1] rfl rfl rfl rfl (Nat.le_of_ble_eq_true rfl) rfl rfl ⟨Nat.le_of_ble_eq_true rfl, Nat.le_of_ble_eq_true rfl⟩ ⟨Nat.zero_le _, Nat.zero_le _⟩ (fun r9 w9 hq9 => ?_)
    obtain ⟨rfl, rfl⟩ := hq9
    refine st_astore_n C (dk DX2_popInto_0 12 rfl) (by decide) rfl ?_
    refine st_aload_n C (dk DX2_popInto_0 13 rfl) rfl ?_
    refine st_ifnull C (dk DX2_popInto_0 14 rfl) ?_
    refine st_aload_n C (dk DX2_popInto_0 15 rfl) rfl ?_
    refine st_get C fl_RX2_30 (dk DX2_popInto_0 16 rfl) 0 rfl rfl ?_
    refine st_if_ne C (tgt := 31) (dk DX2_popInto_0 17 rfl) (by decide) (fun c_27 => ?_) (fun c_27 => ?_)
    · refine st_aload_n C (dk DX2_popInto_0 19 rfl) rfl ?_
      refine st_aload_n C (dk DX2_popInto_0 20 rfl) rfl ?_
      refine st_cV C (k_X1_copyFrom l G) mf_X1_copyFrom mi_X1_copyFrom ml_RX2_26 (dk DX2_popInto_0 21 rfl) [20, 21, 22, 8, 9, 10] rfl rfl rfl rfl (Nat.le_of_ble_eq_true rfl) rfl rfl ⟨Nat.le_of_ble_eq_true rfl, Nat.le_of_ble_eq_true rfl⟩ ⟨Nat.zero_le _, Nat.zero_le _⟩ (fun r9 w9 hq9 => ?_)
      obtain ⟨rfl, lk33, ld33, hlk33, hld33, rfl⟩ := hq9
      refine st_aload_n C (dk DX2_popInto_0 22 rfl) rfl ?_
      refine st_iload_n C (dk DX2_popInto_0 23 rfl) rfl ?_
      refine st_put C fl_RX2_18 fc_1 fw_1_1 (dk DX2_popInto_0 24 rfl) 0 rfl rfl rfl (Nat.le_of_ble_eq_true rfl) ?_
      refine st_aload_n C (dk DX2_popInto_0 25 rfl) rfl ?_
      refine st_dup C (dk DX2_popInto_0 26 rfl) rfl ?_
      refine st_get C fl_RX2_30 (dk DX2_popInto_0 27 rfl) 0 rfl rfl ?_
      refine st_iconst C (v := 1) (dk DX2_popInto_0 28 rfl) (by decide) ?_
      refine st_isub C (dk DX2_popInto_0 29 rfl) ?_
      refine st_put C fl_RX2_30 fc_1 fw_1_2 (dk DX2_popInto_0 30 rfl) 0 rfl rfl rfl (Nat.le_of_ble_eq_true rfl) ?_
      exact Rr 0 0 _ _ _ _ _ _ (Nat.zero_le _) (Nat.zero_le _) (dk DX2_popInto_0 31 rfl) (.inl ⟨rfl, rfl, rfl, rfl⟩) rfl ⟨rfl, ⟨rfl, lk33, ld33, hlk33, hld33, rfl⟩⟩
    · exact absurd c_27 hs0
  · refine st_aload_n C (dk DX2_popInto_0 0 rfl) rfl ?_
    refine st_get C fl_RX2_18 (dk DX2_popInto_0 1 rfl) 0 rfl rfl ?_
    refine st_bipush C (v := 6) (dk DX2_popInto_0 2 rfl) (by decide) ?_
    refine st_iadd C (dk DX2_popInto_0 3 rfl) ?_
    refine st_iconst C (v := 1) (dk DX2_popInto_0 4 rfl) (by decide) ?_
    refine st_isub C (dk DX2_popInto_0 5 rfl) ?_
    refine st_bipush C (v := 6) (dk DX2_popInto_0 6 rfl) (by decide) ?_
    refine st_irem C (dk DX2_popInto_0 7 rfl) (by decide) ?_
    refine st_istore_n C (dk DX2_popInto_0 8 rfl) (by decide) rfl ?_
    refine st_aload_n C (dk DX2_popInto_0 9 rfl) rfl ?_
    refine st_iload_n C (dk DX2_popInto_0 10 rfl) rfl ?_
    refine st_cV C (k_X2_slotAt l G (f := fun k => some (u k)) hx (by decide : 3 < 6) rfl) mf_X2_slotAt mi_X2_slotAt ml_RX2_22 (dk DX2_popInto_0 11 rfl) [0, 1] rfl rfl rfl rfl (Nat.le_of_ble_eq_true rfl) rfl rfl ⟨Nat.le_of_ble_eq_true rfl, Nat.le_of_ble_eq_true rfl⟩ ⟨Nat.zero_le _, Nat.zero_le _⟩ (fun r9 w9 hq9 => ?_)
    obtain ⟨rfl, rfl⟩ := hq9
    refine st_astore_n C (dk DX2_popInto_0 12 rfl) (by decide) rfl ?_
    refine st_aload_n C (dk DX2_popInto_0 13 rfl) rfl ?_
    refine st_ifnull C (dk DX2_popInto_0 14 rfl) ?_
    refine st_aload_n C (dk DX2_popInto_0 15 rfl) rfl ?_
    refine st_get C fl_RX2_30 (dk DX2_popInto_0 16 rfl) 0 rfl rfl ?_
    refine st_if_ne C (tgt := 31) (dk DX2_popInto_0 17 rfl) (by decide) (fun c_27 => ?_) (fun c_27 => ?_)
    · refine st_aload_n C (dk DX2_popInto_0 19 rfl) rfl ?_
      refine st_aload_n C (dk DX2_popInto_0 20 rfl) rfl ?_
      refine st_cV C (k_X1_copyFrom l G) mf_X1_copyFrom mi_X1_copyFrom ml_RX2_26 (dk DX2_popInto_0 21 rfl) [20, 21, 22, 11, 12, 13] rfl rfl rfl rfl (Nat.le_of_ble_eq_true rfl) rfl rfl ⟨Nat.le_of_ble_eq_true rfl, Nat.le_of_ble_eq_true rfl⟩ ⟨Nat.zero_le _, Nat.zero_le _⟩ (fun r9 w9 hq9 => ?_)
      obtain ⟨rfl, lk33, ld33, hlk33, hld33, rfl⟩ := hq9
      refine st_aload_n C (dk DX2_popInto_0 22 rfl) rfl ?_
      refine st_iload_n C (dk DX2_popInto_0 23 rfl) rfl ?_
      refine st_put C fl_RX2_18 fc_1 fw_1_1 (dk DX2_popInto_0 24 rfl) 0 rfl rfl rfl (Nat.le_of_ble_eq_true rfl) ?_
      refine st_aload_n C (dk DX2_popInto_0 25 rfl) rfl ?_
      refine st_dup C (dk DX2_popInto_0 26 rfl) rfl ?_
      refine st_get C fl_RX2_30 (dk DX2_popInto_0 27 rfl) 0 rfl rfl ?_
      refine st_iconst C (v := 1) (dk DX2_popInto_0 28 rfl) (by decide) ?_
      refine st_isub C (dk DX2_popInto_0 29 rfl) ?_
      refine st_put C fl_RX2_30 fc_1 fw_1_2 (dk DX2_popInto_0 30 rfl) 0 rfl rfl rfl (Nat.le_of_ble_eq_true rfl) ?_
      exact Rr 0 0 _ _ _ _ _ _ (Nat.zero_le _) (Nat.zero_le _) (dk DX2_popInto_0 31 rfl) (.inl ⟨rfl, rfl, rfl, rfl⟩) rfl ⟨rfl, ⟨rfl, lk33, ld33, hlk33, hld33, rfl⟩⟩
    · exact absurd c_27 hs0
  · refine st_aload_n C (dk DX2_popInto_0 0 rfl) rfl ?_
    refine st_get C fl_RX2_18 (dk DX2_popInto_0 1 rfl) 0 rfl rfl ?_
    refine st_bipush C (v := 6) (dk DX2_popInto_0 2 rfl) (by decide) ?_
    refine st_iadd C (dk DX2_popInto_0 3 rfl) ?_
    refine st_iconst C (v := 1) (dk DX2_popInto_0 4 rfl) (by decide) ?_
    refine st_isub C (dk DX2_popInto_0 5 rfl) ?_
    refine st_bipush C (v := 6) (dk DX2_popInto_0 6 rfl) (by decide) ?_
    refine st_irem C (dk DX2_popInto_0 7 rfl) (by decide) ?_
    refine st_istore_n C (dk DX2_popInto_0 8 rfl) (by decide) rfl ?_
    refine st_aload_n C (dk DX2_popInto_0 9 rfl) rfl ?_
    refine st_iload_n C (dk DX2_popInto_0 10 rfl) rfl ?_
    refine st_cV C (k_X2_slotAt l G (f := fun k => some (u k)) hx (by decide : 4 < 6) rfl) mf_X2_slotAt mi_X2_slotAt ml_RX2_22 (dk DX2_popInto_0 11 rfl) [0, 1] rfl rfl rfl rfl (Nat.le_of_ble_eq_true rfl) rfl rfl ⟨Nat.le_of_ble_eq_true rfl, Nat.le_of_ble_eq_true rfl⟩ ⟨Nat.zero_le _, Nat.zero_le _⟩ (fun r9 w9 hq9 => ?_)
    obtain ⟨rfl, rfl⟩ := hq9
    refine st_astore_n C (dk DX2_popInto_0 12 rfl) (by decide) rfl ?_
    refine st_aload_n C (dk DX2_popInto_0 13 rfl) rfl ?_
    refine st_ifnull C (dk DX2_popInto_0 14 rfl) ?_
    refine st_aload_n C (dk DX2_popInto_0 15 rfl) rfl ?_
    refine st_get C fl_RX2_30 (dk DX2_popInto_0 16 rfl) 0 rfl rfl ?_
    refine st_if_ne C (tgt := 31) (dk DX2_popInto_0 17 rfl) (by decide) (fun c_27 => ?_) (fun c_27 => ?_)
    · refine st_aload_n C (dk DX2_popInto_0 19 rfl) rfl ?_
      refine st_aload_n C (dk DX2_popInto_0 20 rfl) rfl ?_
      refine st_cV C (k_X1_copyFrom l G) mf_X1_copyFrom mi_X1_copyFrom ml_RX2_26 (dk DX2_popInto_0 21 rfl) [20, 21, 22, 14, 15, 16] rfl rfl rfl rfl (Nat.le_of_ble_eq_true rfl) rfl rfl ⟨Nat.le_of_ble_eq_true rfl, Nat.le_of_ble_eq_true rfl⟩ ⟨Nat.zero_le _, Nat.zero_le _⟩ (fun r9 w9 hq9 => ?_)
      obtain ⟨rfl, lk33, ld33, hlk33, hld33, rfl⟩ := hq9
      refine st_aload_n C (dk DX2_popInto_0 22 rfl) rfl ?_
      refine st_iload_n C (dk DX2_popInto_0 23 rfl) rfl ?_
      refine st_put C fl_RX2_18 fc_1 fw_1_1 (dk DX2_popInto_0 24 rfl) 0 rfl rfl rfl (Nat.le_of_ble_eq_true rfl) ?_
      refine st_aload_n C (dk DX2_popInto_0 25 rfl) rfl ?_
      refine st_dup C (dk DX2_popInto_0 26 rfl) rfl ?_
      refine st_get C fl_RX2_30 (dk DX2_popInto_0 27 rfl) 0 rfl rfl ?_
      refine st_iconst C (v := 1) (dk DX2_popInto_0 28 rfl) (by decide) ?_
      refine st_isub C (dk DX2_popInto_0 29 rfl) ?_
      refine st_put C fl_RX2_30 fc_1 fw_1_2 (dk DX2_popInto_0 30 rfl) 0 rfl rfl rfl (Nat.le_of_ble_eq_true rfl) ?_
      exact Rr 0 0 _ _ _ _ _ _ (Nat.zero_le _) (Nat.zero_le _) (dk DX2_popInto_0 31 rfl) (.inl ⟨rfl, rfl, rfl, rfl⟩) rfl ⟨rfl, ⟨rfl, lk33, ld33, hlk33, hld33, rfl⟩⟩
    · exact absurd c_27 hs0
  · refine st_aload_n C (dk DX2_popInto_0 0 rfl) rfl ?_
    refine st_get C fl_RX2_18 (dk DX2_popInto_0 1 rfl) 0 rfl rfl ?_
    refine st_bipush C (v := 6) (dk DX2_popInto_0 2 rfl) (by decide) ?_
    refine st_iadd C (dk DX2_popInto_0 3 rfl) ?_
    refine st_iconst C (v := 1) (dk DX2_popInto_0 4 rfl) (by decide) ?_
    refine st_isub C (dk DX2_popInto_0 5 rfl) ?_
    refine st_bipush C (v := 6) (dk DX2_popInto_0 6 rfl) (by decide) ?_
    refine st_irem C (dk DX2_popInto_0 7 rfl) (by decide) ?_
    refine st_istore_n C (dk DX2_popInto_0 8 rfl) (by decide) rfl ?_
    refine st_aload_n C (dk DX2_popInto_0 9 rfl) rfl ?_
    refine st_iload_n C (dk DX2_popInto_0 10 rfl) rfl ?_
    refine st_cV C (k_X2_slotAt l G (f := fun k => some (u k)) hx (by decide : 5 < 6) rfl) mf_X2_slotAt mi_X2_slotAt ml_RX2_22 (dk DX2_popInto_0 11 rfl) [0, 1] rfl rfl rfl rfl (Nat.le_of_ble_eq_true rfl) rfl rfl ⟨Nat.le_of_ble_eq_true rfl, Nat.le_of_ble_eq_true rfl⟩ ⟨Nat.zero_le _, Nat.zero_le _⟩ (fun r9 w9 hq9 => ?_)
    obtain ⟨rfl, rfl⟩ := hq9
    refine st_astore_n C (dk DX2_popInto_0 12 rfl) (by decide) rfl ?_
    refine st_aload_n C (dk DX2_popInto_0 13 rfl) rfl ?_
    refine st_ifnull C (dk DX2_popInto_0 14 rfl) ?_
    refine st_aload_n C (dk DX2_popInto_0 15 rfl) rfl ?_
    refine st_get C fl_RX2_30 (dk DX2_popInto_0 16 rfl) 0 rfl rfl ?_
    refine st_if_ne C (tgt := 31) (dk DX2_popInto_0 17 rfl) (by decide) (fun c_27 => ?_) (fun c_27 => ?_)
    · refine st_aload_n C (dk DX2_popInto_0 19 rfl) rfl ?_
      refine st_aload_n C (dk DX2_popInto_0 20 rfl) rfl ?_
      refine st_cV C (k_X1_copyFrom l G) mf_X1_copyFrom mi_X1_copyFrom ml_RX2_26 (dk DX2_popInto_0 21 rfl) [20, 21, 22, 17, 18, 19] rfl rfl rfl rfl (Nat.le_of_ble_eq_true rfl) rfl rfl ⟨Nat.le_of_ble_eq_true rfl, Nat.le_of_ble_eq_true rfl⟩ ⟨Nat.zero_le _, Nat.zero_le _⟩ (fun r9 w9 hq9 => ?_)
      obtain ⟨rfl, lk33, ld33, hlk33, hld33, rfl⟩ := hq9
      refine st_aload_n C (dk DX2_popInto_0 22 rfl) rfl ?_
      refine st_iload_n C (dk DX2_popInto_0 23 rfl) rfl ?_
      refine st_put C fl_RX2_18 fc_1 fw_1_1 (dk DX2_popInto_0 24 rfl) 0 rfl rfl rfl (Nat.le_of_ble_eq_true rfl) ?_
      refine st_aload_n C (dk DX2_popInto_0 25 rfl) rfl ?_
      refine st_dup C (dk DX2_popInto_0 26 rfl) rfl ?_
      refine st_get C fl_RX2_30 (dk DX2_popInto_0 27 rfl) 0 rfl rfl ?_
      refine st_iconst C (v := 1) (dk DX2_popInto_0 28 rfl) (by decide) ?_
      refine st_isub C (dk DX2_popInto_0 29 rfl) ?_
      refine st_put C fl_RX2_30 fc_1 fw_1_2 (dk DX2_popInto_0 30 rfl) 0 rfl rfl rfl (Nat.le_of_ble_eq_true rfl) ?_
      exact Rr 0 0 _ _ _ _ _ _ (Nat.zero_le _) (Nat.zero_le _) (dk DX2_popInto_0 31 rfl) (.inl ⟨rfl, rfl, rfl, rfl⟩) rfl ⟨rfl, ⟨rfl, lk33, ld33, hlk33, hld33, rfl⟩⟩
    · exact absurd c_27 hs0
end
section
/-! breadth-first search as a list that grows: entries (code, step, entry before, distance); codes are triples, the first part of a code is its cell -/
abbrev bT : Type := Nat × Nat × Nat
abbrev bE : Type := bT × Nat × Nat × Nat
def bAdd (Q : List bE) (t : bT) (s b d : Nat) : List bE := if t ∈ Q.map (·.1) then Q else Q ++ [(t, s, b, d)]
def bStep (g : bT → Nat → Option bT) (Q : List bE) (k s : Nat) : List bE := match Q[k]? with
  | none => Q
  | some e => match g e.1 s with
    | none => Q
    | some t => bAdd Q t s k (e.2.2.2 + 1)
def bRow (g : bT → Nat → Option bT) (Q : List bE) (k : Nat) : Nat → List bE
  | 0 => Q
  | s + 1 => bStep g (bRow g Q k s) k s
def bRun (g : bT → Nat → Option bT) (t0 : bT) : Nat → List bE
  | 0 => [(t0, 0, 0, 0)]
  | k + 1 => bRow g (bRun g t0 k) k 5
/-- the place of the first entry in a cell -/
def fi (Q : List bE) (c : Nat) : Option Nat := Q.findIdx? (fun e => e.1.1 == c)
def eAt (Q : List bE) (i : Nat) : bE := Q.getD i ((0, 0, 0), 0, 0, 0)
def dst (Q : List bE) (i : Nat) : Nat := (eAt Q i).2.2.2
def cnt (Q : List bE) : Nat → Nat
  | 0 => 0
  | n + 1 => cnt Q n + (if (fi Q n).isSome then 1 else 0)
def lnOf (Q : List bE) (c : Nat) : Int32 := match fi Q c with
  | none => -1
  | some i => nI (dst Q i)
theorem bAdd_ext (Q : List bE) (t : bT) (s b d : Nat) : ∃ Z, bAdd Q t s b d = Q ++ Z := by
  unfold bAdd; split
  · exact ⟨[], by simp⟩
  · exact ⟨_, rfl⟩
theorem bStep_ext (g : bT → Nat → Option bT) (Q : List bE) (k s : Nat) : ∃ Z, bStep g Q k s = Q ++ Z := by
  unfold bStep
  split
  · exact ⟨[], by simp⟩
  · split
    · exact ⟨[], by simp⟩
    · exact bAdd_ext _ _ _ _ _
theorem bRow_ext (g : bT → Nat → Option bT) (Q : List bE) (k : Nat) : ∀ s, ∃ Z, bRow g Q k s = Q ++ Z
  | 0 => ⟨[], by simp [bRow]⟩
  | s + 1 => by
    obtain ⟨Z, hZ⟩ := bRow_ext g Q k s
    obtain ⟨Y, hY⟩ := bStep_ext g (bRow g Q k s) k s
    exact ⟨Z ++ Y, by rw [bRow, hY, hZ, List.append_assoc]⟩
theorem bRun_ext1 (g : bT → Nat → Option bT) (t0 : bT) (k : Nat) : ∃ Z, bRun g t0 (k + 1) = bRun g t0 k ++ Z := bRow_ext g _ k 5
theorem bRun_ext (g : bT → Nat → Option bT) (t0 : bT) (k : Nat) : ∀ m, ∃ Z, bRun g t0 (k + m) = bRun g t0 k ++ Z
  | 0 => ⟨[], by simp⟩
  | m + 1 => by
    obtain ⟨Z, hZ⟩ := bRun_ext g t0 k m
    obtain ⟨Y, hY⟩ := bRun_ext1 g t0 (k + m)
    exact ⟨Z ++ Y, by rw [show k + (m + 1) = k + m + 1 from rfl, hY, hZ, List.append_assoc]⟩
theorem bStep_out {g : bT → Nat → Option bT} {Q : List bE} {k s : Nat} (h : Q.length ≤ k) : bStep g Q k s = Q := by
  unfold bStep; rw [List.getElem?_eq_none h]
theorem bRow_out {g : bT → Nat → Option bT} {Q : List bE} {k : Nat} (h : Q.length ≤ k) : ∀ s, bRow g Q k s = Q
  | 0 => rfl
  | s + 1 => by rw [bRow, bRow_out h s, bStep_out h]
theorem bRun_out {g : bT → Nat → Option bT} {t0 : bT} {k : Nat} (h : (bRun g t0 k).length ≤ k) : ∀ m, bRun g t0 (k + m) = bRun g t0 k
  | 0 => rfl
  | m + 1 => by
    rw [show k + (m + 1) = k + m + 1 from rfl, bRun, bRun_out h m]
    exact bRow_out (by omega) 5
theorem bRun_len1 (g : bT → Nat → Option bT) (t0 : bT) (k : Nat) : 1 ≤ (bRun g t0 k).length := by
  obtain ⟨Z, hZ⟩ := bRun_ext g t0 0 k
  rw [Nat.zero_add] at hZ
  rw [hZ]; simp [bRun]
/-- what holds of every such list -/
def bOk (g : bT → Nat → Option bT) (t0 : bT) (V : bT → Prop) (Q : List bE) : Prop :=
  (Q.map (·.1)).Nodup ∧ (∀ e ∈ Q, V e.1) ∧ Q[0]? = some (t0, 0, 0, 0) ∧ ∀ i e, Q[i]? = some e → 0 < i → ∃ b, Q[e.2.2.1]? = some b ∧ e.2.2.1 < i ∧ e.2.2.2 = b.2.2.2 + 1 ∧ e.2.1 < 5 ∧ g b.1 e.2.1 = some e.1
theorem getElem?_app {α : Type} {Q Z : List α} {i : Nat} {e : α} (h : Q[i]? = some e) : (Q ++ Z)[i]? = some e := by
  rw [List.getElem?_append_left (List.getElem?_eq_some_iff.mp h).1]; exact h
theorem bOk.step {g : bT → Nat → Option bT} {t0 : bT} {V : bT → Prop} (hV : ∀ t s t', V t → s < 5 → g t s = some t' → V t') {Q : List bE} (h : bOk g t0 V Q) {k s : Nat} (hs : s < 5) : bOk g t0 V (bStep g Q k s) := by
  unfold bStep
  split
  · exact h
  · rename_i e he
    split
    · exact h
    · rename_i t ht
      unfold bAdd
      split
      · exact h
      · rename_i hn
        obtain ⟨h1, h2, h3, h4⟩ := h
        have hVe := h2 e (List.mem_of_getElem? he)
        refine ⟨?_, ?_, getElem?_app h3, ?_⟩
        · rw [List.map_append, List.nodup_append]
          refine ⟨h1, by simp, ?_⟩
          intro a ha b hb
          simp at hb
          subst hb
          exact fun hab => hn (hab ▸ ha)
        · intro e' he'
          rcases List.mem_append.mp he' with h5 | h5
          · exact h2 e' h5
          · simp at h5
            subst h5
            exact hV _ _ _ hVe hs ht
        · intro i e' hi hpos
          by_cases hl : i < Q.length
          · rw [List.getElem?_append_left hl] at hi
            obtain ⟨b, b1, b2⟩ := h4 i e' hi hpos
            exact ⟨b, getElem?_app b1, b2⟩
          · have hl2 : i = Q.length := by
              have := (List.getElem?_eq_some_iff.mp hi).1
              simp at this
              omega
            subst hl2
            simp at hi
            subst hi
            exact ⟨e, getElem?_app he, (List.getElem?_eq_some_iff.mp he).1, rfl, hs, ht⟩
theorem bOk.row {g : bT → Nat → Option bT} {t0 : bT} {V : bT → Prop} (hV : ∀ t s t', V t → s < 5 → g t s = some t' → V t') {Q : List bE} (h : bOk g t0 V Q) {k : Nat} : ∀ s, s ≤ 5 → bOk g t0 V (bRow g Q k s)
  | 0, _ => h
  | s + 1, hs => (bOk.row hV h s (by omega)).step hV (by omega)
theorem bOk.run {g : bT → Nat → Option bT} {t0 : bT} {V : bT → Prop} (hV : ∀ t s t', V t → s < 5 → g t s = some t' → V t') (h0 : V t0) : ∀ k, bOk g t0 V (bRun g t0 k)
  | 0 => ⟨by simp [bRun], by simp [bRun, h0], by simp [bRun], fun i e hi hp => by
      have := (List.getElem?_eq_some_iff.mp hi).1
      simp [bRun] at this
      omega⟩
  | k + 1 => (bOk.run hV h0 k).row hV 5 (by omega)
theorem fi_app (Q Z : List bE) (c : Nat) : fi (Q ++ Z) c = (fi Q c).or ((fi Z c).map (· + Q.length)) := by
  unfold fi; rw [List.findIdx?_append]
theorem fi_app1 (Q : List bE) (e : bE) (c : Nat) : fi (Q ++ [e]) c = (fi Q c).or (if e.1.1 = c then some Q.length else none) := by
  rw [fi_app]
  congr 1
  unfold fi
  by_cases h : e.1.1 = c
  · simp [h]
  · have : (e.1.1 == c) = false := by simp [h]
    simp [this, h]
theorem fi_lt {Q : List bE} {c i : Nat} (h : fi Q c = some i) : ∃ e, Q[i]? = some e ∧ e.1.1 = c := by
  unfold fi at h
  obtain ⟨h1, h2, -⟩ := List.findIdx?_eq_some_iff_getElem.mp h
  exact ⟨Q[i], List.getElem?_eq_getElem h1, by simpa using h2⟩
theorem eAt_get {Q : List bE} {i : Nat} {e : bE} (h : Q[i]? = some e) : eAt Q i = e := by unfold eAt; rw [List.getD_eq_getElem?_getD, h]; rfl
theorem eAt_app {Q Z : List bE} {i : Nat} (h : i < Q.length) : eAt (Q ++ Z) i = eAt Q i := by unfold eAt; rw [List.getD_eq_getElem?_getD, List.getD_eq_getElem?_getD, List.getElem?_append_left h]
theorem dst_app {Q Z : List bE} {i : Nat} (h : i < Q.length) : dst (Q ++ Z) i = dst Q i := by unfold dst; rw [eAt_app h]
theorem cnt_le (Q : List bE) : ∀ n, cnt Q n ≤ n
  | 0 => Nat.le_refl _
  | n + 1 => by have := cnt_le Q n; unfold cnt; split <;> omega
theorem cnt_all {Q : List bE} : ∀ {n}, cnt Q n = n → ∀ c, c < n → (fi Q c).isSome = true
  | 0, _, c, h => by omega
  | n + 1, h, c, hc => by
    have h1 := cnt_le Q n
    unfold cnt at h
    split at h
    · rename_i hs
      by_cases hcn : c = n
      · subst hcn; exact hs
      · exact cnt_all (n := n) (by omega) c (by omega)
    · omega
theorem cnt_same {Q R : List bE} : ∀ {n}, (∀ c, c < n → (fi R c).isSome = (fi Q c).isSome) → cnt R n = cnt Q n
  | 0, _ => rfl
  | n + 1, h => by unfold cnt; rw [cnt_same (fun c hc => h c (by omega)), h n (by omega)]
theorem cnt_new {Q : List bE} {e : bE} (h : fi Q e.1.1 = none) : ∀ n, cnt (Q ++ [e]) n = cnt Q n + (if e.1.1 < n then 1 else 0)
  | 0 => by simp [cnt]
  | n + 1 => by
    unfold cnt
    rw [cnt_new h n, fi_app1]
    by_cases hc : e.1.1 = n
    · subst hc
      rw [h]
      simp
    · have h1 : (if e.1.1 = n then some Q.length else none) = none := if_neg hc
      rw [h1]
      have h2 : (if e.1.1 < n + 1 then 1 else 0) = (if e.1.1 < n then 1 else 0) := by
        by_cases h3 : e.1.1 < n
        · rw [if_pos h3, if_pos (by omega)]
        · rw [if_neg h3, if_neg (by omega)]
      rw [h2]
      cases fi Q n <;> simp <;> omega
theorem cnt_old {Q : List bE} {e : bE} (h : (fi Q e.1.1).isSome = true) (n : Nat) : cnt (Q ++ [e]) n = cnt Q n := by
  refine cnt_same (fun c _ => ?_)
  rw [fi_app1]
  by_cases hc : e.1.1 = c
  · subst hc
    cases hq : fi Q e.1.1 with
    | none => rw [hq] at h; cases h
    | some i => simp
  · rw [if_neg hc]; cases fi Q c <;> simp
/-- the finished list -/
theorem bMax_ex : ∃ n : Nat, n = 4624 := ⟨4624, rfl⟩
noncomputable def bMax : Nat := Classical.choose bMax_ex
theorem bMax_eq : bMax = 4624 := Classical.choose_spec bMax_ex
noncomputable def bF (g : bT → Nat → Option bT) (t0 : bT) : List bE := bRun g t0 bMax
/-- when it may be left: all looked at, or all cells found -/
def bDone (Q : List bE) (k : Nat) : Prop := Q.length ≤ k ∨ cnt Q 16 = 16
theorem bF_ext {g : bT → Nat → Option bT} {t0 : bT} {k : Nat} (hk : k ≤ 4624) : ∃ Z, bF g t0 = bRun g t0 k ++ Z := by
  obtain ⟨Z, hZ⟩ := bRun_ext g t0 k (4624 - k)
  rw [show k + (4624 - k) = bMax by rw [bMax_eq]; omega] at hZ
  exact ⟨Z, hZ⟩
theorem fi_done {g : bT → Nat → Option bT} {t0 : bT} {k : Nat} (hk : k ≤ 4624) (hd : bDone (bRun g t0 k) k) {c : Nat} (hc : c < 16) : fi (bF g t0) c = fi (bRun g t0 k) c := by
  rcases hd with h | h
  · have := bRun_out h (4624 - k)
    rw [show k + (4624 - k) = bMax by rw [bMax_eq]; omega] at this
    unfold bF; rw [this]
  · obtain ⟨Z, hZ⟩ := bF_ext (g := g) (t0 := t0) hk
    rw [hZ, fi_app]
    have h2 := cnt_all h c hc
    cases hq : fi (bRun g t0 k) c with
    | none => rw [hq] at h2; cases h2
    | some i => rfl
end
section
/-! codes and entries as ints; the search's cells against the list -/
theorem nI_or (a b : Nat) : nI a ||| nI b = nI (a ||| b) := by
  apply Int32.toBitVec_inj.mp
  rw [Int32.toBitVec_or]
  show BitVec.ofNat 32 a ||| BitVec.ofNat 32 b = BitVec.ofNat 32 (a ||| b)
  rw [BitVec.ofNat_or]
theorem or_add {a b k : Nat} (h : a < 2 ^ k) : a ||| b * 2 ^ k = a + b * 2 ^ k := by
  have := Nat.two_pow_add_eq_or_of_lt h b
  rw [Nat.or_comm, Nat.mul_comm b, ← this]; omega
theorem nI_orS {a b : Nat} (k : Nat) (h : a < 2 ^ k) : nI a ||| nI (b * 2 ^ k) = nI (a + b * 2 ^ k) := by rw [nI_or, or_add h]
theorem rOf_nI {a b c : Nat} (ha : a < 16) (hb : b < 32) (hc : c < 32) : rOf (nI a) (nI b) (nI c) = nI (a + 16 * b + 512 * c) := by
  unfold rOf
  rw [pk_shlN (4 &&& 31) 4 (by decide) (by omega), pk_shlN (9 &&& 31) 9 (by decide) (by omega), nI_orS 4 (by omega), nI_orS 9 (by omega)]
  congr 1; omega
theorem rCell_nI {x : Nat} (h : x < 2 ^ 31) : rCell (nI x) = nI (x % 16) := pk_andN (by omega) 4 (by decide)
theorem rFst_nI {x : Nat} (h : x < 2 ^ 31) : rFst (nI x) = nI (x / 16 % 32) := by
  unfold rFst; rw [pk_shrN h (4 &&& 31) 4 (by decide), pk_andN (by omega) 5 (by decide)]
theorem rSnd_nI {x : Nat} (h : x < 2 ^ 31) : rSnd (nI x) = nI (x / 512 % 32) := by
  unfold rSnd; rw [pk_shrN h (9 &&& 31) 9 (by decide), pk_andN (by omega) 5 (by decide)]
theorem rCde_nI {x : Nat} (h : x < 2 ^ 31) : rCde (nI x) = nI (x % 16384) := pk_andN (by omega) 14 (by decide)
theorem rStp_nI {x : Nat} (h : x < 2 ^ 31) : rStp (nI x) = nI (x / 16384 % 8) := by
  unfold rStp; rw [pk_shrN h (14 &&& 31) 14 (by decide), pk_andN (by omega) 3 (by decide)]
theorem rBef_nI {x : Nat} (h : x < 2 ^ 31) : rBef (nI x) = nI (x / 131072) := pk_shrN h (17 &&& 31) 17 (by decide)
theorem rRow_nI {x : Nat} (h : x < 2 ^ 31) : rRow (nI x) = nI (x / 64 % 256) := by
  unfold rRow; rw [pk_shrN h (6 &&& 31) 6 (by decide), pk_andN (by omega) 8 (by decide)]
theorem rb_tp : ∀ k, k < 64 → ((1 : Int64) <<< ((nI k).toInt64 &&& 63)).toBitVec = BitVec.twoPow 64 k := by decide +kernel
theorem rBit_nI {x : Nat} (h : x < 2 ^ 31) : (rBit (nI x)).toBitVec = BitVec.twoPow 64 (x % 64) := by
  unfold rBit
  rw [pk_andN (by omega) 6 (by decide)]
  exact rb_tp _ (Nat.mod_lt _ (by decide))
theorem ent_nI {x s b : Nat} (hx : x < 16384) (hs : s < 8) (hb : b < 8192) : (nI x ||| (nI s <<< (14 &&& 31)) ||| (nI b <<< (17 &&& 31))) = nI (x + 16384 * s + 131072 * b) := by
  rw [pk_shlN (14 &&& 31) 14 (by decide) (by omega), pk_shlN (17 &&& 31) 17 (by decide) (by omega), nI_orS 14 (by omega), nI_orS 17 (by omega)]
  congr 1; omega
def sbit (f : Nat → Int64) (x : Nat) : Bool := (f (x / 64)).toBitVec.getLsbD (x % 64)
theorem lg_cmp0 (a b : Int64) : lg_cmp a b = 0 ↔ a = b := by
  unfold lg_cmp
  by_cases h : b < a
  · rw [if_pos h]
    constructor
    · intro h1; exact absurd h1 (by decide)
    · intro h1
      subst h1
      rw [Int64.lt_iff_toInt_lt] at h
      omega
  · rw [if_neg h]
    by_cases h2 : a = b
    · simp [h2]
    · simp [h2]
theorem seen_test {f : Nat → Int64} {x : Nat} (hx : x < 16384) : lg_cmp (f (rRow (nI x)).toNatClampNeg &&& rBit (nI x)) 0 = 0 ↔ sbit f x = false := by
  rw [lg_cmp0, rRow_nI (by omega), nI_clamp (by omega), show x / 64 % 256 = x / 64 by omega]
  unfold sbit
  constructor
  · intro h
    have h1 := congrArg Int64.toBitVec h
    rw [Int64.toBitVec_and, rBit_nI (by omega), BitVec.and_twoPow] at h1
    cases hb : (f (x / 64)).toBitVec.getLsbD (x % 64) with
    | false => rfl
    | true =>
      rw [hb, if_pos rfl] at h1
      have h2 := congrArg (fun v => v.getLsbD (x % 64)) h1
      simp [BitVec.getLsbD_twoPow, Nat.mod_lt] at h2
  · intro h
    apply Int64.toBitVec_inj.mp
    rw [Int64.toBitVec_and, rBit_nI (by omega), BitVec.and_twoPow, h]
    rfl
theorem seen_set {f : Nat → Int64} {x y : Nat} (hx : x < 16384) (hy : y < 16384) : sbit (vp_updL f (rRow (nI x)).toNatClampNeg (f (rRow (nI x)).toNatClampNeg ||| rBit (nI x))) y = (sbit f y || decide (x = y)) := by
  rw [rRow_nI (by omega), nI_clamp (by omega), show x / 64 % 256 = x / 64 by omega]
  unfold sbit
  by_cases h : y / 64 = x / 64
  · rw [h, pk_uLs, Int64.toBitVec_or, BitVec.getLsbD_or, rBit_nI (by omega), BitVec.getLsbD_twoPow]
    have h1 : decide (x % 64 < 64) = true := by simp [Nat.mod_lt]
    rw [h1, Bool.true_and]
    congr 1
    by_cases h2 : x = y
    · subst h2; simp
    · have : ¬ x % 64 = y % 64 := by omega
      simp [h2, this]
  · rw [pk_uLn h]
    have : ¬ x = y := fun e => h (by rw [e])
    simp [this]
/-- the search's cells hold the list Q -/
def ee (ec : bT → Nat) (e : bE) : Nat := ec e.1 + 16384 * e.2.1 + 131072 * e.2.2.1
def SRel (ec : bT → Nat) (Q : List bE) (sz rc : Int32) (en : Nat → Int32) (sn : Nat → Int64) (nd ln : Nat → Int32) : Prop :=
  sz = nI Q.length ∧ rc = nI (cnt Q 16) ∧ (∀ i e, Q[i]? = some e → en i = nI (ee ec e)) ∧ (∀ x, x < 16384 → (sbit sn x = true ↔ ∃ e ∈ Q, ec e.1 = x)) ∧ (∀ c, c < 16 → nd c = nI ((fi Q c).getD 0)) ∧ (∀ c, c < 16 → ln c = lnOf Q c)
theorem lnOf_m1 {Q : List bE} {c : Nat} (hl : Q.length < 2 ^ 30) (hd : ∀ i, i < Q.length → dst Q i < 2 ^ 30) : lnOf Q c = -1 ↔ fi Q c = none := by
  unfold lnOf
  cases h : fi Q c with
  | none => simp
  | some i =>
    obtain ⟨e, he, -⟩ := fi_lt h
    have h1 := hd i (List.getElem?_eq_some_iff.mp he).1
    constructor
    · intro h2
      have h3 := congrArg Int32.toInt h2
      simp only [nI_toInt (show dst Q i < 2 ^ 31 by omega)] at h3
      have : ((-1 : Int32)).toInt = -1 := by decide
      omega
    · intro h2; cases h2
theorem SRel.add {G : wG} {ec : bT → Nat} {V : bT → Prop} {Q : List bE} {sz rc : Int32} {en : Nat → Int32} {sn : Nat → Int64} {nd ln : Nat → Int32} (t t1 t2 t3 t4 : Nat) (h : SRel ec Q sz rc en sn nd ln) {c s b d : Nat} {u : bT} (hV : ∀ e ∈ Q, V e.1) (hu : V u) (hinj : ∀ a b, V a → V b → ec a = ec b → a = b) (hcell : u.1 < 16) (hec : ec u < 16384) (hem : ec u % 16 = u.1) (hs : s < 5) (hb : b < 4624) (hlen : u ∉ Q.map (·.1) → Q.length < 4624) (hlen2 : Q.length ≤ 4624) (hd : ∀ i, i < Q.length → dst Q i < 2 ^ 30) :
    ∃ (sz' rc' : Int32) (en' : Nat → Int32) (sn' : Nat → Int64) (nd' ln' : Nat → Int32), rAdd G t t1 t2 t3 t4 sz rc en sn nd ln (nI (ec u)) (nI s) (nI b) (nI d) = [(t, ob 2 (sF t1 t2 t3 t4 sz' rc')), (t1, aI G 4624 en'), (t2, aJ G 256 sn'), (t3, aI G 16 nd'), (t4, aI G 16 ln')] ∧ SRel ec (bAdd Q u s b d) sz' rc' en' sn' nd' ln' := by
  obtain ⟨h1, h2, h3, h4, h5, h6⟩ := h
  have hcl : rCell (nI (ec u)) = nI u.1 := by rw [rCell_nI (by omega), hem]
  have hclN : (rCell (nI (ec u))).toNatClampNeg = u.1 := by rw [hcl]; exact nI_clamp (by omega)
  have hin : u ∈ Q.map (·.1) ↔ sbit sn (ec u) = true := by
    rw [h4 _ hec]
    constructor
    · intro hm
      obtain ⟨e, he, rfl⟩ := List.mem_map.mp hm
      exact ⟨e, he, rfl⟩
    · intro ⟨e, he, hee⟩
      exact List.mem_map.mpr ⟨e, he, hinj _ _ (hV e he) hu hee⟩
  by_cases hm : u ∈ Q.map (·.1)
  · have hb1 : ¬ lg_cmp (sn (rRow (nI (ec u))).toNatClampNeg &&& rBit (nI (ec u))) 0 = 0 := by
      rw [seen_test hec, hin.mp hm]; decide
    refine ⟨sz, rc, en, sn, nd, ln, by rw [rAdd, if_neg hb1], ?_⟩
    unfold bAdd; rw [if_pos hm]
    exact ⟨h1, h2, h3, h4, h5, h6⟩
  · have hsb : sbit sn (ec u) = false := by
      cases hq : sbit sn (ec u) with
      | false => rfl
      | true => exact absurd (hin.mpr hq) hm
    have hb1 : lg_cmp (sn (rRow (nI (ec u))).toNatClampNeg &&& rBit (nI (ec u))) 0 = 0 := (seen_test hec).mpr hsb
    have hl := hlen hm
    have hb2 : sz < 4624 := (lt_nI (a := Q.length) (i := 4624) (by omega) (by decide) h1 rfl).mpr hl
    have hszN : sz.toNatClampNeg = Q.length := cl_nI h1 (by omega)
    have hen : ∀ i e, (bAdd Q u s b d)[i]? = some e → upd en sz.toNatClampNeg (nI (ec u) ||| (nI s <<< (14 &&& 31)) ||| (nI b <<< (17 &&& 31))) i = nI (ee ec e) := by
      intro i e hi
      unfold bAdd at hi
      rw [if_neg hm] at hi
      rw [hszN]
      by_cases hil : i < Q.length
      · rw [List.getElem?_append_left hil] at hi
        rw [pk_un (by omega)]
        exact h3 i e hi
      · have : i = Q.length := by
          have := (List.getElem?_eq_some_iff.mp hi).1
          simp at this; omega
        subst this
        simp at hi
        subst hi
        rw [pk_us, ent_nI hec (by omega) (by omega)]
        rfl
    have hsn : ∀ x, x < 16384 → (sbit (vp_updL sn (rRow (nI (ec u))).toNatClampNeg (sn (rRow (nI (ec u))).toNatClampNeg ||| rBit (nI (ec u)))) x = true ↔ ∃ e ∈ bAdd Q u s b d, ec e.1 = x) := by
      intro x hx
      rw [seen_set hec hx]
      unfold bAdd
      rw [if_neg hm, Bool.or_eq_true, h4 x hx]
      constructor
      · rintro (⟨e, he, hee⟩ | hq)
        · exact ⟨e, List.mem_append_left _ he, hee⟩
        · exact ⟨(u, s, b, d), List.mem_append_right _ (List.mem_singleton.mpr rfl), by simpa using hq⟩
      · rintro ⟨e, he, hee⟩
        rcases List.mem_append.mp he with h7 | h7
        · exact Or.inl ⟨e, h7, hee⟩
        · rw [List.mem_singleton.mp h7] at hee
          exact Or.inr (by simpa using hee)
    have hQ : bAdd Q u s b d = Q ++ [(u, s, b, d)] := by unfold bAdd; rw [if_neg hm]
    have hsz' : sz + 1 = nI (bAdd Q u s b d).length := by rw [hQ, h1, nI_1]; simp
    have hm1 := lnOf_m1 (c := u.1) (by omega) hd
    by_cases hf : ln (rCell (nI (ec u))).toNatClampNeg = -1
    · have hfn : fi Q u.1 = none := by rw [hclN, h6 _ hcell] at hf; exact hm1.mp hf
      refine ⟨sz + 1, rc + 1, _, _, _, _, by rw [rAdd, if_pos hb1, if_pos hb2, if_pos hf], hsz', ?_, hen, hsn, ?_, ?_⟩
      · rw [hQ, cnt_new (e := (u, s, b, d)) hfn, if_pos hcell, h2, nI_1]
      · intro c hc
        rw [hQ, hclN, fi_app1]
        by_cases hcu : c = u.1
        · subst hcu
          rw [pk_us, hfn, if_pos rfl, h1]; rfl
        · rw [pk_un hcu, if_neg (fun e => hcu e.symm), h5 c hc]
          cases fi Q c <;> rfl
      · intro c hc
        rw [hclN]
        by_cases hcu : c = u.1
        · subst hcu
          rw [pk_us]
          unfold lnOf
          rw [hQ, fi_app1, hfn, if_pos rfl]
          show nI d = nI (dst (Q ++ [(u, s, b, d)]) Q.length)
          unfold dst eAt
          simp
        · rw [pk_un hcu, h6 c hc]
          unfold lnOf
          rw [hQ, fi_app1, if_neg (fun e => hcu e.symm)]
          cases hq : fi Q c with
          | none => rfl
          | some i =>
            obtain ⟨e, he, -⟩ := fi_lt hq
            show nI (dst Q i) = nI (dst (Q ++ [(u, s, b, d)]) i)
            rw [dst_app (List.getElem?_eq_some_iff.mp he).1]
    · have hfn : (fi Q u.1).isSome = true := by
        cases hq : fi Q u.1 with
        | none => exact absurd (by rw [hclN, h6 _ hcell]; exact hm1.mpr hq) hf
        | some i => rfl
      refine ⟨sz + 1, rc, _, _, _, _, by rw [rAdd, if_pos hb1, if_pos hb2, if_neg hf], hsz', ?_, hen, hsn, ?_, ?_⟩
      · rw [hQ, cnt_old (e := (u, s, b, d)) hfn, h2]
      · intro c hc
        rw [hQ, fi_app1, h5 c hc]
        by_cases hcu : u.1 = c
        · subst hcu
          cases hq : fi Q u.1 with
          | none => rw [hq] at hfn; cases hfn
          | some i => rfl
        · rw [if_neg hcu]
          cases fi Q c <;> rfl
      · intro c hc
        rw [h6 c hc]
        unfold lnOf
        rw [hQ, fi_app1]
        cases hq : fi Q c with
        | none =>
          have hcu : ¬ u.1 = c := by
            intro e
            subst e
            rw [hq] at hfn
            cases hfn
          rw [if_neg hcu]
          rfl
        | some i =>
          obtain ⟨e, he, -⟩ := fi_lt hq
          show nI (dst Q i) = nI (dst (Q ++ [(u, s, b, d)]) i)
          rw [dst_app (List.getElem?_eq_some_iff.mp he).1]
end
section
/-! what the search's run wants of the corridor, and what it leaves -/
def SGh (lk ld : Nat → Int32) (fb sb le : Int32) (g : bT → Nat → Option bT) (V : bT → Prop) (ec : bT → Nat) : Prop :=
  (∀ t, V t → t.1 < 16 ∧ ec t < 16384 ∧ ec t % 16 = t.1) ∧ (∀ a b, V a → V b → ec a = ec b → a = b) ∧ (∀ L : List bT, L.Nodup → (∀ t ∈ L, V t) → L.length ≤ 4624) ∧
  (∀ t s, V t → s < 5 → g t s = none → rAft lk ld fb sb le (nI (ec t)) (nI s) < 0) ∧ (∀ t s t', V t → s < 5 → g t s = some t' → V t' ∧ rAft lk ld fb sb le (nI (ec t)) (nI s) = nI (ec t'))
def SRes (ec : bT → Nat) (F : List bE) (rc : Int32) (en nd ln : Nat → Int32) : Prop :=
  rc = nI (cnt F 16) ∧ (∀ c, c < 16 → nd c = nI ((fi F c).getD 0)) ∧ (∀ c, c < 16 → ln c = lnOf F c) ∧ ∃ N, N ≤ F.length ∧ (∀ i, i < N → en i = nI (ee ec (eAt F i))) ∧ ∀ c i, c < 16 → fi F c = some i → i < N
def Lv (Q : List bE) (k d le9 : Nat) : Prop := k ≤ le9 ∧ le9 ≤ Q.length ∧ (∀ i, k ≤ i → i < le9 → dst Q i + 1 = d) ∧ (∀ i, le9 ≤ i → i < Q.length → dst Q i = d)
theorem dst_le {g : bT → Nat → Option bT} {t0 : bT} {V : bT → Prop} {Q : List bE} (h : bOk g t0 V Q) : ∀ n i, i < n → i < Q.length → dst Q i ≤ i
  | 0, i, h1, _ => by omega
  | n + 1, i, h1, h2 => by
    by_cases h0 : i = 0
    · subst h0
      unfold dst
      rw [eAt_get h.2.2.1]
      exact Nat.le_refl _
    · obtain ⟨b, b1, b2, b3, -⟩ := h.2.2.2 i Q[i] (List.getElem?_eq_getElem h2) (by omega)
      have e1 : dst Q i = b.2.2.2 + 1 := by unfold dst; rw [eAt_get (List.getElem?_eq_getElem h2)]; exact b3
      have e2 : dst Q (Q[i]).2.2.1 = b.2.2.2 := by unfold dst; rw [eAt_get b1]
      have := dst_le h n (Q[i]).2.2.1 (by omega) (by omega)
      omega
theorem bOk.len {g : bT → Nat → Option bT} {t0 : bT} {V : bT → Prop} {Q : List bE} (h : bOk g t0 V Q) (hp : ∀ L : List bT, L.Nodup → (∀ t ∈ L, V t) → L.length ≤ 4624) : Q.length ≤ 4624 := by
  have := hp _ h.1 (fun t ht => by
    obtain ⟨e, he, rfl⟩ := List.mem_map.mp ht
    exact h.2.1 e he)
  simpa using this
theorem lnOf_none {Q : List bE} {c : Nat} (h : fi Q c = none) : lnOf Q c = -1 := by unfold lnOf; rw [h]
theorem lnOf_some {Q : List bE} {c i : Nat} (h : fi Q c = some i) : lnOf Q c = nI (dst Q i) := by unfold lnOf; rw [h]
theorem SRel.res {ec : bT → Nat} {g : bT → Nat → Option bT} {t0 : bT} {k : Nat} {sz rc : Int32} {en : Nat → Int32} {sn : Nat → Int64} {nd ln : Nat → Int32} (hk : k ≤ 4624) (h : SRel ec (bRun g t0 k) sz rc en sn nd ln) (hd : bDone (bRun g t0 k) k) : SRes ec (bF g t0) rc en nd ln := by
  obtain ⟨h1, h2, h3, h4, h5, h6⟩ := h
  obtain ⟨Z, hZ⟩ := bF_ext (g := g) (t0 := t0) hk
  have hfi : ∀ c, c < 16 → fi (bF g t0) c = fi (bRun g t0 k) c := fun c hc => fi_done hk hd hc
  generalize bF g t0 = F at hZ hfi ⊢
  refine ⟨?_, ?_, ?_, (bRun g t0 k).length, ?_, ?_, ?_⟩
  · rw [h2, cnt_same (R := F) (Q := bRun g t0 k) (n := 16) (fun c hc => by rw [hfi c hc])]
  · intro c hc; rw [hfi c hc]; exact h5 c hc
  · intro c hc
    rw [h6 c hc]
    cases hq : fi (bRun g t0 k) c with
    | none => rw [lnOf_none hq, lnOf_none ((hfi c hc).trans hq)]
    | some i =>
      obtain ⟨e, he, -⟩ := fi_lt hq
      rw [lnOf_some hq, lnOf_some ((hfi c hc).trans hq), hZ, dst_app (List.getElem?_eq_some_iff.mp he).1]
  · rw [hZ]; simp
  · intro i hi
    rw [hZ, eAt_app hi, h3 i _ (List.getElem?_eq_getElem hi), eAt_get (List.getElem?_eq_getElem hi)]
  · intro c i hc hci
    rw [hfi c hc] at hci
    obtain ⟨e, he, -⟩ := fi_lt hci
    exact (List.getElem?_eq_some_iff.mp he).1
theorem bRow_none {g : bT → Nat → Option bT} {Q : List bE} {k s : Nat} {e : bE} (he : Q[k]? = some e) (hg : g e.1 s = none) : bRow g Q k (s + 1) = bRow g Q k s := by
  obtain ⟨Z, hZ⟩ := bRow_ext g Q k s
  rw [bRow]
  unfold bStep
  rw [show (bRow g Q k s)[k]? = some e by rw [hZ]; exact getElem?_app he]
  simp [hg]
theorem bRow_some {g : bT → Nat → Option bT} {Q : List bE} {k s : Nat} {e : bE} {t : bT} (he : Q[k]? = some e) (hg : g e.1 s = some t) : bRow g Q k (s + 1) = bAdd (bRow g Q k s) t s k (e.2.2.2 + 1) := by
  obtain ⟨Z, hZ⟩ := bRow_ext g Q k s
  rw [bRow]
  unfold bStep
  rw [show (bRow g Q k s)[k]? = some e by rw [hZ]; exact getElem?_app he]
  simp [hg]
/-- one step of a row in the search's cells -/
theorem SRel.row {G : wG} {lk ld : Nat → Int32} {fb sb le : Int32} {g : bT → Nat → Option bT} {t0 : bT} {V : bT → Prop} {ec : bT → Nat} (hS : SGh lk ld fb sb le g V ec) {Q : List bE} (hok : bOk g t0 V Q) {k s : Nat} {e : bE} {u : bT} (he : Q[k]? = some e) (hs : s < 5) (hg : g e.1 s = some u) {sz rc : Int32} {en : Nat → Int32} {sn : Nat → Int64} {nd ln : Nat → Int32} (t t1 t2 t3 t4 : Nat) (h : SRel ec (bRow g Q k s) sz rc en sn nd ln) {d : Nat} (hd : e.2.2.2 + 1 = d) :
    ∃ (sz' rc' : Int32) (en' : Nat → Int32) (sn' : Nat → Int64) (nd' ln' : Nat → Int32), rAdd G t t1 t2 t3 t4 sz rc en sn nd ln (rAft lk ld fb sb le (nI (ec e.1)) (nI s)) (nI s) (nI k) (nI d) = [(t, ob 2 (sF t1 t2 t3 t4 sz' rc')), (t1, aI G 4624 en'), (t2, aJ G 256 sn'), (t3, aI G 16 nd'), (t4, aI G 16 ln')] ∧ SRel ec (bRow g Q k (s + 1)) sz' rc' en' sn' nd' ln' := by
  obtain ⟨s1, s2, s3, s4, s5⟩ := hS
  have hcl : ∀ t s t', V t → s < 5 → g t s = some t' → V t' := fun t s t' h1 h2 h3 => (s5 t s t' h1 h2 h3).1
  have hrow := hok.row hcl (k := k) s (by omega)
  have hVe : V e.1 := hok.2.1 e (List.mem_of_getElem? he)
  obtain ⟨hu, hr⟩ := s5 e.1 s u hVe hs hg
  obtain ⟨c1, c2, c3⟩ := s1 u hu
  rw [hr, bRow_some he hg, hd]
  have hl2 : (bRow g Q k s).length ≤ 4624 := hrow.len s3
  have hkl : k < Q.length := (List.getElem?_eq_some_iff.mp he).1
  have hl0 := hok.len s3
  refine SRel.add (c := 0) (V := V) t t1 t2 t3 t4 h hrow.2.1 hu s2 c1 c2 c3 hs (by omega) (fun hn => ?_) hl2 (fun i hi => by have := dst_le hrow (i + 1) i (by omega) hi; omega)
  have h9 := (hrow.step hcl (k := k) hs).len s3
  rw [← bRow, bRow_some he hg] at h9
  unfold bAdd at h9
  rw [if_neg hn] at h9
  simp at h9
  omega
end
section
/-! the contract of Search.run -/
theorem szpos {x : Int32} {n : Nat} (h : x = nI n) (hn : n < 2 ^ 31) : ¬ x < 0 := by rw [h]; exact nI_pos hn
theorem SRel.nil (ec : bT → Nat) (en : Nat → Int32) {sn : Nat → Int64} {nd ln : Nat → Int32} (hs : ∀ j, j < 256 → sn j = 0) (hn : ∀ j, j < 16 → nd j = 0) (hl : ∀ j, j < 16 → ln j = -1) : SRel ec [] 0 0 en sn nd ln := by
  refine ⟨rfl, rfl, fun i e h => by simp at h, fun x hx => ?_, fun c hc => by rw [hn c hc]; rfl, fun c hc => by rw [hl c hc]; rfl⟩
  constructor
  · intro h
    unfold sbit at h
    rw [hs (x / 64) (by omega)] at h
    simp at h
  · rintro ⟨e, he, -⟩
    exact absurd he List.not_mem_nil
theorem eeb {g : bT → Nat → Option bT} {t0 : bT} {V : bT → Prop} (hok : ∀ k, bOk g t0 V (bRun g t0 k)) (hp : ∀ L : List bT, L.Nodup → (∀ t ∈ L, V t) → L.length ≤ 4624) (k : Nat) {i : Nat} {e : bE} (he : (bRun g t0 k)[i]? = some e) : e.2.1 < 5 ∧ e.2.2.1 < 4624 := by
  by_cases h0 : 0 < i
  · obtain ⟨b, b1, b2, b3, b4, -⟩ := (hok k).2.2.2 i e he h0
    have := (hok k).len hp
    have h1 := (List.getElem?_eq_some_iff.mp he).1
    exact ⟨b4, by omega⟩
  · have : i = 0 := by omega
    subst this
    rw [(hok k).2.2.1] at he
    cases he
    exact ⟨(by show (0 : Nat) < 5; decide), (by show (0 : Nat) < 4624; decide)⟩
theorem bAdd_dst {Q : List bE} {u : bT} {s b d n : Nat} (h : ∀ i, n ≤ i → i < Q.length → dst Q i = d) : ∀ i, n ≤ i → i < (bAdd Q u s b d).length → dst (bAdd Q u s b d) i = d := by
  intro i h1 h2
  by_cases hu : u ∈ Q.map (·.1)
  · have e : bAdd Q u s b d = Q := by unfold bAdd; rw [if_pos hu]
    rw [e] at h2 ⊢
    exact h i h1 h2
  · have e : bAdd Q u s b d = Q ++ [(u, s, b, d)] := by unfold bAdd; rw [if_neg hu]
    rw [e] at h2 ⊢
    by_cases hil : i < Q.length
    · rw [dst_app hil]; exact h i h1 hil
    · have h3 : i = Q.length := by simp at h2; omega
      subst h3
      unfold dst eAt
      simp
set_option maxHeartbeats 4000000 in
set_option maxRecDepth 100000 in
theorem k_X3_run (l : Launch) (G : wG) {t t1 t2 t3 t4 : Nat} {sz rc : Int32} {en : Nat → Int32} {sn : Nat → Int64} {nd ln : Nat → Int32} {p q1 q2 : Nat} {fb sb co le sp sw dp : Int32} {lk ld : Nat → Int32} {g : bT → Nat → Option bT} {t0 : bT} {V : bT → Prop} {ec : bT → Nat} (hS : SGh lk ld fb sb le g V ec) (h0 : V t0) (hco : co = nI (ec t0)) : Con0 l G yX3_run cX3_run 8 none 4 [.ref t, .ref p] [(t, ob 2 (sF t1 t2 t3 t4 sz rc)), (t1, aI G 4624 en), (t2, aJ G 256 sn), (t3, aI G 16 nd), (t4, aI G 16 ln), (p, ob 0 (cF q1 q2 fb sb co le sp sw dp)), (q1, aI G 15 lk), (q2, aI G 16 ld)] (fun v w => v = none ∧ ∃ (sz9 rc9 : Int32) (en9 : Nat → Int32) (sn9 : Nat → Int64) (nd9 ln9 : Nat → Int32), SRes ec (bF g t0) rc9 en9 nd9 ln9 ∧ w = [(t, ob 2 (sF t1 t2 t3 t4 sz9 rc9)), (t1, aI G 4624 en9), (t2, aJ G 256 sn9), (t3, aI G 16 nd9), (t4, aI G 16 ln9), (p, ob 0 (cF q1 q2 fb sb co le sp sw dp)), (q1, aI G 15 lk), (q2, aI G 16 ld)]) := by
  refine Con.mk (by decide +kernel) (Nat.le_of_ble_eq_true rfl) (fun P C Rr => ?_)
  obtain ⟨s1, s2, s3, s4, s5⟩ := id hS
  have hcl : ∀ t s t', V t → s < 5 → g t s = some t' → V t' := fun t s t' h1 h2 h3 => (s5 t s t' h1 h2 h3).1
  have hok : ∀ k, bOk g t0 V (bRun g t0 k) := bOk.run hcl h0
  have hlen : ∀ k, (bRun g t0 k).length ≤ 4624 := fun k => (hok k).len s3
  have outer : ∀ (m k : Nat) (x2 x3 x4 : Int32) (d le9 : Nat) (sz rc : Int32) (en : Nat → Int32) (sn : Nat → Int64) (nd ln : Nat → Int32), k + m = 4624 → x4 = nI k → x3 = nI le9 → x2 = nI d → SRel ec (bRun g t0 k) sz rc en sn nd ln → Lv (bRun g t0 k) k d le9 → P 0 0 22 [(0, .ref t), (1, .ref p), (2, .int x2), (3, .int x3), (4, .int x4)] [] [(t, ob 2 (sF t1 t2 t3 t4 sz rc)), (t1, aI G 4624 en), (t2, aJ G 256 sn), (t3, aI G 16 nd), (t4, aI G 16 ln), (p, ob 0 (cF q1 q2 fb sb co le sp sw dp)), (q1, aI G 15 lk), (q2, aI G 16 ld)] := by
    intro m
    induction m with
    | zero =>
      intro k x2 x3 x4 d le9 sz rc en sn nd ln hk hx4 hx3 hx2 hR hL
      have hkl : (bRun g t0 k).length ≤ k := by have := hlen k; omega
      refine st_iload C (dk DX3_run_0 15 rfl) rfl ?_
      refine st_aload_n C (dk DX3_run_0 16 rfl) rfl ?_
      refine st_get C fl_RX3_40 (dk DX3_run_0 17 rfl) 0 rfl rfl ?_
      refine st_icmp_ge C (tgt := 121) (dk DX3_run_0 18 rfl) (by decide) (fun c_28 => ?_) (fun c_28 => ?_)
      · exact Rr 0 0 _ _ _ _ _ _ (Nat.zero_le _) (Nat.zero_le _) (dk DX3_run_1 21 rfl) (.inl ⟨rfl, rfl, rfl, rfl⟩) rfl ⟨rfl, ⟨rfl, _, _, _, _, _, _, hR.res (by omega) (Or.inl hkl), rfl⟩⟩
      · exact absurd ((ge_nI (a := (bRun g t0 k).length) (i := k) (by omega) (by omega) hR.1 hx4).mpr hkl) c_28
    | succ m ihO =>
      intro k x2 x3 x4 d le9 sz rc en sn nd ln hk hx4 hx3 hx2 hR hL
      have hlk := hlen k
      refine st_iload C (dk DX3_run_0 15 rfl) rfl ?_
      refine st_aload_n C (dk DX3_run_0 16 rfl) rfl ?_
      refine st_get C fl_RX3_40 (dk DX3_run_0 17 rfl) 0 rfl rfl ?_
      refine st_icmp_ge C (tgt := 121) (dk DX3_run_0 18 rfl) (by decide) (fun c_28 => ?_) (fun c_28 => ?_)
      · exact Rr 0 0 _ _ _ _ _ _ (Nat.zero_le _) (Nat.zero_le _) (dk DX3_run_1 21 rfl) (.inl ⟨rfl, rfl, rfl, rfl⟩) rfl ⟨rfl, ⟨rfl, _, _, _, _, _, _, hR.res (by omega) (Or.inl ((ge_nI (a := (bRun g t0 k).length) (i := k) (by omega) (by omega) hR.1 hx4).mp c_28)), rfl⟩⟩
      · refine st_iload C (dk DX3_run_0 19 rfl) rfl ?_
        refine st_sipush C (v := 4624) (dk DX3_run_0 20 rfl) (by decide) ?_
        refine st_icmp_ge C (tgt := 121) (dk DX3_run_0 21 rfl) (by decide) (fun c_36 => ?_) (fun c_36 => ?_)
        · exact absurd ((ge_nI (a := 4624) (i := k) (by decide) (by omega) rfl hx4).mp c_36) (by omega)
        · have hkl : k < (bRun g t0 k).length := by
            have h9 := mt (ge_nI (a := (bRun g t0 k).length) (i := k) (by omega) (by omega) hR.1 hx4).mpr c_28
            omega
          obtain ⟨e0, he0⟩ : ∃ e, (bRun g t0 k)[k]? = some e := ⟨_, List.getElem?_eq_getElem hkl⟩
          have hde : dst (bRun g t0 k) k = e0.2.2.2 := by unfold dst; rw [eAt_get he0]
          have hVe : V e0.1 := (hok k).2.1 e0 (List.mem_of_getElem? he0)
          obtain ⟨c1, c2, c3⟩ := s1 e0.1 hVe
          have inner : ∀ (d le9 : Nat) (x2 x3 : Int32), x3 = nI le9 → x2 = nI d → e0.2.2.2 + 1 = d → k + 1 ≤ le9 → le9 ≤ (bRun g t0 k).length → (∀ i, k + 1 ≤ i → i < le9 → dst (bRun g t0 k) i + 1 = d) → ∀ (m s : Nat) (x5 x6 : Int32) (sz rc : Int32) (en : Nat → Int32) (sn : Nat → Int64) (nd ln : Nat → Int32), s + m = 5 → x5 = nI (ec e0.1) → x6 = nI s → SRel ec (bRow g (bRun g t0 k) k s) sz rc en sn nd ln → (∀ i, le9 ≤ i → i < (bRow g (bRun g t0 k) k s).length → dst (bRow g (bRun g t0 k) k s) i = d) → P 0 0 77 [(0, .ref t), (1, .ref p), (2, .int x2), (3, .int x3), (4, .int x4), (5, .int x5), (6, .int x6)] [] [(t, ob 2 (sF t1 t2 t3 t4 sz rc)), (t1, aI G 4624 en), (t2, aJ G 256 sn), (t3, aI G 16 nd), (t4, aI G 16 ln), (p, ob 0 (cF q1 q2 fb sb co le sp sw dp)), (q1, aI G 15 lk), (q2, aI G 16 ld)] := by
            intro d le9 x2 x3 hx3 hx2 hd hle1 hle2 hla m
            induction m with
            | zero =>
              intro s x5 x6 sz rc en sn nd ln hs hx5 hx6 hR hlb
              obtain rfl : s = 5 := by omega
              refine st_iload C (dk DX3_run_1 1 rfl) rfl ?_
              refine st_iconst C (v := 5) (dk DX3_run_1 2 rfl) (by decide) ?_
              refine st_icmp_ge C (tgt := 115) (dk DX3_run_1 3 rfl) (by decide) (fun c_80 => ?_) (fun c_80 => ?_)
              · refine st_iinc C (dk DX3_run_1 19 rfl) rfl (iadd_ofInt _ (1) (1) (by decide)) (by decide) rfl ?_
                refine st_goto C (tgt := 22) (dk DX3_run_1 20 rfl) (by decide) ?_
                refine st_lv C [0, 1, 2, 3, 4] rfl ?_
                obtain ⟨Z, hZ⟩ := bRow_ext g (bRun g t0 k) k 5
                exact ihO (k + 1) _ _ _ d le9 _ _ _ _ _ _ (by omega) (up_nI hx4) hx3 hx2 hR ⟨hle1, by show le9 ≤ (bRow g (bRun g t0 k) k 5).length; rw [hZ, List.length_append]; omega, fun i h1 h2 => by show dst (bRow g (bRun g t0 k) k 5) i + 1 = d; rw [hZ, dst_app (by omega)]; exact hla i h1 h2, fun i h1 h2 => hlb i h1 h2⟩
              · exact absurd ((ge_nI (a := 5) (i := 5) (by decide) (by decide) rfl hx6).mpr (Nat.le_refl _)) c_80
            | succ m ih =>
              intro s x5 x6 sz rc en sn nd ln hs hx5 hx6 hR hlb
              refine st_iload C (dk DX3_run_1 1 rfl) rfl ?_
              refine st_iconst C (v := 5) (dk DX3_run_1 2 rfl) (by decide) ?_
              refine st_icmp_ge C (tgt := 115) (dk DX3_run_1 3 rfl) (by decide) (fun c_80 => ?_) (fun c_80 => ?_)
              · exact absurd ((ge_nI (a := 5) (i := s) (by decide) (by omega) rfl hx6).mp c_80) (by omega)
              · refine st_aload_n C (dk DX3_run_1 4 rfl) rfl ?_
                refine st_iload C (dk DX3_run_1 5 rfl) rfl ?_
                refine st_iload C (dk DX3_run_1 6 rfl) rfl ?_
                refine st_cV C (k_X1_after l G) mf_X1_after mi_X1_after ml_RX3_50 (dk DX3_run_1 7 rfl) [5, 6, 7] rfl rfl rfl rfl (Nat.le_of_ble_eq_true rfl) rfl rfl ⟨Nat.le_of_ble_eq_true rfl, Nat.le_of_ble_eq_true rfl⟩ ⟨Nat.zero_le _, Nat.zero_le _⟩ (fun r9 w9 hq9 => ?_)
                obtain ⟨rfl, rfl⟩ := hq9
                refine st_istore C (dk DX3_run_1 8 rfl) (by decide) rfl ?_
                refine st_iload C (dk DX3_run_1 9 rfl) rfl ?_
                refine st_if_lt C (tgt := 109) (dk DX3_run_1 10 rfl) (by decide) (fun c_95 => ?_) (fun c_95 => ?_)
                · refine st_iinc C (dk DX3_run_1 17 rfl) rfl (iadd_ofInt _ (1) (1) (by decide)) (by decide) rfl ?_
                  refine st_goto C (tgt := 77) (dk DX3_run_1 18 rfl) (by decide) ?_
                  refine st_lv C [0, 1, 2, 3, 4, 5, 6] rfl ?_
                  have hg : g e0.1 s = none := by
                    cases hg : g e0.1 s with
                    | none => rfl
                    | some u =>
                      have h9 := (s5 e0.1 s u hVe (by omega) hg).2
                      rw [hx5, hx6, h9] at c_95
                      exact absurd c_95 (nI_pos (by have := (s1 u (s5 e0.1 s u hVe (by omega) hg).1).2.1; omega))
                  exact ih (s + 1) _ _ _ _ _ _ _ _ (by omega) hx5 (up_nI hx6) (by rw [bRow_none he0 hg]; exact hR) (by rw [bRow_none he0 hg]; exact hlb)
                · obtain ⟨u, hg⟩ : ∃ u, g e0.1 s = some u := by
                    cases hg : g e0.1 s with
                    | none =>
                      have h9 := s4 e0.1 s hVe (by omega) hg
                      rw [← hx5, ← hx6] at h9
                      exact absurd h9 c_95
                    | some u => exact ⟨u, rfl⟩
                  obtain ⟨sz9, rc9, en9, sn9, nd9, ln9, hA9, hR9⟩ := SRel.row (G := G) hS (hok k) he0 (by omega) hg t t1 t2 t3 t4 hR hd
                  rw [← hx5, ← hx6, ← hx4, ← hx2] at hA9
                  refine st_aload_n C (dk DX3_run_1 11 rfl) rfl ?_
                  refine st_iload C (dk DX3_run_1 12 rfl) rfl ?_
                  refine st_iload C (dk DX3_run_1 13 rfl) rfl ?_
                  refine st_iload C (dk DX3_run_1 14 rfl) rfl ?_
                  refine st_iload_n C (dk DX3_run_1 15 rfl) rfl ?_
                  refine st_cV C (k_X3_add l G (szpos hR.1 (by have := ((hok k).row hcl (k := k) s (by omega)).len s3; omega))) mf_X3_add mi_X3_add ml_RX3_36 (dk DX3_run_1 16 rfl) [0, 1, 2, 3, 4] rfl rfl rfl rfl (Nat.le_of_ble_eq_true rfl) rfl rfl ⟨Nat.le_of_ble_eq_true rfl, Nat.le_of_ble_eq_true rfl⟩ ⟨Nat.zero_le _, Nat.zero_le _⟩ (fun r9 w9 hq9 => ?_)
                  obtain ⟨rfl, rfl⟩ := hq9
                  rw [hA9]
                  refine st_iinc C (dk DX3_run_1 17 rfl) rfl (iadd_ofInt _ (1) (1) (by decide)) (by decide) rfl ?_
                  refine st_goto C (tgt := 77) (dk DX3_run_1 18 rfl) (by decide) ?_
                  refine st_lv C [0, 1, 2, 3, 4, 5, 6] rfl ?_
                  exact ih (s + 1) _ _ _ _ _ _ _ _ (by omega) hx5 (up_nI hx6) hR9 (by rw [bRow_some he0 hg, hd]; exact bAdd_dst hlb)
          have J62 : ∀ (d le9 : Nat) (x2 x3 : Int32), x3 = nI le9 → x2 = nI d → e0.2.2.2 + 1 = d → k + 1 ≤ le9 → le9 ≤ (bRun g t0 k).length → (∀ i, k + 1 ≤ i → i < le9 → dst (bRun g t0 k) i + 1 = d) → (∀ i, le9 ≤ i → i < (bRun g t0 k).length → dst (bRun g t0 k) i = d) → P 0 0 62 [(0, .ref t), (1, .ref p), (2, .int x2), (3, .int x3), (4, .int x4)] [] [(t, ob 2 (sF t1 t2 t3 t4 sz rc)), (t1, aI G 4624 en), (t2, aJ G 256 sn), (t3, aI G 16 nd), (t4, aI G 16 ln), (p, ob 0 (cF q1 q2 fb sb co le sp sw dp)), (q1, aI G 15 lk), (q2, aI G 16 ld)] := by
            intro d le9 x2 x3 hx3 hx2 hd hle1 hle2 hla hlb
            refine st_aload_n C (dk DX3_run_0 33 rfl) rfl ?_
            refine st_get C fl_RX3_11 (dk DX3_run_0 34 rfl) 0 rfl rfl ?_
            refine st_iload C (dk DX3_run_0 35 rfl) rfl ?_
            refine st_iald C (dk DX3_run_0 36 rfl) 1 rfl (vp_nI hx4 (by omega : k < 4624) (by decide)) ?_
            refine st_cS C (k_X3_codeOf l G) mf_X3_codeOf ms_X3_codeOf ml_RX3_46 (dk DX3_run_0 37 rfl) [] rfl rfl rfl rfl (Nat.le_of_ble_eq_true rfl) ⟨Nat.le_of_ble_eq_true rfl, Nat.le_of_ble_eq_true rfl⟩ ⟨Nat.zero_le _, Nat.zero_le _⟩ (fun r9 w9 hq9 => ?_)
            obtain ⟨rfl, rfl⟩ := hq9
            refine st_istore C (dk DX3_run_0 38 rfl) (by decide) rfl ?_
            refine st_iconst C (v := 0) (dk DX3_run_0 39 rfl) (by decide) ?_
            refine st_istore C (dk DX3_run_1 0 rfl) (by decide) rfl ?_
            exact inner d le9 _ _ hx3 hx2 hd hle1 hle2 hla 5 0 _ _ _ _ _ _ _ _ (by omega) (by rw [cl_nI hx4 (by omega), hR.2.2.1 k e0 he0, rCde_nI (by unfold ee; have := eeb hok s3 k he0; omega)]; congr 1; unfold ee; omega) rfl hR hlb
          refine st_aload_n C (dk DX3_run_0 22 rfl) rfl ?_
          refine st_get C fl_RX3_43 (dk DX3_run_0 23 rfl) 0 rfl rfl ?_
          refine st_bipush C (v := 16) (dk DX3_run_0 24 rfl) (by decide) ?_
          refine st_icmp_ge C (tgt := 121) (dk DX3_run_0 25 rfl) (by decide) (fun c_45 => ?_) (fun c_45 => ?_)
          · exact Rr 0 0 _ _ _ _ _ _ (Nat.zero_le _) (Nat.zero_le _) (dk DX3_run_1 21 rfl) (.inl ⟨rfl, rfl, rfl, rfl⟩) rfl ⟨rfl, ⟨rfl, _, _, _, _, _, _, hR.res (by omega) (Or.inr (by have h9 := cnt_le (bRun g t0 k) 16; have h8 := (ge_nI (a := 16) (i := cnt (bRun g t0 k) 16) (by decide) (by omega) rfl hR.2.1).mp c_45; omega)), rfl⟩⟩
          · refine st_iload C (dk DX3_run_0 26 rfl) rfl ?_
            refine st_iload_n C (dk DX3_run_0 27 rfl) rfl ?_
            refine st_icmp_ne C (tgt := 62) (dk DX3_run_0 28 rfl) (by decide) (fun c_51 => ?_) (fun c_51 => ?_)
            · have hne : ¬ k = le9 := fun h => c_51 ((eq_nI (a := k) (i := le9) (by omega) (by have := hL.2.1; omega) hx4 hx3).mpr h)
              obtain ⟨l1, l2, l3, l4⟩ := hL
              exact J62 d le9 _ _ hx3 hx2 (by rw [← hde]; exact l3 k (Nat.le_refl _) (by omega)) (by omega) l2 (fun i h1 h2 => l3 i (by omega) h2) l4
            · refine st_iinc C (dk DX3_run_0 29 rfl) rfl (iadd_ofInt _ (1) (1) (by decide)) (by decide) rfl ?_
              refine st_aload_n C (dk DX3_run_0 30 rfl) rfl ?_
              refine st_get C fl_RX3_40 (dk DX3_run_0 31 rfl) 0 rfl rfl ?_
              refine st_istore_n C (dk DX3_run_0 32 rfl) (by decide) rfl ?_
              have heq : k = le9 := (eq_nI (a := k) (i := le9) (by omega) (by have := hL.2.1; omega) hx4 hx3).mp c_51
              obtain ⟨l1, l2, l3, l4⟩ := hL
              exact J62 (d + 1) (bRun g t0 k).length _ _ hR.1 (up_nI hx2) (by rw [← hde, l4 k (by omega) hkl]) (by omega) (Nat.le_refl _) (fun i h1 h2 => by rw [l4 i (by omega) h2]) (fun i h1 h2 => by omega)
  refine st_aload_n C (dk DX3_run_0 0 rfl) rfl ?_
  refine st_cV C (k_X3_forget l G) mf_X3_forget mi_X3_forget ml_RX3_27 (dk DX3_run_0 1 rfl) [0, 2, 3, 4] rfl rfl rfl rfl (Nat.le_of_ble_eq_true rfl) rfl rfl ⟨Nat.le_of_ble_eq_true rfl, Nat.le_of_ble_eq_true rfl⟩ ⟨Nat.zero_le _, Nat.zero_le _⟩ (fun r9 w9 hq9 => ?_)
  obtain ⟨rfl, sn1, nd1, ln1, hsn1, hnd1, hln1, rfl⟩ := hq9
  obtain ⟨sz9, rc9, en9, sn9, nd9, ln9, hA9, hR9⟩ := SRel.add (G := G) (c := 0) (V := V) (s := 0) (b := 0) (d := 0) (u := t0) t t1 t2 t3 t4 (SRel.nil ec en hsn1 hnd1 hln1) (fun e he => absurd he List.not_mem_nil) h0 s2 (s1 t0 h0).1 (s1 t0 h0).2.1 (s1 t0 h0).2.2 (by omega) (by omega) (fun _ => by decide) (by decide) (fun i hi => absurd hi (Nat.not_lt_zero i))
  rw [← hco, nI_0] at hA9
  refine st_aload_n C (dk DX3_run_0 2 rfl) rfl ?_
  refine st_aload_n C (dk DX3_run_0 3 rfl) rfl ?_
  refine st_get C fl_RX3_30 (dk DX3_run_0 4 rfl) 5 rfl rfl ?_
  refine st_iconst C (v := 0) (dk DX3_run_0 5 rfl) (by decide) ?_
  refine st_iconst C (v := 0) (dk DX3_run_0 6 rfl) (by decide) ?_
  refine st_iconst C (v := 0) (dk DX3_run_0 7 rfl) (by decide) ?_
  refine st_cV C (k_X3_add l G (by decide)) mf_X3_add mi_X3_add ml_RX3_36 (dk DX3_run_0 8 rfl) [0, 1, 2, 3, 4] rfl rfl rfl rfl (Nat.le_of_ble_eq_true rfl) rfl rfl ⟨Nat.le_of_ble_eq_true rfl, Nat.le_of_ble_eq_true rfl⟩ ⟨Nat.zero_le _, Nat.zero_le _⟩ (fun r9 w9 hq9 => ?_)
  obtain ⟨rfl, rfl⟩ := hq9
  rw [hA9]
  refine st_iconst C (v := 1) (dk DX3_run_0 9 rfl) (by decide) ?_
  refine st_istore_n C (dk DX3_run_0 10 rfl) (by decide) rfl ?_
  refine st_iconst C (v := 1) (dk DX3_run_0 11 rfl) (by decide) ?_
  refine st_istore_n C (dk DX3_run_0 12 rfl) (by decide) rfl ?_
  refine st_iconst C (v := 0) (dk DX3_run_0 13 rfl) (by decide) ?_
  refine st_istore C (dk DX3_run_0 14 rfl) (by decide) rfl ?_
  exact outer 4624 0 _ _ _ 1 1 _ _ _ _ _ _ (by omega) rfl rfl rfl hR9 ⟨by omega, by simp [bRun], fun i h1 h2 => by have h3 : i = 0 := (by omega); subst h3; rfl, fun i h1 h2 => by simp [bRun] at h2; omega⟩
end
section
/-! the state as numbers (0 length of a floor, 1 cell, 2 hand, 3 steps, 4 changes, 5 doors, 6.. keys, 22.. locks, 37.. ladders), and the graph of codes -/
abbrev mS : Type := Nat → Nat
def kAt (s : mS) (a : Nat) : Nat := if a = 16 then s 2 else s (6 + a)
def upN (s : mS) (c : Nat) : Option Nat := if 2 * s 0 * (c / s 0 + 1) - 1 - c < 16 ∧ 0 < s (37 + c) + s (37 + (2 * s 0 * (c / s 0 + 1) - 1 - c)) then some (2 * s 0 * (c / s 0 + 1) - 1 - c) else none
def dnN (s : mS) (c : Nat) : Option Nat := if c / s 0 = 0 then none else if 2 * s 0 * (c / s 0) - 1 - c < 16 ∧ 0 < s (37 + c) + s (37 + (2 * s 0 * (c / s 0) - 1 - c)) then some (2 * s 0 * (c / s 0) - 1 - c) else none
def ldN (s : mS) (c st : Nat) : Option Nat := if st = 0 then (if c = 0 then none else some (c - 1)) else if st = 1 then (if c + 1 < 16 then some (c + 1) else none) else if st = 2 then dnN s c else upN s c
def wyN (s : mS) (c st : Nat) : Nat := if st = 0 then s (22 + (c - 1)) else if st = 1 then s (22 + c) else 0
def hbN (b1 b2 : Nat) (t : bT) : Nat := if 0 < b1 ∧ t.2.1 = 16 then b1 else if 0 < b2 ∧ t.2.2 = 16 then b2 else 0
def mvN (b a c : Nat) : Nat := if 0 < b ∧ (a = c ∨ a = 16) then (if a = c then 16 else c) else a
def gM (s : mS) (b1 b2 : Nat) (t : bT) (st : Nat) : Option bT :=
  if st = 4 then (if (0 < b1 ∧ (t.2.1 = t.1 ∨ t.2.1 = 16)) ∨ (0 < b2 ∧ (t.2.2 = t.1 ∨ t.2.2 = 16)) then some (t.1, mvN b1 t.2.1 t.1, mvN b2 t.2.2 t.1) else none)
  else match ldN s t.1 st with
    | none => none
    | some nx => if wyN s t.1 st = 0 ∨ wyN s t.1 st = hbN b1 b2 t then some (nx, t.2.1, t.2.2) else none
def vM (b1 b2 : Nat) (t : bT) : Prop := t.1 < 16 ∧ t.2.1 ≤ 16 ∧ t.2.2 ≤ 16 ∧ (b1 = 0 → t.2.1 = 0) ∧ (b2 = 0 → t.2.2 = 0) ∧ (0 < b2 → t.2.1 ≠ t.2.2)
def emN (t : bT) : Nat := 289 * t.1 + 17 * t.2.1 + t.2.2
theorem nd_len : ∀ (n : Nat) (L : List Nat), L.Nodup → (∀ x ∈ L, x < n) → L.length ≤ n
  | 0, L, _, h => by
    cases L with
    | nil => exact Nat.le_refl _
    | cons a l => exact absurd (h a List.mem_cons_self) (Nat.not_lt_zero a)
  | n + 1, L, hn, h => by
    have h1 := nd_len n (L.erase n) (hn.erase n) (fun x hx => by
      have h2 := (List.Nodup.mem_erase_iff hn).mp hx
      have := h x h2.2
      omega)
    rw [List.length_erase] at h1
    split at h1 <;> omega
theorem emN_lt {b1 b2 : Nat} {t : bT} (h : vM b1 b2 t) : emN t < 4624 := by obtain ⟨h1, h2, h3, -⟩ := h; unfold emN; omega
theorem emN_inj {b1 b2 : Nat} {t u : bT} (h : vM b1 b2 t) (h' : vM b1 b2 u) (e : emN t = emN u) : t = u := by
  obtain ⟨h1, h2, h3, -⟩ := h
  obtain ⟨g1, g2, g3, -⟩ := h'
  obtain ⟨a, b, c⟩ := t
  obtain ⟨x, y, z⟩ := u
  unfold emN at e
  simp only at *
  have e1 : a = x := by omega
  have e2 : b = y := by omega
  have e3 : c = z := by omega
  rw [e1, e2, e3]
theorem nodup_map {α β : Type} {f : α → β} {L : List α} (hn : L.Nodup) (h : ∀ a ∈ L, ∀ b ∈ L, f a = f b → a = b) : (L.map f).Nodup := by
  induction L with
  | nil => simp
  | cons a l ih =>
    rw [List.nodup_cons] at hn
    rw [List.map_cons, List.nodup_cons]
    refine ⟨fun hm => ?_, ih hn.2 (fun x hx y hy => h x (List.mem_cons_of_mem _ hx) y (List.mem_cons_of_mem _ hy))⟩
    obtain ⟨b, hb, he⟩ := List.mem_map.mp hm
    have := h b (List.mem_cons_of_mem _ hb) a List.mem_cons_self he
    subst this
    exact hn.1 hb
theorem vM_len {b1 b2 : Nat} (L : List bT) (hn : L.Nodup) (h : ∀ t ∈ L, vM b1 b2 t) : L.length ≤ 4624 := by
  have h1 : (L.map emN).Nodup := nodup_map hn (fun a ha b hb => emN_inj (h a ha) (h b hb))
  have h2 := nd_len 4624 _ h1 (fun x hx => by
    obtain ⟨t, ht, rfl⟩ := List.mem_map.mp hx
    exact emN_lt (h t ht))
  simpa using h2
theorem ldN_lt {s : mS} {c st nx : Nat} (hc : c < 16) (h : ldN s c st = some nx) : nx < 16 := by
  unfold ldN dnN upN at h
  split at h
  · split at h
    · cases h
    · have := Option.some.inj h; omega
  · split at h
    · split at h
      · have := Option.some.inj h; omega
      · cases h
    · split at h
      · split at h
        · cases h
        · split at h
          · rename_i h1; have := Option.some.inj h; omega
          · cases h
      · split at h
        · rename_i h1; have := Option.some.inj h; omega
        · cases h
theorem vM_step {s : mS} {b1 b2 : Nat} {t t' : bT} {st : Nat} (hb12 : 0 < b2 → 0 < b1) (h : vM b1 b2 t) (hg : gM s b1 b2 t st = some t') : vM b1 b2 t' := by
  obtain ⟨h1, h2, h3, h4, h5, h6⟩ := h
  obtain ⟨c, o, w⟩ := t
  simp only at *
  unfold gM at hg
  split at hg
  · split at hg
    · have e := Option.some.inj hg
      rw [← e]
      refine ⟨h1, ?_, ?_, ?_, ?_, ?_⟩
      · show mvN b1 o c ≤ 16; unfold mvN; split <;> (try split) <;> omega
      · show mvN b2 w c ≤ 16; unfold mvN; split <;> (try split) <;> omega
      · intro hb; show mvN b1 o c = 0; unfold mvN; rw [if_neg (by omega)]; exact h4 hb
      · intro hb; show mvN b2 w c = 0; unfold mvN; rw [if_neg (by omega)]; exact h5 hb
      · intro hb
        have := h6 hb
        show mvN b1 o c ≠ mvN b2 w c
        have hb1 := hb12 hb
        unfold mvN
        split <;> split <;> (try split) <;> (try split) <;> simp only at * <;> omega
    · cases hg
  · split at hg
    · cases hg
    · rename_i nx hnx
      split at hg
      · have e := Option.some.inj hg
        rw [← e]
        exact ⟨ldN_lt h1 hnx, h2, h3, h4, h5, h6⟩
      · cases hg
/-- the landed class's code of a triple: k1, k2 the bows of its two keys, sw whether they stand the other way round -/
def ecN (k1 k2 : Nat) (sw : Bool) (t : bT) : Nat := t.1 + 16 * (if k1 = 0 then 17 else if sw then t.2.2 else t.2.1) + 512 * (if k2 = 0 then 17 else if sw then t.2.1 else t.2.2)
def swOk (k1 k2 b1 b2 : Nat) (sw : Bool) : Prop := if sw = true then k1 = b2 ∧ k2 = b1 else k1 = b1 ∧ k2 = b2
theorem ecN_parts {b1 b2 k1 k2 : Nat} {sw : Bool} {t : bT} (h : vM b1 b2 t) : ∃ f g, ecN k1 k2 sw t = t.1 + 16 * f + 512 * g ∧ f ≤ 17 ∧ g ≤ 17 ∧ f = (if k1 = 0 then 17 else if sw then t.2.2 else t.2.1) ∧ g = (if k2 = 0 then 17 else if sw then t.2.1 else t.2.2) := by
  obtain ⟨h1, h2, h3, -⟩ := h
  refine ⟨_, _, rfl, ?_, ?_, rfl, rfl⟩ <;> (split <;> (try split) <;> omega)
theorem ecN_inj {b1 b2 k1 k2 : Nat} {sw : Bool} (hsw : swOk k1 k2 b1 b2 sw) {t u : bT} (h : vM b1 b2 t) (h' : vM b1 b2 u) (e : ecN k1 k2 sw t = ecN k1 k2 sw u) : t = u := by
  obtain ⟨f, g, e1, l1, l2, ef, eg⟩ := ecN_parts (k1 := k1) (k2 := k2) (sw := sw) h
  obtain ⟨f', g', e1', l1', l2', ef', eg'⟩ := ecN_parts (k1 := k1) (k2 := k2) (sw := sw) h'
  rw [e1, e1'] at e
  obtain ⟨h1, h2, h3, h4, h5, -⟩ := h
  obtain ⟨g1, g2, g3, g4, g5, -⟩ := h'
  obtain ⟨a, b, c⟩ := t
  obtain ⟨x, y, z⟩ := u
  simp only at *
  have q1 : a = x := by omega
  have q2 : f = f' := by omega
  have q3 : g = g' := by omega
  subst q1
  rw [ef, ef'] at q2
  rw [eg, eg'] at q3
  unfold swOk at hsw
  have q4 : b = y ∧ c = z := by
    cases sw <;> simp at hsw q2 q3 <;> obtain ⟨r1, r2⟩ := hsw <;> subst r1 <;> subst r2 <;> (split at q2 <;> split at q3 <;> constructor <;> simp_all)
  rw [q4.1, q4.2]
theorem rFst_ec {x f g : Nat} (hx : x < 16) (hf : f ≤ 17) (hg : g ≤ 17) : rFst (nI (x + 16 * f + 512 * g)) = nI f := by rw [rFst_nI (by omega)]; congr 1; omega
theorem rSnd_ec {x f g : Nat} (hx : x < 16) (hf : f ≤ 17) (hg : g ≤ 17) : rSnd (nI (x + 16 * f + 512 * g)) = nI g := by rw [rSnd_nI (by omega)]; congr 1; omega
theorem rCell_ec {x f g : Nat} (hx : x < 16) (hf : f ≤ 17) (hg : g ≤ 17) : rCell (nI (x + 16 * f + 512 * g)) = nI x := by rw [rCell_nI (by omega)]; congr 1; omega
def bwN (k1 k2 f g a : Nat) : Nat := if f = a then k1 else if g = a then k2 else 0
theorem rBow_ec {x f g k1 k2 a : Nat} (hx : x < 16) (hf : f ≤ 17) (hg : g ≤ 17) (ha : a ≤ 17) : rBow (nI k1) (nI k2) (nI (x + 16 * f + 512 * g)) (nI a) = nI (bwN k1 k2 f g a) := by
  unfold rBow bwN
  rw [rFst_ec hx hf hg, rSnd_ec hx hf hg]
  by_cases h1 : f = a
  · subst h1; simp
  · rw [if_neg (fun h => h1 ((nI_eq (by omega) (by omega)).mp h)), if_neg h1]
    by_cases h2 : g = a
    · subst h2; simp
    · rw [if_neg (fun h => h2 ((nI_eq (by omega) (by omega)).mp h)), if_neg h2]; rfl
theorem rMov_ec {x f g c : Nat} (hx : x < 16) (hf : f ≤ 17) (hg : g ≤ 17) (hc : c < 16) : rMov (nI (x + 16 * f + 512 * g)) (nI c) = nI (c + 16 * f + 512 * g) := by
  unfold rMov; rw [rFst_ec hx hf hg, rSnd_ec hx hf hg, rOf_nI hc (by omega) (by omega)]
def swN (a c : Nat) : Nat := if a = 16 then c else if a = c then 16 else a
theorem rSwP_nI {a c : Nat} (ha : a ≤ 17) (hc : c < 16) : rSwP (nI a) (nI c) = nI (swN a c) := by
  unfold rSwP swN
  by_cases h1 : a = 16
  · subst h1; rfl
  · rw [if_neg (show ¬ nI a = 16 from fun h => h1 ((eq_nI (a := a) (i := 16) (by omega) (by decide) rfl rfl).mp h)), if_neg h1]
    by_cases h2 : a = c
    · subst h2; rw [if_pos rfl, if_pos rfl]; rfl
    · rw [if_neg (fun h => h2 ((nI_eq (by omega) (by omega)).mp h)), if_neg h2]
theorem swN_le {a c : Nat} (ha : a ≤ 17) (hc : c < 16) : swN a c ≤ 17 := by unfold swN; split <;> (try split) <;> omega
theorem rSwp_ec {x f g : Nat} (hx : x < 16) (hf : f ≤ 17) (hg : g ≤ 17) : rSwp (nI (x + 16 * f + 512 * g)) = nI (x + 16 * swN f x + 512 * swN g x) := by
  unfold rSwp
  have h1 := swN_le hf hx
  have h2 := swN_le hg hx
  rw [rFst_ec hx hf hg, rSnd_ec hx hf hg, rCell_ec hx hf hg, rSwP_nI hf hx, rSwP_nI hg hx, rOf_nI hx (by omega) (by omega)]
theorem rIn_nI {c n : Nat} {m : Int32} (hc : c < 2 ^ 31) (hn : n < 2 ^ 31) (hm : m = nI n) : rIn (nI c) m = if c < n then 1 else 0 := by
  unfold rIn
  rw [if_neg (nI_pos hc)]
  subst hm
  by_cases h : c < n
  · rw [if_neg (fun h9 => by have := (nI_leI hn hc).mp h9; omega), if_pos h]
  · rw [if_pos ((nI_leI hn hc).mpr (by omega)), if_neg h]
theorem rLock_nI {lk : Nat → Int32} {c : Nat} (hc : c < 15) : rLock lk (nI c) = lk c := by
  unfold rLock
  rw [rIn_nI (n := 15) (m := 15) (by omega) (by decide) rfl, if_pos hc, if_neg (by decide), nI_clamp (by omega)]
theorem rFloor_nI {L c : Nat} (hL : 0 < L) (hL2 : L < 2 ^ 31) (hc : c < 2 ^ 31) : rFloor (nI L) (nI c) = nI (c / L) := by
  unfold rFloor
  rw [if_neg (nI_nle hL hL2), pk_div hc hL hL2]
def opI (o : Option Nat) : Int32 := match o with
  | none => -1
  | some k => nI k
theorem rByL_nI {ld : Nat → Int32} {d : Nat → Nat} (hd : ∀ j, j < 16 → ld j = nI (d j)) (hd2 : ∀ j, j < 16 → d j ≤ 1) {c o : Nat} (hc : c < 16) (ho : o < 2 ^ 31) : rByL ld (nI c) (nI o) = opI (if o < 16 ∧ 0 < d c + d o then some o else none) := by
  unfold rByL
  rw [if_neg (nI_pos (by omega)), if_neg (fun h => by have := (ge_nI (a := 16) (i := c) (by decide) (by omega) rfl rfl).mp h; omega), if_neg (nI_pos ho)]
  have e16 : (nI o < 16) ↔ o < 16 := lt_nI (a := o) (i := 16) (by omega) (by decide) rfl rfl
  by_cases h : o < 16
  · rw [if_pos (e16.mpr h), nI_clamp (by omega), nI_clamp (by omega), hd c hc, hd o h]
    have hz : ∀ j, j < 16 → (nI (d j) = 0 ↔ d j = 0) := fun j hj => eq_nI (a := d j) (i := 0) (by have := hd2 j hj; omega) (by decide) rfl rfl
    by_cases h1 : d c = 0
    · rw [if_pos ((hz c hc).mpr h1)]
      by_cases h2 : d o = 0
      · rw [if_pos ((hz o h).mpr h2), if_neg (by omega)]; rfl
      · rw [if_neg (fun h9 => h2 ((hz o h).mp h9)), if_pos ⟨h, by omega⟩]; rfl
    · rw [if_neg (fun h9 => h1 ((hz c hc).mp h9)), if_pos ⟨h, by omega⟩]; rfl
  · rw [if_neg (fun h9 => h (e16.mp h9)), if_neg (fun h9 => h h9.1)]; rfl
theorem above_ge {L c : Nat} (hL : 0 < L) : c + 1 ≤ 2 * L * (c / L + 1) := by
  have h1 := Nat.div_add_mod c L
  have h2 := Nat.mod_lt c hL
  have h3 : 2 * L * (c / L + 1) = 2 * (L * (c / L)) + 2 * L := by rw [Nat.mul_add, Nat.mul_assoc, Nat.mul_one]
  omega
theorem below_ge {L c : Nat} (hL : 0 < L) (h0 : ¬ c / L = 0) : c + 1 ≤ 2 * L * (c / L) := by
  have h1 := Nat.div_add_mod c L
  have h2 := Nat.mod_lt c hL
  have h3 : 2 * L * (c / L) = 2 * (L * (c / L)) := by rw [Nat.mul_assoc]
  have h4 : L * 1 ≤ L * (c / L) := Nat.mul_le_mul_left L (Nat.pos_of_ne_zero h0)
  omega
theorem rAbove_nI {ld : Nat → Int32} {s : mS} (hd : ∀ j, j < 16 → ld j = nI (s (37 + j))) (hd2 : ∀ j, j < 16 → s (37 + j) ≤ 1) (hL : 2 ≤ s 0) (hL2 : s 0 ≤ 8) {c : Nat} (hc : c < 16) : rAbove ld (nI (s 0)) (nI c) = opI (upN s c) := by
  unfold rAbove
  have h9 := above_ge (L := s 0) (c := c) (by omega)
  have hb : c / s 0 ≤ c := Nat.div_le_self c _
  have hb2 : 2 * s 0 * (c / s 0 + 1) ≤ 16 * 17 := Nat.mul_le_mul (by omega) (by omega)
  rw [rFloor_nI (by omega) (by omega) (by omega), show (2 : Int32) = nI 2 from rfl, pk_mul, nI_1, pk_mul, show (1 : Int32) = nI 1 from rfl, pk_sub (by omega), pk_sub (by omega), rByL_nI (d := fun j => s (37 + j)) hd hd2 hc (by omega)]
  rfl
theorem rBelow_nI {ld : Nat → Int32} {s : mS} (hd : ∀ j, j < 16 → ld j = nI (s (37 + j))) (hd2 : ∀ j, j < 16 → s (37 + j) ≤ 1) (hL : 2 ≤ s 0) (hL2 : s 0 ≤ 8) {c : Nat} (hc : c < 16) : rBelow ld (nI (s 0)) (nI c) = opI (dnN s c) := by
  unfold rBelow dnN
  have hb : c / s 0 ≤ c := Nat.div_le_self c _
  have hb2 : 2 * s 0 * (c / s 0) ≤ 16 * 16 := Nat.mul_le_mul (by omega) (by omega)
  rw [rFloor_nI (by omega) (by omega) (by omega), show (2 : Int32) = nI 2 from rfl, pk_mul, pk_mul, show (1 : Int32) = nI 1 from rfl]
  by_cases h0 : c / s 0 = 0
  · rw [if_pos h0, h0, Nat.mul_zero]
    have hneg : nI 0 - nI 1 - nI c < 0 := by
      rw [show nI 0 - nI 1 = -nI 1 by decide]
      rw [Int32.lt_iff_toInt_lt]
      have : ∀ c, c < 16 → (-nI 1 - nI c).toInt < (0 : Int32).toInt := by decide +kernel
      exact this c hc
    unfold rByL
    rw [if_neg (nI_pos (by omega)), if_neg (fun h => by have := (ge_nI (a := 16) (i := c) (by decide) (by omega) rfl rfl).mp h; omega), if_pos hneg]
    rfl
  · have h9 := below_ge (L := s 0) (c := c) (by omega) h0
    rw [if_neg h0, pk_sub (by omega), pk_sub (by omega), rByL_nI (d := fun j => s (37 + j)) hd hd2 hc (by omega)]
end
section
/-! the landed class's steps are the graph's -/
theorem bw_hand {b1 b2 k1 k2 : Nat} {sw : Bool} (hsw : swOk k1 k2 b1 b2 sw) {t : bT} (h : vM b1 b2 t) : bwN k1 k2 (if k1 = 0 then 17 else if sw then t.2.2 else t.2.1) (if k2 = 0 then 17 else if sw then t.2.1 else t.2.2) 16 = hbN b1 b2 t := by
  obtain ⟨h1, h2, h3, h4, h5, h6⟩ := h
  obtain ⟨c, o, w⟩ := t
  unfold swOk at hsw
  unfold bwN hbN
  cases sw <;> simp at hsw h1 h2 h3 h4 h5 h6 ⊢ <;> grind
theorem bw_none {b1 b2 k1 k2 : Nat} {sw : Bool} (hsw : swOk k1 k2 b1 b2 sw) {t : bT} (h : vM b1 b2 t) : (bwN k1 k2 (if k1 = 0 then 17 else if sw then t.2.2 else t.2.1) (if k2 = 0 then 17 else if sw then t.2.1 else t.2.2) 16 = 0 ∧ bwN k1 k2 (if k1 = 0 then 17 else if sw then t.2.2 else t.2.1) (if k2 = 0 then 17 else if sw then t.2.1 else t.2.2) t.1 = 0) ↔ ¬ ((0 < b1 ∧ (t.2.1 = t.1 ∨ t.2.1 = 16)) ∨ (0 < b2 ∧ (t.2.2 = t.1 ∨ t.2.2 = 16))) := by
  obtain ⟨h1, h2, h3, h4, h5, h6⟩ := h
  obtain ⟨c, o, w⟩ := t
  unfold swOk at hsw
  unfold bwN
  cases sw <;> simp at hsw h1 h2 h3 h4 h5 h6 ⊢ <;> grind
theorem sw_ec {b1 b2 k1 k2 : Nat} {sw : Bool} (hsw : swOk k1 k2 b1 b2 sw) {t : bT} (h : vM b1 b2 t) : t.1 + 16 * swN (if k1 = 0 then 17 else if sw then t.2.2 else t.2.1) t.1 + 512 * swN (if k2 = 0 then 17 else if sw then t.2.1 else t.2.2) t.1 = ecN k1 k2 sw (t.1, mvN b1 t.2.1 t.1, mvN b2 t.2.2 t.1) := by
  obtain ⟨h1, h2, h3, h4, h5, h6⟩ := h
  obtain ⟨c, o, w⟩ := t
  unfold swOk at hsw
  unfold swN ecN mvN
  cases sw <;> simp at hsw h1 h2 h3 h4 h5 h6 ⊢ <;> grind
theorem opI_lt {o : Option Nat} (h : ∀ k, o = some k → k < 16) : opI o = -1 ↔ o = none := by
  cases o with
  | none => simp [opI]
  | some k =>
    have h1 := h k rfl
    constructor
    · intro h2
      have h3 := congrArg Int32.toInt h2
      simp only [opI, nI_toInt (show k < 2 ^ 31 by omega)] at h3
      have : ((-1 : Int32)).toInt = -1 := by decide
      omega
    · intro h2; cases h2
theorem rTgt_nI {ld : Nat → Int32} {s : mS} (hd : ∀ j, j < 16 → ld j = nI (s (37 + j))) (hd2 : ∀ j, j < 16 → s (37 + j) ≤ 1) (hL : 2 ≤ s 0) (hL2 : s 0 ≤ 8) {c st : Nat} (hc : c < 16) (hst : st < 4) : rTgt ld (nI (s 0)) (nI c) (nI st) = opI (ldN s c st) := by
  unfold rTgt ldN
  have e : ∀ j : Nat, j < 4 → (nI st = nI j ↔ st = j) := fun j hj => nI_eq (by omega) (by omega)
  rcases (by omega : st = 0 ∨ st = 1 ∨ st = 2 ∨ st = 3) with rfl | rfl | rfl | rfl
  · rw [if_pos (show nI 0 = 0 from rfl), if_pos rfl]
    by_cases h0 : c = 0
    · subst h0; rfl
    · rw [if_neg (nI_nle (by omega) (by omega)), if_neg h0, show (1 : Int32) = nI 1 from rfl, pk_sub (by omega)]; rfl
  · rw [if_neg (show ¬ nI 1 = 0 by decide), if_pos (show nI 1 = 1 from rfl), if_neg (show ¬ (1 : Nat) = 0 by decide), if_pos rfl]
    by_cases h0 : c + 1 < 16
    · rw [if_neg (show ¬ 15 ≤ nI c from fun h => by have := (ge_nI (a := 15) (i := c) (by decide) (by omega) rfl rfl).mp h; omega), if_pos h0, nI_1]; rfl
    · rw [if_pos (show 15 ≤ nI c from (ge_nI (a := 15) (i := c) (by decide) (by omega) rfl rfl).mpr (by omega)), if_neg h0]; rfl
  · rw [if_neg (by decide), if_neg (by decide), if_pos (show nI 2 = 2 from rfl), if_neg (by decide), if_neg (by decide), if_pos rfl]
    exact rBelow_nI hd hd2 hL hL2 hc
  · rw [if_neg (by decide), if_neg (by decide), if_neg (by decide), if_pos (show nI 3 = 3 from rfl), if_neg (by decide), if_neg (by decide), if_neg (by decide)]
    exact rAbove_nI hd hd2 hL hL2 hc
theorem rWay_nI {lk : Nat → Int32} {s : mS} (hk : ∀ j, j < 15 → lk j = nI (s (22 + j))) {c st : Nat} (hc : c < 16) (hst : st < 4) (h0 : st = 0 → 0 < c) (h1 : st = 1 → c < 15) : rWay lk (nI c) (nI st) = nI (wyN s c st) := by
  unfold rWay wyN
  rcases (by omega : st = 0 ∨ st = 1 ∨ st = 2 ∨ st = 3) with rfl | rfl | rfl | rfl
  · have := h0 rfl
    rw [if_pos (show nI 0 = 0 from rfl), if_pos rfl, show (1 : Int32) = nI 1 from rfl, pk_sub (by omega), rLock_nI (by omega), hk _ (by omega)]
  · have := h1 rfl
    rw [if_neg (by decide), if_pos (show nI 1 = 1 from rfl), if_neg (by decide), if_pos rfl, rLock_nI (by omega), hk _ (by omega)]
  · rw [if_neg (by decide), if_neg (by decide), if_neg (by decide), if_neg (by decide)]; rfl
  · rw [if_neg (by decide), if_neg (by decide), if_neg (by decide), if_neg (by decide)]; rfl
/-- what is asked of a state -/
def mOk (s : mS) : Prop := 2 ≤ s 0 ∧ s 0 ≤ 8 ∧ s 1 < 16 ∧ (∀ a, a ≤ 16 → kAt s a ≤ 5) ∧ (∀ j, j < 15 → s (22 + j) ≤ 5) ∧ (∀ j, j < 16 → s (37 + j) ≤ 1)
theorem gM_cases {s : mS} {c st : Nat} {nx : Nat} (h : ldN s c st = some nx) (hst : st < 4) : (st = 0 → 0 < c) ∧ (st = 1 → c < 15) := by
  unfold ldN at h
  constructor
  · intro h0; subst h0; rw [if_pos rfl] at h; split at h
    · cases h
    · omega
  · intro h0; subst h0; rw [if_neg (by decide), if_pos rfl] at h; split at h
    · omega
    · cases h
/-- the answer of after, in the graph's words -/
theorem rAft_gM {lk ld : Nat → Int32} {s : mS} (hok : mOk s) (hk : ∀ j, j < 15 → lk j = nI (s (22 + j))) (hd : ∀ j, j < 16 → ld j = nI (s (37 + j))) {b1 b2 k1 k2 : Nat} {sw : Bool} (hsw : swOk k1 k2 b1 b2 sw) (hb1 : b1 ≤ 5) (hb2 : b2 ≤ 5) {t : bT} (ht : vM b1 b2 t) {st : Nat} (hst : st < 5) :
    rAft lk ld (nI k1) (nI k2) (nI (s 0)) (nI (ecN k1 k2 sw t)) (nI st) = (match gM s b1 b2 t st with
      | some t' => nI (ecN k1 k2 sw t')
      | none => if st = 4 ∨ ldN s t.1 st = none then -1 else -2) := by
  obtain ⟨o1, o2, o3, o4, o5, o6⟩ := hok
  obtain ⟨f, g, e1, l1, l2, ef, eg⟩ := ecN_parts (k1 := k1) (k2 := k2) (sw := sw) ht
  have hc := ht.1
  have hk1 : k1 ≤ 5 ∧ k2 ≤ 5 := by unfold swOk at hsw; split at hsw <;> omega
  have hh : bwN k1 k2 f g 16 = hbN b1 b2 t := by rw [ef, eg]; exact bw_hand hsw ht
  have hb5 : ∀ a, bwN k1 k2 f g a ≤ 5 := fun a => by unfold bwN; split <;> (try split) <;> omega
  have z : ∀ n, n ≤ 5 → (nI n = 0 ↔ n = 0) := fun n hn => eq_nI (a := n) (i := 0) (by omega) (by decide) rfl rfl
  unfold rAft
  rw [e1, rCell_ec hc l1 l2]
  rw [show (16 : Int32) = nI 16 from rfl, rBow_ec hc l1 l2 (by omega), rBow_ec hc l1 l2 (by omega)]
  unfold gM
  by_cases h4 : st = 4
  · subst h4
    rw [if_pos (show nI 4 = 4 from rfl), if_pos rfl]
    have hn := bw_none hsw ht
    rw [← ef, ← eg] at hn
    have hsx := sw_ec hsw ht
    rw [← ef, ← eg] at hsx
    by_cases hm : (0 < b1 ∧ (t.2.1 = t.1 ∨ t.2.1 = 16)) ∨ (0 < b2 ∧ (t.2.2 = t.1 ∨ t.2.2 = 16))
    · rw [if_pos hm, rSwp_ec hc l1 l2, hsx]
      by_cases q1 : bwN k1 k2 f g 16 = 0
      · have q2 : ¬ bwN k1 k2 f g t.1 = 0 := fun q => (hn.mp ⟨q1, q⟩) hm
        rw [if_pos ((z _ (hb5 _)).mpr q1), if_neg (fun q => q2 ((z _ (hb5 _)).mp q))]
      · rw [if_neg (fun q => q1 ((z _ (hb5 _)).mp q))]
    · obtain ⟨q1, q2⟩ := hn.mpr hm
      rw [if_neg hm, if_pos ((z _ (hb5 _)).mpr q1), if_pos ((z _ (hb5 _)).mpr q2)]
      simp
  · have hst4 : st < 4 := by omega
    rw [if_neg (show ¬ nI st = 4 from fun h => h4 ((eq_nI (a := st) (i := 4) (by omega) (by decide) rfl rfl).mp h)), if_neg h4, rTgt_nI hd o6 o1 o2 hc hst4]
    cases hl : ldN s t.1 st with
    | none => simp [opI]
    | some nx =>
      have hnx := ldN_lt hc hl
      obtain ⟨g1, g2⟩ := gM_cases hl hst4
      rw [if_neg (fun h => by have := (opI_lt (o := some nx) (fun k hk => by cases hk; exact hnx)).mp h; cases this), rWay_nI hk hc hst4 g1 g2]
      have hw5 : wyN s t.1 st ≤ 5 := by
        unfold wyN
        split
        · exact o5 _ (by have := g1 (by assumption); omega)
        · split
          · exact o5 _ (by have := g2 (by assumption); omega)
          · omega
      rw [show opI (some nx) = nI nx from rfl, rMov_ec hc l1 l2 hnx, hh]
      have hen : nI (nx + 16 * f + 512 * g) = nI (ecN k1 k2 sw (nx, t.2.1, t.2.2)) := by unfold ecN; rw [ef, eg]
      have hb5' : hbN b1 b2 t ≤ 5 := by rw [← hh]; exact hb5 16
      by_cases q1 : wyN s t.1 st = 0
      · rw [if_pos ((z _ hw5).mpr q1)]
        simp [q1, hen]
      · rw [if_neg (fun q => q1 ((z _ hw5).mp q))]
        by_cases q2 : wyN s t.1 st = hbN b1 b2 t
        · rw [if_pos (by rw [q2])]
          simp [q2, hen]
        · rw [if_neg (fun q => q2 ((nI_eq (by omega) (by omega)).mp q))]
          simp [q1, q2, h4]
theorem ecN_lt {b1 b2 k1 k2 : Nat} {sw : Bool} {t : bT} (h : vM b1 b2 t) : ecN k1 k2 sw t < 16384 ∧ ecN k1 k2 sw t % 16 = t.1 := by
  obtain ⟨f, g, e1, l1, l2, -⟩ := ecN_parts (k1 := k1) (k2 := k2) (sw := sw) h
  have := h.1
  rw [e1]
  omega
theorem SGh_of {lk ld : Nat → Int32} {s : mS} (hok : mOk s) (hk : ∀ j, j < 15 → lk j = nI (s (22 + j))) (hd : ∀ j, j < 16 → ld j = nI (s (37 + j))) {b1 b2 k1 k2 : Nat} {sw : Bool} (hsw : swOk k1 k2 b1 b2 sw) (hb12 : 0 < b2 → 0 < b1) (hb1 : b1 ≤ 5) (hb2 : b2 ≤ 5) : SGh lk ld (nI k1) (nI k2) (nI (s 0)) (gM s b1 b2) (vM b1 b2) (ecN k1 k2 sw) := by
  refine ⟨fun t h => ⟨h.1, (ecN_lt h).1, (ecN_lt h).2⟩, fun a b h h' e => ecN_inj hsw h h' e, vM_len, fun t st h hst hg => ?_, fun t st t' h hst hg => ⟨vM_step hb12 h hg, ?_⟩⟩
  · rw [rAft_gM hok hk hd hsw hb1 hb2 h hst, hg]
    show (if _ then _ else _) < (0 : Int32)
    split <;> decide
  · rw [rAft_gM hok hk hd hsw hb1 hb2 h hst, hg]
end
section
/-! the reference's reckoning -/
def rInR (v lo hi : Int32) : Int32 := if v < lo then 0 else if hi < v then 0 else 1
theorem rInR_01 (v lo hi : Int32) : rInR v lo hi = 0 ∨ rInR v lo hi = 1 := by unfold rInR; split <;> (try split) <;> simp
theorem rInR_nI {k n : Nat} {hi : Int32} (hk : k < 2 ^ 31) (hn : n < 2 ^ 31) (hh : hi = nI n) : rInR (nI k) 0 hi = if k ≤ n then 1 else 0 := by
  unfold rInR
  rw [if_neg (nI_pos hk)]
  subst hh
  by_cases h : k ≤ n
  · rw [if_neg (fun h9 => by have := (nI_ltI hn hk).mp h9; omega), if_pos h]
  · rw [if_pos ((nI_ltI hn hk).mpr (by omega)), if_neg h]
theorem rInR_neg {x lo hi : Int32} (h : x < lo) : rInR x lo hi = 0 := by unfold rInR; rw [if_pos h]
theorem nadd (a c : Nat) {x : Int32} (h : x = nI a) : x + nI c = nI (a + c) := by subst h; exact nI_add a c
/-- an int array holds a state -/
def hd53 (f : Nat → Int32) (s : mS) : Prop := ∀ j, j < 53 → f j = nI (s j)
theorem hd53.at {f : Nat → Int32} {s : mS} (h : hd53 f s) {x : Int32} {j : Nat} (hx : x = nI j) (hj : j < 53) : f x.toNatClampNeg = nI (s j) := by rw [cl_nI hx (by omega)]; exact h j hj
theorem upN_lt {s : mS} {c o : Nat} (h : upN s c = some o) : o < 16 := by
  unfold upN at h; split at h
  · rename_i h1; have := Option.some.inj h; omega
  · cases h
theorem dnN_lt {s : mS} {c o : Nat} (h : dnN s c = some o) : o < 16 := by
  unfold dnN at h; split at h
  · cases h
  · split at h
    · rename_i h1; have := Option.some.inj h; omega
    · cases h
def refN (s : mS) (st : Nat) : Nat := if st = 4 then (if s 2 = 0 ∧ s (6 + s 1) = 0 then 1 else 0) else match ldN s (s 1) st with
  | none => 1
  | some _ => if 0 < wyN s (s 1) st ∧ wyN s (s 1) st ≠ s 2 then 2 else 0
theorem neg1 : ((-1 : Int32)) < 0 := by decide
theorem rInR15 {o : Nat} (ho : o < 2 ^ 31) : rInR (nI o) 0 15 = if o < 16 then 1 else 0 := by
  rw [rInR_nI (n := 15) (hi := 15) ho (by decide) rfl]
  by_cases h : o < 16
  · rw [if_pos h, if_pos (by omega)]
  · rw [if_neg h, if_neg (by omega)]
theorem rInR15_t {o : Nat} (h : rInR (nI o) 0 15 = 0) (ho : o < 2 ^ 31) : ¬ o < 16 := fun h9 => by rw [rInR15 ho, if_pos h9] at h; exact absurd h (by decide)
theorem rInR15_f {o : Nat} (h : ¬ rInR (nI o) 0 15 = 0) (ho : o < 2 ^ 31) : o < 16 := by
  by_cases h9 : o < 16
  · exact h9
  · rw [rInR15 ho, if_neg h9] at h; exact absurd rfl h
theorem vpA {k o n : Nat} {x : Int32} (hx : x = nI k) (h : k + o < n) (hn : n < 2 ^ 31) : vp_in (x + nI o) n := vp_nI (nadd k o hx) h hn
def updS (s : mS) (k v : Nat) : mS := fun j => if j = k then v else s j
theorem updS_s (s : mS) (k v : Nat) : updS s k v k = v := by unfold updS; rw [if_pos rfl]
theorem updS_n (s : mS) {k j : Nat} (v : Nat) (h : j ≠ k) : updS s k v j = s j := by unfold updS; rw [if_neg h]
theorem hd53.upd {f : Nat → Int32} {s : mS} (h : hd53 f s) {x v : Int32} {k w : Nat} (hx : x = nI k) (hk : k < 2 ^ 31) (hv : v = nI w) : hd53 (upd f x.toNatClampNeg v) (updS s k w) := by
  intro j hj
  rw [cl_nI hx hk]
  by_cases e : j = k
  · subst e; rw [pk_us, updS_s, hv]
  · rw [pk_un e, updS_n s w e]; exact h j hj
def goN (s : mS) (st : Nat) : mS :=
  if st = 4 then updS (updS (updS (updS s 3 (s 3 + 1)) 2 (s (6 + s 1))) (6 + s 1) (s 2)) 4 (s 4 + 1)
  else updS (updS (updS s 3 (s 3 + 1)) 5 (s 5 + (if 0 < wyN s (s 1) st then 1 else 0))) 1 ((ldN s (s 1) st).getD 0)
theorem wyN_congr {s s1 : mS} (h : ∀ j, 22 ≤ j → s1 j = s j) (c st : Nat) : wyN s1 c st = wyN s c st := by
  unfold wyN; rw [h _ (by omega), h _ (by omega)]
theorem upN_congr {s s1 : mS} (h0 : s1 0 = s 0) (h : ∀ j, 22 ≤ j → s1 j = s j) (c : Nat) : upN s1 c = upN s c := by
  unfold upN; rw [h0, h _ (by omega), h _ (by omega)]
theorem dnN_congr {s s1 : mS} (h0 : s1 0 = s 0) (h : ∀ j, 22 ≤ j → s1 j = s j) (c : Nat) : dnN s1 c = dnN s c := by
  unfold dnN; rw [h0, h _ (by omega), h _ (by omega)]
theorem ldN_congr {s s1 : mS} (h0 : s1 0 = s 0) (h : ∀ j, 22 ≤ j → s1 j = s j) (c st : Nat) : ldN s1 c st = ldN s c st := by
  unfold ldN; rw [upN_congr h0 h, dnN_congr h0 h]
def bgnN (s : mS) : Nat → Nat × Nat × Nat × Nat
  | 0 => (s 2, if 0 < s 2 then 16 else 0, 0, 0)
  | n + 1 => if 0 < s (6 + n) ∧ (bgnN s n).1 = 0 then (s (6 + n), n, (bgnN s n).2.2.1, (bgnN s n).2.2.2) else if 0 < s (6 + n) then ((bgnN s n).1, (bgnN s n).2.1, s (6 + n), n) else bgnN s n
theorem le0_nI {b : Nat} (h : b < 2 ^ 31) : nI b ≤ 0 ↔ b = 0 := by
  have := ge_nI (a := b) (i := 0) h (by decide) rfl rfl
  rw [show (0 : Int32) = nI 0 from rfl, nI_leI h (by decide)]; omega
theorem emove : ∀ nx, nx < 16 → ∀ c, c < 16 → nI (289 * c) + 289 * (nI nx - nI c) = nI (289 * nx) := by decide +kernel
theorem emove2 {nx c o w : Nat} (h1 : nx < 16) (h2 : c < 16) : nI (emN (c, o, w)) + 289 * (nI nx - nI c) = nI (emN (nx, o, w)) := by
  have e : ∀ c, nI (emN (c, o, w)) = nI (17 * o + w) + nI (289 * c) := fun c => by rw [nI_add]; congr 1; unfold emN; simp only; omega
  rw [e c, e nx, Int32.add_assoc, emove nx h1 c h2]
/-- the reference's fields -/
abbrev mF (A : Nat → Nat) (ke ty th ap ft bo ot il : Int32) : List Value := [.ref (A 0), .ref (A 1), .ref (A 2), .int ke, .ref (A 3), .int ty, .int th, .int ap, .int ft, .ref (A 4), .ref (A 5), .ref (A 6), .ref (A 7), .ref (A 8), .ref (A 9), .int bo, .int ot, .int il]
end
section
/-! the reference: its static methods -/
set_option maxHeartbeats 4000000 in
set_option maxRecDepth 100000 in
theorem k_X6_in (l : Launch) (G : wG) {v lo hi : Int32} : Con0 l G yX6_in cX6_in 3 (some .boolean) 0 [.int v, .int lo, .int hi] [] (fun r w => r = some (.int (rInR v lo hi)) ∧ w = []) := by
  refine Con.mk (by decide +kernel) (Nat.le_of_ble_eq_true rfl) (fun P C Rr => ?_)
  refine st_iload_n C (dk DX6_in_0 0 rfl) rfl ?_
  refine st_iload_n C (dk DX6_in_0 1 rfl) rfl ?_
  refine st_icmp_lt C (tgt := 14) (dk DX6_in_0 2 rfl) (by decide) (fun c_2 => ?_) (fun c_2 => ?_)
  · refine st_iconst C (v := 0) (dk DX6_in_0 8 rfl) (by decide) ?_
    exact Rr 0 0 _ _ _ _ _ _ (Nat.zero_le _) (Nat.zero_le _) (dk DX6_in_0 9 rfl) (.inr (.inr (.inl ⟨_, rfl, (by first | exact Or.inl rfl | exact Or.inr rfl | assumption), rfl, rfl, rfl⟩))) rfl ⟨rfl, ⟨by first | (simp [c_2, rInR]; done) | (simp_all [rInR]; done), rfl⟩⟩
  · refine st_iload_n C (dk DX6_in_0 3 rfl) rfl ?_
    refine st_iload_n C (dk DX6_in_0 4 rfl) rfl ?_
    refine st_icmp_gt C (tgt := 14) (dk DX6_in_0 5 rfl) (by decide) (fun c_7 => ?_) (fun c_7 => ?_)
    · refine st_iconst C (v := 0) (dk DX6_in_0 8 rfl) (by decide) ?_
      exact Rr 0 0 _ _ _ _ _ _ (Nat.zero_le _) (Nat.zero_le _) (dk DX6_in_0 9 rfl) (.inr (.inr (.inl ⟨_, rfl, (by first | exact Or.inl rfl | exact Or.inr rfl | assumption), rfl, rfl, rfl⟩))) rfl ⟨rfl, ⟨by first | (simp [c_2, c_7, rInR]; done) | (simp_all [rInR]; done), rfl⟩⟩
    · refine st_iconst C (v := 1) (dk DX6_in_0 6 rfl) (by decide) ?_
      refine st_goto C (tgt := 15) (dk DX6_in_0 7 rfl) (by decide) ?_
      exact Rr 0 0 _ _ _ _ _ _ (Nat.zero_le _) (Nat.zero_le _) (dk DX6_in_0 9 rfl) (.inr (.inr (.inl ⟨_, rfl, (by first | exact Or.inl rfl | exact Or.inr rfl | assumption), rfl, rfl, rfl⟩))) rfl ⟨rfl, ⟨by first | (simp [c_2, c_7, rInR]; done) | (simp_all [rInR]; done), rfl⟩⟩
set_option maxHeartbeats 4000000 in
set_option maxRecDepth 100000 in
theorem k_X6_isCell (l : Launch) (G : wG) {v : Int32} : Con0 l G yX6_isCell cX6_isCell 1 (some .boolean) 1 [.int v] [] (fun r w => r = some (.int (rInR v 0 15)) ∧ w = []) := by
  refine Con.mk (by decide +kernel) (Nat.le_of_ble_eq_true rfl) (fun P C Rr => ?_)
  refine st_iload_n C (dk DX6_isCell_0 0 rfl) rfl ?_
  refine st_iconst C (v := 0) (dk DX6_isCell_0 1 rfl) (by decide) ?_
  refine st_bipush C (v := 15) (dk DX6_isCell_0 2 rfl) (by decide) ?_
  refine st_cS C (k_X6_in l G) mf_X6_in ms_X6_in ml_RX6_44 (dk DX6_isCell_0 3 rfl) [] rfl rfl rfl rfl (Nat.le_of_ble_eq_true rfl) ⟨Nat.le_of_ble_eq_true rfl, Nat.le_of_ble_eq_true rfl⟩ ⟨Nat.zero_le _, Nat.zero_le _⟩ (fun r9 w9 hq9 => ?_)
  obtain ⟨rfl, rfl⟩ := hq9
  exact Rr 0 0 _ _ _ _ _ _ (Nat.zero_le _) (Nat.zero_le _) (dk DX6_isCell_0 4 rfl) (.inr (.inr (.inl ⟨_, rfl, (by first | exact Or.inl rfl | exact Or.inr rfl | exact rInR_01 _ _ _), rfl, rfl, rfl⟩))) rfl ⟨rfl, ⟨rfl, rfl⟩⟩
set_option maxHeartbeats 4000000 in
set_option maxRecDepth 100000 in
theorem k_X6_above (l : Launch) (G : wG) {a : Nat} {f : Nat → Int32} {s : mS} {x : Int32} {c : Nat} (hf : hd53 f s) (hL : 2 ≤ s 0) (hL2 : s 0 ≤ 8) (hla : ∀ j, j < 16 → s (37 + j) ≤ 1) (hx : x = nI c) (hc : c < 16) : Con0 l G yX6_above cX6_above 3 (some .int) 2 [.ref a, .int x] [(a, aI G 53 f)] (fun r w => r = some (.int (opI (upN s c))) ∧ w = [(a, aI G 53 f)]) := by
  refine Con.mk (by decide +kernel) (Nat.le_of_ble_eq_true rfl) (fun P C Rr => ?_)
  subst hx
  have h0 : f (Int32.toNatClampNeg 0) = nI (s 0) := hf.at (j := 0) rfl (by decide)
  have h9 := above_ge (L := s 0) (c := c) (by omega)
  have hb : c / s 0 ≤ c := Nat.div_le_self c _
  have hb2 : 2 * s 0 * (c / s 0 + 1) ≤ 16 * 17 := Nat.mul_le_mul (by omega) (by omega)
  obtain ⟨o, ho⟩ : ∃ o, o = 2 * s 0 * (c / s 0 + 1) - 1 - c := ⟨_, rfl⟩
  have key : 2 * f (Int32.toNatClampNeg 0) * (nI c / f (Int32.toNatClampNeg 0) + 1) - 1 - nI c = nI o := by
    rw [h0, pk_div (by omega) (by omega) (by omega), show (2 : Int32) = nI 2 from rfl, pk_mul, nI_1, pk_mul, show (1 : Int32) = nI 1 from rfl, pk_sub (by omega), pk_sub (by omega), ho]
  have hu : upN s c = if o < 16 ∧ 0 < s (37 + c) + s (37 + o) then some o else none := by unfold upN; rw [← ho]
  have hval : ∀ j, j < 16 → f ((37 : Int32) + nI j).toNatClampNeg = nI (s (37 + j)) := fun j hj => hf.at (nadd 37 j rfl) (by omega)
  refine st_iconst C (v := 2) (dk DX6_above_0 0 rfl) (by decide) ?_
  refine st_aload_n C (dk DX6_above_0 1 rfl) rfl ?_
  refine st_iconst C (v := 0) (dk DX6_above_0 2 rfl) (by decide) ?_
  refine st_iald C (dk DX6_above_0 3 rfl) 0 rfl (vp_nI (show (0 : Int32) = nI 0 from rfl) (by decide) (by decide)) ?_
  refine st_imul C (dk DX6_above_0 4 rfl) ?_
  refine st_iload_n C (dk DX6_above_0 5 rfl) rfl ?_
  refine st_aload_n C (dk DX6_above_0 6 rfl) rfl ?_
  refine st_iconst C (v := 0) (dk DX6_above_0 7 rfl) (by decide) ?_
  refine st_iald C (dk DX6_above_0 8 rfl) 0 rfl (vp_nI (show (0 : Int32) = nI 0 from rfl) (by decide) (by decide)) ?_
  refine st_idiv C (dk DX6_above_0 9 rfl) (by rw [h0]; exact nI_ne0 (by omega) (by omega)) ?_
  refine st_iconst C (v := 1) (dk DX6_above_0 10 rfl) (by decide) ?_
  refine st_iadd C (dk DX6_above_0 11 rfl) ?_
  refine st_imul C (dk DX6_above_0 12 rfl) ?_
  refine st_iconst C (v := 1) (dk DX6_above_0 13 rfl) (by decide) ?_
  refine st_isub C (dk DX6_above_0 14 rfl) ?_
  refine st_iload_n C (dk DX6_above_0 15 rfl) rfl ?_
  refine st_isub C (dk DX6_above_0 16 rfl) ?_
  rw [key]
  refine st_istore_n C (dk DX6_above_0 17 rfl) (by decide) rfl ?_
  refine st_iload_n C (dk DX6_above_0 18 rfl) rfl ?_
  refine st_cS C (k_X6_isCell l G) mf_X6_isCell ms_X6_isCell ml_RX6_63 (dk DX6_above_0 19 rfl) [] rfl rfl rfl rfl (Nat.le_of_ble_eq_true rfl) ⟨Nat.le_of_ble_eq_true rfl, Nat.le_of_ble_eq_true rfl⟩ ⟨Nat.zero_le _, Nat.zero_le _⟩ (fun r9 w9 hq9 => ?_)
  obtain ⟨rfl, rfl⟩ := hq9
  refine st_if_eq C (tgt := 45) (dk DX6_above_0 20 rfl) (by decide) (fun c_22 => ?_) (fun c_22 => ?_)
  · refine st_iconst C (v := -1) (dk DX6_above_0 35 rfl) (by decide) ?_
    exact Rr 0 0 _ _ _ _ _ _ (Nat.zero_le _) (Nat.zero_le _) (dk DX6_above_0 36 rfl) (.inr (.inl ⟨_, rfl, rfl, rfl, rfl⟩)) rfl ⟨rfl, ⟨by rw [hu, if_neg (fun h => rInR15_t c_22 (by omega) h.1)]; rfl, rfl⟩⟩
  · refine st_aload_n C (dk DX6_above_0 21 rfl) rfl ?_
    refine st_bipush C (v := 37) (dk DX6_above_0 22 rfl) (by decide) ?_
    refine st_iload_n C (dk DX6_above_0 23 rfl) rfl ?_
    refine st_iadd C (dk DX6_above_0 24 rfl) ?_
    refine st_iald C (dk DX6_above_0 25 rfl) 0 rfl (vpA (k := 37) rfl (by omega) (by decide)) ?_
    refine st_aload_n C (dk DX6_above_0 26 rfl) rfl ?_
    refine st_bipush C (v := 37) (dk DX6_above_0 27 rfl) (by decide) ?_
    refine st_iload_n C (dk DX6_above_0 28 rfl) rfl ?_
    refine st_iadd C (dk DX6_above_0 29 rfl) ?_
    refine st_iald C (dk DX6_above_0 30 rfl) 0 rfl (vpA (k := 37) rfl (by have := rInR15_f c_22 (by omega); omega) (by decide)) ?_
    refine st_iadd C (dk DX6_above_0 31 rfl) ?_
    refine st_if_le C (tgt := 45) (dk DX6_above_0 32 rfl) (by decide) (fun c_38 => ?_) (fun c_38 => ?_)
    · refine st_iconst C (v := -1) (dk DX6_above_0 35 rfl) (by decide) ?_
      refine Rr 0 0 _ _ _ _ _ _ (Nat.zero_le _) (Nat.zero_le _) (dk DX6_above_0 36 rfl) (.inr (.inl ⟨_, rfl, rfl, rfl, rfl⟩)) rfl ?_
      have ho16 := rInR15_f c_22 (by omega)
      have l1 := hla c hc
      have l2 := hla o ho16
      rw [hval c hc, hval o ho16, nI_add] at c_38
      have e9 := (ge_nI (a := s (37 + c) + s (37 + o)) (i := 0) (by omega) (by decide) rfl rfl).mp c_38
      exact ⟨rfl, by rw [hu, if_neg (by omega)]; rfl, rfl⟩
    · refine st_iload_n C (dk DX6_above_0 33 rfl) rfl ?_
      refine st_goto C (tgt := 46) (dk DX6_above_0 34 rfl) (by decide) ?_
      refine Rr 0 0 _ _ _ _ _ _ (Nat.zero_le _) (Nat.zero_le _) (dk DX6_above_0 36 rfl) (.inr (.inl ⟨_, rfl, rfl, rfl, rfl⟩)) rfl ?_
      have ho16 := rInR15_f c_22 (by omega)
      have l1 := hla c hc
      have l2 := hla o ho16
      rw [hval c hc, hval o ho16, nI_add] at c_38
      have e9 := mt (ge_nI (a := s (37 + c) + s (37 + o)) (i := 0) (by omega) (by decide) rfl rfl).mpr c_38
      exact ⟨rfl, by rw [hu, if_pos ⟨ho16, by omega⟩]; rfl, rfl⟩
set_option maxHeartbeats 4000000 in
set_option maxRecDepth 100000 in
theorem k_X6_below (l : Launch) (G : wG) {a : Nat} {f : Nat → Int32} {s : mS} {x : Int32} {c : Nat} (hf : hd53 f s) (hL : 2 ≤ s 0) (hL2 : s 0 ≤ 8) (hla : ∀ j, j < 16 → s (37 + j) ≤ 1) (hx : x = nI c) (hc : c < 16) : Con0 l G yX6_below cX6_below 3 (some .int) 2 [.ref a, .int x] [(a, aI G 53 f)] (fun r w => r = some (.int (opI (dnN s c))) ∧ w = [(a, aI G 53 f)]) := by
  refine Con.mk (by decide +kernel) (Nat.le_of_ble_eq_true rfl) (fun P C Rr => ?_)
  subst hx
  have h0 : f (Int32.toNatClampNeg 0) = nI (s 0) := hf.at (j := 0) rfl (by decide)
  have hb : c / s 0 ≤ c := Nat.div_le_self c _
  have hb2 : 2 * s 0 * (c / s 0) ≤ 16 * 16 := Nat.mul_le_mul (by omega) (by omega)
  have hval : ∀ j, j < 16 → f ((37 : Int32) + nI j).toNatClampNeg = nI (s (37 + j)) := fun j hj => hf.at (nadd 37 j rfl) (by omega)
  by_cases hz : c / s 0 = 0
  · have key : 2 * f (Int32.toNatClampNeg 0) * (nI c / f (Int32.toNatClampNeg 0)) - 1 - nI c = nI 0 - nI 1 - nI c := by
      rw [h0, pk_div (by omega) (by omega) (by omega), show (2 : Int32) = nI 2 from rfl, pk_mul, pk_mul, hz, Nat.mul_zero]; rfl
    have hneg : nI 0 - nI 1 - nI c < 0 := by
      have : ∀ c, c < 16 → nI 0 - nI 1 - nI c < 0 := by decide +kernel
      exact this c hc
    have hu : dnN s c = none := by unfold dnN; rw [if_pos hz]
    refine st_iconst C (v := 2) (dk DX6_below_0 0 rfl) (by decide) ?_
    refine st_aload_n C (dk DX6_below_0 1 rfl) rfl ?_
    refine st_iconst C (v := 0) (dk DX6_below_0 2 rfl) (by decide) ?_
    refine st_iald C (dk DX6_below_0 3 rfl) 0 rfl (vp_nI (show (0 : Int32) = nI 0 from rfl) (by decide) (by decide)) ?_
    refine st_imul C (dk DX6_below_0 4 rfl) ?_
    refine st_iload_n C (dk DX6_below_0 5 rfl) rfl ?_
    refine st_aload_n C (dk DX6_below_0 6 rfl) rfl ?_
    refine st_iconst C (v := 0) (dk DX6_below_0 7 rfl) (by decide) ?_
    refine st_iald C (dk DX6_below_0 8 rfl) 0 rfl (vp_nI (show (0 : Int32) = nI 0 from rfl) (by decide) (by decide)) ?_
    refine st_idiv C (dk DX6_below_0 9 rfl) (by rw [h0]; exact nI_ne0 (by omega) (by omega)) ?_
    refine st_imul C (dk DX6_below_0 10 rfl) ?_
    refine st_iconst C (v := 1) (dk DX6_below_0 11 rfl) (by decide) ?_
    refine st_isub C (dk DX6_below_0 12 rfl) ?_
    refine st_iload_n C (dk DX6_below_0 13 rfl) rfl ?_
    refine st_isub C (dk DX6_below_0 14 rfl) ?_
    rw [key]
    refine st_istore_n C (dk DX6_below_0 15 rfl) (by decide) rfl ?_
    refine st_iload_n C (dk DX6_below_0 16 rfl) rfl ?_
    refine st_cS C (k_X6_isCell l G) mf_X6_isCell ms_X6_isCell ml_RX6_63 (dk DX6_below_0 17 rfl) [] rfl rfl rfl rfl (Nat.le_of_ble_eq_true rfl) ⟨Nat.le_of_ble_eq_true rfl, Nat.le_of_ble_eq_true rfl⟩ ⟨Nat.zero_le _, Nat.zero_le _⟩ (fun r9 w9 hq9 => ?_)
    obtain ⟨rfl, rfl⟩ := hq9
    refine st_if_eq C (tgt := 43) (dk DX6_below_0 18 rfl) (by decide) (fun c_20 => ?_) (fun c_20 => ?_)
    · refine st_iconst C (v := -1) (dk DX6_below_0 33 rfl) (by decide) ?_
      exact Rr 0 0 _ _ _ _ _ _ (Nat.zero_le _) (Nat.zero_le _) (dk DX6_below_0 34 rfl) (.inr (.inl ⟨_, rfl, rfl, rfl, rfl⟩)) rfl ⟨rfl, ⟨by rw [hu]; rfl, rfl⟩⟩
    · exact absurd (rInR_neg hneg) c_20
  · have h9 := below_ge (L := s 0) (c := c) (by omega) hz
    obtain ⟨o, ho⟩ : ∃ o, o = 2 * s 0 * (c / s 0) - 1 - c := ⟨_, rfl⟩
    have key : 2 * f (Int32.toNatClampNeg 0) * (nI c / f (Int32.toNatClampNeg 0)) - 1 - nI c = nI o := by
      rw [h0, pk_div (by omega) (by omega) (by omega), show (2 : Int32) = nI 2 from rfl, pk_mul, pk_mul, show (1 : Int32) = nI 1 from rfl, pk_sub (by omega), pk_sub (by omega), ho]
    have hu : dnN s c = if o < 16 ∧ 0 < s (37 + c) + s (37 + o) then some o else none := by unfold dnN; rw [if_neg hz, ← ho]
    refine st_iconst C (v := 2) (dk DX6_below_0 0 rfl) (by decide) ?_
    refine st_aload_n C (dk DX6_below_0 1 rfl) rfl ?_
    refine st_iconst C (v := 0) (dk DX6_below_0 2 rfl) (by decide) ?_
    refine st_iald C (dk DX6_below_0 3 rfl) 0 rfl (vp_nI (show (0 : Int32) = nI 0 from rfl) (by decide) (by decide)) ?_
    refine st_imul C (dk DX6_below_0 4 rfl) ?_
    refine st_iload_n C (dk DX6_below_0 5 rfl) rfl ?_
    refine st_aload_n C (dk DX6_below_0 6 rfl) rfl ?_
    refine st_iconst C (v := 0) (dk DX6_below_0 7 rfl) (by decide) ?_
    refine st_iald C (dk DX6_below_0 8 rfl) 0 rfl (vp_nI (show (0 : Int32) = nI 0 from rfl) (by decide) (by decide)) ?_
    refine st_idiv C (dk DX6_below_0 9 rfl) (by rw [h0]; exact nI_ne0 (by omega) (by omega)) ?_
    refine st_imul C (dk DX6_below_0 10 rfl) ?_
    refine st_iconst C (v := 1) (dk DX6_below_0 11 rfl) (by decide) ?_
    refine st_isub C (dk DX6_below_0 12 rfl) ?_
    refine st_iload_n C (dk DX6_below_0 13 rfl) rfl ?_
    refine st_isub C (dk DX6_below_0 14 rfl) ?_
    rw [key]
    refine st_istore_n C (dk DX6_below_0 15 rfl) (by decide) rfl ?_
    refine st_iload_n C (dk DX6_below_0 16 rfl) rfl ?_
    refine st_cS C (k_X6_isCell l G) mf_X6_isCell ms_X6_isCell ml_RX6_63 (dk DX6_below_0 17 rfl) [] rfl rfl rfl rfl (Nat.le_of_ble_eq_true rfl) ⟨Nat.le_of_ble_eq_true rfl, Nat.le_of_ble_eq_true rfl⟩ ⟨Nat.zero_le _, Nat.zero_le _⟩ (fun r9 w9 hq9 => ?_)
    obtain ⟨rfl, rfl⟩ := hq9
    refine st_if_eq C (tgt := 43) (dk DX6_below_0 18 rfl) (by decide) (fun c_20 => ?_) (fun c_20 => ?_)
    · refine st_iconst C (v := -1) (dk DX6_below_0 33 rfl) (by decide) ?_
      exact Rr 0 0 _ _ _ _ _ _ (Nat.zero_le _) (Nat.zero_le _) (dk DX6_below_0 34 rfl) (.inr (.inl ⟨_, rfl, rfl, rfl, rfl⟩)) rfl ⟨rfl, ⟨by rw [hu, if_neg (fun h => rInR15_t c_20 (by omega) h.1)]; rfl, rfl⟩⟩
    · refine st_aload_n C (dk DX6_below_0 19 rfl) rfl ?_
      refine st_bipush C (v := 37) (dk DX6_below_0 20 rfl) (by decide) ?_
      refine st_iload_n C (dk DX6_below_0 21 rfl) rfl ?_
      refine st_iadd C (dk DX6_below_0 22 rfl) ?_
      refine st_iald C (dk DX6_below_0 23 rfl) 0 rfl (vpA (k := 37) rfl (by omega) (by decide)) ?_
      refine st_aload_n C (dk DX6_below_0 24 rfl) rfl ?_
      refine st_bipush C (v := 37) (dk DX6_below_0 25 rfl) (by decide) ?_
      refine st_iload_n C (dk DX6_below_0 26 rfl) rfl ?_
      refine st_iadd C (dk DX6_below_0 27 rfl) ?_
      refine st_iald C (dk DX6_below_0 28 rfl) 0 rfl (vpA (k := 37) rfl (by have := rInR15_f c_20 (by omega); omega) (by decide)) ?_
      refine st_iadd C (dk DX6_below_0 29 rfl) ?_
      refine st_if_le C (tgt := 43) (dk DX6_below_0 30 rfl) (by decide) (fun c_36 => ?_) (fun c_36 => ?_)
      · refine st_iconst C (v := -1) (dk DX6_below_0 33 rfl) (by decide) ?_
        refine Rr 0 0 _ _ _ _ _ _ (Nat.zero_le _) (Nat.zero_le _) (dk DX6_below_0 34 rfl) (.inr (.inl ⟨_, rfl, rfl, rfl, rfl⟩)) rfl ?_
        have ho16 := rInR15_f c_20 (by omega)
        have l1 := hla c hc
        have l2 := hla o ho16
        rw [hval c hc, hval o ho16, nI_add] at c_36
        have e9 := (ge_nI (a := s (37 + c) + s (37 + o)) (i := 0) (by omega) (by decide) rfl rfl).mp c_36
        exact ⟨rfl, by rw [hu, if_neg (by omega)]; rfl, rfl⟩
      · refine st_iload_n C (dk DX6_below_0 31 rfl) rfl ?_
        refine st_goto C (tgt := 44) (dk DX6_below_0 32 rfl) (by decide) ?_
        refine Rr 0 0 _ _ _ _ _ _ (Nat.zero_le _) (Nat.zero_le _) (dk DX6_below_0 34 rfl) (.inr (.inl ⟨_, rfl, rfl, rfl, rfl⟩)) rfl ?_
        have ho16 := rInR15_f c_20 (by omega)
        have l1 := hla c hc
        have l2 := hla o ho16
        rw [hval c hc, hval o ho16, nI_add] at c_36
        have e9 := mt (ge_nI (a := s (37 + c) + s (37 + o)) (i := 0) (by omega) (by decide) rfl rfl).mpr c_36
        exact ⟨rfl, by rw [hu, if_pos ⟨ho16, by omega⟩]; rfl, rfl⟩
set_option maxHeartbeats 4000000 in
set_option maxRecDepth 100000 in
theorem k_X6_leads (l : Launch) (G : wG) {a : Nat} {f : Nat → Int32} {s : mS} {x y : Int32} {c st : Nat} (hf : hd53 f s) (hL : 2 ≤ s 0) (hL2 : s 0 ≤ 8) (hla : ∀ j, j < 16 → s (37 + j) ≤ 1) (hx : x = nI c) (hc : c < 16) (hy : y = nI st) (hst : st < 4) : Con0 l G yX6_leads cX6_leads 4 (some .int) 3 [.ref a, .int x, .int y] [(a, aI G 53 f)] (fun r w => r = some (.int (opI (ldN s c st))) ∧ w = [(a, aI G 53 f)]) := by
  refine Con.mk (by decide +kernel) (Nat.le_of_ble_eq_true rfl) (fun P C Rr => ?_)
  subst hx
  subst hy
  have J40 : ∀ (v : Int32) (o : Option Nat), ((∃ k, v = nI k ∧ k < 2 ^ 30 ∧ o = if k < 16 then some k else none) ∨ (v < 0 ∧ o = none)) → ldN s c st = o → P 0 0 40 [(0, .ref a), (1, .int (nI c)), (2, .int (nI st)), (3, .int v)] [] [(a, aI G 53 f)] := by
    intro v o hv ho
    refine st_iload_n C (dk DX6_leads_0 24 rfl) rfl ?_
    refine st_cS C (k_X6_isCell l G) mf_X6_isCell ms_X6_isCell ml_RX6_63 (dk DX6_leads_0 25 rfl) [] rfl rfl rfl rfl (Nat.le_of_ble_eq_true rfl) ⟨Nat.le_of_ble_eq_true rfl, Nat.le_of_ble_eq_true rfl⟩ ⟨Nat.zero_le _, Nat.zero_le _⟩ (fun r9 w9 hq9 => ?_)
    obtain ⟨rfl, rfl⟩ := hq9
    refine st_if_eq C (tgt := 51) (dk DX6_leads_0 26 rfl) (by decide) (fun c_44 => ?_) (fun c_44 => ?_)
    · refine st_iconst C (v := -1) (dk DX6_leads_0 29 rfl) (by decide) ?_
      refine Rr 0 0 _ _ _ _ _ _ (Nat.zero_le _) (Nat.zero_le _) (dk DX6_leads_0 30 rfl) (.inr (.inl ⟨_, rfl, rfl, rfl, rfl⟩)) rfl ?_
      refine ⟨rfl, ?_, rfl⟩
      rw [ho]
      rcases hv with ⟨k, rfl, hk, rfl⟩ | ⟨-, rfl⟩
      · rw [if_neg (rInR15_t c_44 (by omega))]; rfl
      · rfl
    · refine st_iload_n C (dk DX6_leads_0 27 rfl) rfl ?_
      refine st_goto C (tgt := 52) (dk DX6_leads_0 28 rfl) (by decide) ?_
      refine Rr 0 0 _ _ _ _ _ _ (Nat.zero_le _) (Nat.zero_le _) (dk DX6_leads_0 30 rfl) (.inr (.inl ⟨_, rfl, rfl, rfl, rfl⟩)) rfl ?_
      refine ⟨rfl, ?_, rfl⟩
      rw [ho]
      rcases hv with ⟨k, rfl, hk, rfl⟩ | ⟨hn, -⟩
      · rw [if_pos (rInR15_f c_44 (by omega))]; rfl
      · exact absurd (rInR_neg hn) c_44
  refine st_iload_n C (dk DX6_leads_0 0 rfl) rfl ?_
  refine st_if_ne C (tgt := 10) (dk DX6_leads_0 1 rfl) (by decide) (fun c_1 => ?_) (fun c_1 => ?_)
  · refine st_iload_n C (dk DX6_leads_0 6 rfl) rfl ?_
    refine st_iconst C (v := 1) (dk DX6_leads_0 7 rfl) (by decide) ?_
    refine st_icmp_ne C (tgt := 21) (dk DX6_leads_0 8 rfl) (by decide) (fun c_12 => ?_) (fun c_12 => ?_)
    · refine st_iload_n C (dk DX6_leads_0 13 rfl) rfl ?_
      refine st_iconst C (v := 2) (dk DX6_leads_0 14 rfl) (by decide) ?_
      refine st_icmp_ne C (tgt := 34) (dk DX6_leads_0 15 rfl) (by decide) (fun c_23 => ?_) (fun c_23 => ?_)
      · refine st_aload_n C (dk DX6_leads_0 20 rfl) rfl ?_
        refine st_iload_n C (dk DX6_leads_0 21 rfl) rfl ?_
        refine st_cS C (k_X6_above l G hf hL hL2 hla rfl hc) mf_X6_above ms_X6_above ml_RX6_71 (dk DX6_leads_0 22 rfl) [0] rfl rfl rfl rfl (Nat.le_of_ble_eq_true rfl) ⟨Nat.le_of_ble_eq_true rfl, Nat.le_of_ble_eq_true rfl⟩ ⟨Nat.zero_le _, Nat.zero_le _⟩ (fun r9 w9 hq9 => ?_)
        obtain ⟨rfl, rfl⟩ := hq9
        refine st_istore_n C (dk DX6_leads_0 23 rfl) (by decide) rfl ?_
        have h0 : ¬ st = 0 := fun h => c_1 (by rw [h]; rfl)
        have h1 : ¬ st = 1 := fun h => c_12 (by rw [h]; rfl)
        have h2 : ¬ st = 2 := fun h => c_23 (by rw [h]; rfl)
        refine J40 _ _ ?_ rfl
        have e : ldN s c st = upN s c := by unfold ldN; rw [if_neg h0, if_neg h1, if_neg h2]
        rw [e]
        cases hd : upN s c with
        | none => exact Or.inr ⟨neg1, rfl⟩
        | some k => exact Or.inl ⟨k, rfl, by have := upN_lt hd; omega, by rw [if_pos (upN_lt hd)]⟩
      · refine st_aload_n C (dk DX6_leads_0 16 rfl) rfl ?_
        refine st_iload_n C (dk DX6_leads_0 17 rfl) rfl ?_
        refine st_cS C (k_X6_below l G hf hL hL2 hla rfl hc) mf_X6_below ms_X6_below ml_RX6_67 (dk DX6_leads_0 18 rfl) [0] rfl rfl rfl rfl (Nat.le_of_ble_eq_true rfl) ⟨Nat.le_of_ble_eq_true rfl, Nat.le_of_ble_eq_true rfl⟩ ⟨Nat.zero_le _, Nat.zero_le _⟩ (fun r9 w9 hq9 => ?_)
        obtain ⟨rfl, rfl⟩ := hq9
        refine st_goto C (tgt := 39) (dk DX6_leads_0 19 rfl) (by decide) ?_
        refine st_istore_n C (dk DX6_leads_0 23 rfl) (by decide) rfl ?_
        have hst0 : st = 2 := (eq_nI (a := st) (i := 2) (by omega) (by decide) rfl rfl).mp c_23
        refine J40 _ _ ?_ rfl
        subst hst0
        have e : ldN s c 2 = dnN s c := by unfold ldN; rw [if_neg (by decide), if_neg (by decide), if_pos rfl]
        rw [e]
        cases hd : dnN s c with
        | none => exact Or.inr ⟨neg1, rfl⟩
        | some k => exact Or.inl ⟨k, rfl, by have := dnN_lt hd; omega, by rw [if_pos (dnN_lt hd)]⟩
    · refine st_iload_n C (dk DX6_leads_0 9 rfl) rfl ?_
      refine st_iconst C (v := 1) (dk DX6_leads_0 10 rfl) (by decide) ?_
      refine st_iadd C (dk DX6_leads_0 11 rfl) ?_
      refine st_goto C (tgt := 39) (dk DX6_leads_0 12 rfl) (by decide) ?_
      refine st_istore_n C (dk DX6_leads_0 23 rfl) (by decide) rfl ?_
      have hst0 : st = 1 := (eq_nI (a := st) (i := 1) (by omega) (by decide) rfl rfl).mp c_12
      refine J40 _ _ ?_ rfl
      subst hst0
      exact Or.inl ⟨c + 1, nI_1 c, by omega, by unfold ldN; rw [if_neg (by decide), if_pos rfl]⟩
  · refine st_iload_n C (dk DX6_leads_0 2 rfl) rfl ?_
    refine st_iconst C (v := 1) (dk DX6_leads_0 3 rfl) (by decide) ?_
    refine st_isub C (dk DX6_leads_0 4 rfl) ?_
    refine st_goto C (tgt := 39) (dk DX6_leads_0 5 rfl) (by decide) ?_
    refine st_istore_n C (dk DX6_leads_0 23 rfl) (by decide) rfl ?_
    have hst0 : st = 0 := (eq_nI (a := st) (i := 0) (by omega) (by decide) rfl rfl).mp c_1
    refine J40 _ _ ?_ rfl
    subst hst0
    by_cases h0 : c = 0
    · subst h0
      exact Or.inr ⟨by decide, rfl⟩
    · refine Or.inl ⟨c - 1, pk_sub (b := 1) (by omega), by omega, ?_⟩
      unfold ldN
      rw [if_pos rfl, if_neg h0, if_pos (by omega)]
end
section
/-! the reference: locks, refusals, steps -/
set_option maxHeartbeats 4000000 in
set_option maxRecDepth 100000 in
theorem k_X6_lockOn (l : Launch) (G : wG) {a : Nat} {f : Nat → Int32} {s : mS} {x y : Int32} {c st : Nat} (hf : hd53 f s) (hx : x = nI c) (hc : c < 16) (hy : y = nI st) (hst : st < 5) (h0 : st = 0 → 0 < c) : Con0 l G yX6_lockOn cX6_lockOn 3 (some .int) 0 [.ref a, .int x, .int y] [(a, aI G 53 f)] (fun r w => r = some (.int (nI (wyN s c st))) ∧ w = [(a, aI G 53 f)]) := by
  refine Con.mk (by decide +kernel) (Nat.le_of_ble_eq_true rfl) (fun P C Rr => ?_)
  subst hx
  subst hy
  refine st_iload_n C (dk DX6_lockOn_0 0 rfl) rfl ?_
  refine st_if_ne C (tgt := 15) (dk DX6_lockOn_0 1 rfl) (by decide) (fun c_1 => ?_) (fun c_1 => ?_)
  · refine st_iload_n C (dk DX6_lockOn_0 10 rfl) rfl ?_
    refine st_iconst C (v := 1) (dk DX6_lockOn_0 11 rfl) (by decide) ?_
    refine st_icmp_ne C (tgt := 29) (dk DX6_lockOn_0 12 rfl) (by decide) (fun c_17 => ?_) (fun c_17 => ?_)
    · refine st_iconst C (v := 0) (dk DX6_lockOn_0 19 rfl) (by decide) ?_
      refine Rr 0 0 _ _ _ _ _ _ (Nat.zero_le _) (Nat.zero_le _) (dk DX6_lockOn_0 20 rfl) (.inr (.inl ⟨_, rfl, rfl, rfl, rfl⟩)) rfl ?_
      have h8 : ¬ st = 0 := fun h => c_1 (by rw [h]; rfl)
      have h9 : ¬ st = 1 := fun h => c_17 (by rw [h]; rfl)
      exact ⟨rfl, by unfold wyN; rw [if_neg h8, if_neg h9]; rfl, rfl⟩
    · refine st_aload_n C (dk DX6_lockOn_0 13 rfl) rfl ?_
      refine st_bipush C (v := 22) (dk DX6_lockOn_0 14 rfl) (by decide) ?_
      refine st_iload_n C (dk DX6_lockOn_0 15 rfl) rfl ?_
      refine st_iadd C (dk DX6_lockOn_0 16 rfl) ?_
      refine st_iald C (dk DX6_lockOn_0 17 rfl) 0 rfl (vpA (k := 22) rfl (by omega) (by decide)) ?_
      refine st_goto C (tgt := 30) (dk DX6_lockOn_0 18 rfl) (by decide) ?_
      refine Rr 0 0 _ _ _ _ _ _ (Nat.zero_le _) (Nat.zero_le _) (dk DX6_lockOn_0 20 rfl) (.inr (.inl ⟨_, rfl, rfl, rfl, rfl⟩)) rfl ?_
      have h9 : st = 1 := (eq_nI (a := st) (i := 1) (by omega) (by decide) rfl rfl).mp c_17
      refine ⟨rfl, ?_, rfl⟩
      rw [hf.at (nadd 22 c (x := 22) rfl) (by omega)]
      unfold wyN; rw [if_neg (by omega), if_pos h9]
  · refine st_aload_n C (dk DX6_lockOn_0 2 rfl) rfl ?_
    refine st_bipush C (v := 22) (dk DX6_lockOn_0 3 rfl) (by decide) ?_
    refine st_iload_n C (dk DX6_lockOn_0 4 rfl) rfl ?_
    refine st_iadd C (dk DX6_lockOn_0 5 rfl) ?_
    refine st_iconst C (v := 1) (dk DX6_lockOn_0 6 rfl) (by decide) ?_
    refine st_isub C (dk DX6_lockOn_0 7 rfl) ?_
    refine st_iald C (dk DX6_lockOn_0 8 rfl) 0 rfl (vp_nI (i := 22 + (c - 1)) (by have := h0 ((eq_nI (a := st) (i := 0) (by omega) (by decide) rfl rfl).mp c_1); rw [show (22 : Int32) = nI 22 from rfl, nI_add, show (1 : Int32) = nI 1 from rfl, pk_sub (by omega)]; congr 1; omega) (by omega) (by decide)) ?_
    refine st_goto C (tgt := 30) (dk DX6_lockOn_0 9 rfl) (by decide) ?_
    refine Rr 0 0 _ _ _ _ _ _ (Nat.zero_le _) (Nat.zero_le _) (dk DX6_lockOn_0 20 rfl) (.inr (.inl ⟨_, rfl, rfl, rfl, rfl⟩)) rfl ?_
    have h9 : st = 0 := (eq_nI (a := st) (i := 0) (by omega) (by decide) rfl rfl).mp c_1
    have hc0 := h0 h9
    refine ⟨rfl, ?_, rfl⟩
    rw [hf.at (j := 22 + (c - 1)) (by rw [show (22 : Int32) = nI 22 from rfl, nI_add, show (1 : Int32) = nI 1 from rfl, pk_sub (by omega)]; congr 1; omega) (by omega)]
    unfold wyN; rw [if_pos h9]
theorem wy5 (s : mS) (o5 : ∀ j, j < 15 → s (22 + j) ≤ 5) {c st nx : Nat} (hl : ldN s c st = some nx) (hst : st < 4) (hc : c < 16 := by omega) : wyN s c st ≤ 5 := by
  obtain ⟨g1, g2⟩ := gM_cases hl hst
  unfold wyN
  split
  · rename_i h
    have := g1 h
    exact o5 _ (by omega)
  · split
    · rename_i h; exact o5 _ (g2 h)
    · omega
set_option maxHeartbeats 4000000 in
set_option maxRecDepth 100000 in
theorem k_X6_refused (l : Launch) (G : wG) {a : Nat} {f : Nat → Int32} {s : mS} {y : Int32} {st : Nat} (hf : hd53 f s) (hok : mOk s) (hy : y = nI st) (hst : st < 5) : Con0 l G yX6_refused cX6_refused 4 (some .int) 4 [.ref a, .int y] [(a, aI G 53 f)] (fun r w => r = some (.int (nI (refN s st))) ∧ w = [(a, aI G 53 f)]) := by
  refine Con.mk (by decide +kernel) (Nat.le_of_ble_eq_true rfl) (fun P C Rr => ?_)
  subst hy
  obtain ⟨o1, o2, o3, o4, o5, o6⟩ := hok
  have hpl : f (Int32.toNatClampNeg 1) = nI (s 1) := hf.at (x := 1) (j := 1) rfl (by decide)
  have hha : f (Int32.toNatClampNeg 2) = nI (s 2) := hf.at (x := 2) (j := 2) rfl (by decide)
  have hke : f ((6 : Int32) + nI (s 1)).toNatClampNeg = nI (s (6 + s 1)) := hf.at (nadd 6 (s 1) (x := 6) rfl) (by omega)
  have l2 : s 2 ≤ 5 := by have := o4 16 (by omega); unfold kAt at this; rwa [if_pos rfl] at this
  have lk : s (6 + s 1) ≤ 5 := by have := o4 (s 1) (by omega); unfold kAt at this; rwa [if_neg (by omega)] at this
  refine st_aload_n C (dk DX6_refused_0 0 rfl) rfl ?_
  refine st_iconst C (v := 1) (dk DX6_refused_0 1 rfl) (by decide) ?_
  refine st_iald C (dk DX6_refused_0 2 rfl) 0 rfl (vp_nI (show (1 : Int32) = nI 1 from rfl) (by decide) (by decide)) ?_
  rw [hpl]
  refine st_istore_n C (dk DX6_refused_0 3 rfl) (by decide) rfl ?_
  refine st_iload_n C (dk DX6_refused_0 4 rfl) rfl ?_
  refine st_iconst C (v := 4) (dk DX6_refused_0 5 rfl) (by decide) ?_
  refine st_icmp_ne C (tgt := 30) (dk DX6_refused_0 6 rfl) (by decide) (fun c_6 => ?_) (fun c_6 => ?_)
  · refine st_aload_n C (dk DX6_refused_0 21 rfl) rfl ?_
    refine st_iload_n C (dk DX6_refused_0 22 rfl) rfl ?_
    refine st_iload_n C (dk DX6_refused_0 23 rfl) rfl ?_
    refine st_cS C (k_X6_leads l G hf o1 o2 o6 rfl o3 rfl (st := st) (by have : ¬ st = 4 := (fun h => c_6 (by rw [h]; rfl)); omega)) mf_X6_leads ms_X6_leads ml_RX6_74 (dk DX6_refused_0 24 rfl) [0] rfl rfl rfl rfl (Nat.le_of_ble_eq_true rfl) ⟨Nat.le_of_ble_eq_true rfl, Nat.le_of_ble_eq_true rfl⟩ ⟨Nat.zero_le _, Nat.zero_le _⟩ (fun r9 w9 hq9 => ?_)
    obtain ⟨rfl, rfl⟩ := hq9
    refine st_iconst C (v := -1) (dk DX6_refused_0 25 rfl) (by decide) ?_
    refine st_icmp_ne C (tgt := 42) (dk DX6_refused_0 26 rfl) (by decide) (fun c_37 => ?_) (fun c_37 => ?_)
    · obtain ⟨nx, hl⟩ : ∃ nx, ldN s (s 1) st = some nx := by
        cases h : ldN s (s 1) st with
        | none => exact absurd (by rw [h]; rfl) c_37
        | some nx => exact ⟨nx, rfl⟩
      refine st_aload_n C (dk DX6_refused_0 29 rfl) rfl ?_
      refine st_iload_n C (dk DX6_refused_0 30 rfl) rfl ?_
      refine st_iload_n C (dk DX6_refused_0 31 rfl) rfl ?_
      refine st_cS C (k_X6_lockOn l G hf rfl o3 rfl hst (gM_cases hl (by have : ¬ st = 4 := (fun h => c_6 (by rw [h]; rfl)); omega)).1) mf_X6_lockOn ms_X6_lockOn ml_RX6_78 (dk DX6_refused_0 32 rfl) [0] rfl rfl rfl rfl (Nat.le_of_ble_eq_true rfl) ⟨Nat.le_of_ble_eq_true rfl, Nat.le_of_ble_eq_true rfl⟩ ⟨Nat.zero_le _, Nat.zero_le _⟩ (fun r9 w9 hq9 => ?_)
      obtain ⟨rfl, rfl⟩ := hq9
      refine st_istore_n C (dk DX6_refused_0 33 rfl) (by decide) rfl ?_
      refine st_iload_n C (dk DX6_refused_0 34 rfl) rfl ?_
      refine st_if_le C (tgt := 64) (dk DX6_refused_0 35 rfl) (by decide) (fun c_50 => ?_) (fun c_50 => ?_)
      · refine st_iconst C (v := 0) (dk DX6_refused_1 3 rfl) (by decide) ?_
        refine Rr 0 0 _ _ _ _ _ _ (Nat.zero_le _) (Nat.zero_le _) (dk DX6_refused_1 4 rfl) (.inr (.inl ⟨_, rfl, rfl, rfl, rfl⟩)) rfl ?_
        have h4 : ¬ st = 4 := fun h => c_6 (by rw [h]; rfl)
        have hw5 := wy5 s o5 hl (by omega)
        have hw := (le0_nI (by omega)).mp c_50
        exact ⟨rfl, by unfold refN; rw [if_neg h4, hl, hw]; rfl, rfl⟩
      · refine st_iload_n C (dk DX6_refused_0 36 rfl) rfl ?_
        refine st_aload_n C (dk DX6_refused_0 37 rfl) rfl ?_
        refine st_iconst C (v := 2) (dk DX6_refused_0 38 rfl) (by decide) ?_
        refine st_iald C (dk DX6_refused_0 39 rfl) 0 rfl (vp_nI (show (2 : Int32) = nI 2 from rfl) (by decide) (by decide)) ?_
        refine st_icmp_eq C (tgt := 64) (dk DX6_refused_1 0 rfl) (by decide) (fun c_57 => ?_) (fun c_57 => ?_)
        · refine st_iconst C (v := 0) (dk DX6_refused_1 3 rfl) (by decide) ?_
          refine Rr 0 0 _ _ _ _ _ _ (Nat.zero_le _) (Nat.zero_le _) (dk DX6_refused_1 4 rfl) (.inr (.inl ⟨_, rfl, rfl, rfl, rfl⟩)) rfl ?_
          have h4 : ¬ st = 4 := fun h => c_6 (by rw [h]; rfl)
          have hw5 := wy5 s o5 hl (by omega)
          have hw : 0 < wyN s (s 1) st := by have := mt (le0_nI (by omega)).mpr c_50; omega
          have he : wyN s (s 1) st = s 2 := by rw [hha] at c_57; exact (nI_eq (by omega) (by omega)).mp c_57
          exact ⟨rfl, by unfold refN; rw [if_neg h4, hl]; show _ = some (Value.int (nI (if _ then _ else _))); rw [if_neg (fun h => h.2 he)]; rfl, rfl⟩
        · refine st_iconst C (v := 2) (dk DX6_refused_1 1 rfl) (by decide) ?_
          refine st_goto C (tgt := 65) (dk DX6_refused_1 2 rfl) (by decide) ?_
          refine Rr 0 0 _ _ _ _ _ _ (Nat.zero_le _) (Nat.zero_le _) (dk DX6_refused_1 4 rfl) (.inr (.inl ⟨_, rfl, rfl, rfl, rfl⟩)) rfl ?_
          have h4 : ¬ st = 4 := fun h => c_6 (by rw [h]; rfl)
          have hw5 := wy5 s o5 hl (by omega)
          have hw : 0 < wyN s (s 1) st := by have := mt (le0_nI (by omega)).mpr c_50; omega
          have he : ¬ wyN s (s 1) st = s 2 := fun h => c_57 (by rw [hha, h])
          exact ⟨rfl, by unfold refN; rw [if_neg h4, hl]; show _ = some (Value.int (nI (if _ then _ else _))); rw [if_pos ⟨hw, he⟩]; rfl, rfl⟩
    · refine st_iconst C (v := 1) (dk DX6_refused_0 27 rfl) (by decide) ?_
      refine Rr 0 0 _ _ _ _ _ _ (Nat.zero_le _) (Nat.zero_le _) (dk DX6_refused_0 28 rfl) (.inr (.inl ⟨_, rfl, rfl, rfl, rfl⟩)) rfl ?_
      have h4 : ¬ st = 4 := fun h => c_6 (by rw [h]; rfl)
      have hl : ldN s (s 1) st = none := (opI_lt (fun k hk => ldN_lt o3 hk)).mp c_37
      exact ⟨rfl, by unfold refN; rw [if_neg h4, hl]; rfl, rfl⟩
  · refine st_aload_n C (dk DX6_refused_0 7 rfl) rfl ?_
    refine st_iconst C (v := 2) (dk DX6_refused_0 8 rfl) (by decide) ?_
    refine st_iald C (dk DX6_refused_0 9 rfl) 0 rfl (vp_nI (show (2 : Int32) = nI 2 from rfl) (by decide) (by decide)) ?_
    refine st_if_ne C (tgt := 28) (dk DX6_refused_0 10 rfl) (by decide) (fun c_12 => ?_) (fun c_12 => ?_)
    · refine st_iconst C (v := 0) (dk DX6_refused_0 19 rfl) (by decide) ?_
      refine Rr 0 0 _ _ _ _ _ _ (Nat.zero_le _) (Nat.zero_le _) (dk DX6_refused_0 20 rfl) (.inr (.inl ⟨_, rfl, rfl, rfl, rfl⟩)) rfl ?_
      have h4 : st = 4 := (eq_nI (a := st) (i := 4) (by omega) (by decide) rfl rfl).mp c_6
      have h2 : ¬ s 2 = 0 := fun h => c_12 (by rw [hha, h]; rfl)
      exact ⟨rfl, by unfold refN; rw [if_pos h4, if_neg (fun h => h2 h.1)]; rfl, rfl⟩
    · refine st_aload_n C (dk DX6_refused_0 11 rfl) rfl ?_
      refine st_bipush C (v := 6) (dk DX6_refused_0 12 rfl) (by decide) ?_
      refine st_iload_n C (dk DX6_refused_0 13 rfl) rfl ?_
      refine st_iadd C (dk DX6_refused_0 14 rfl) ?_
      refine st_iald C (dk DX6_refused_0 15 rfl) 0 rfl (vpA (k := 6) rfl (by omega) (by decide)) ?_
      refine st_if_ne C (tgt := 28) (dk DX6_refused_0 16 rfl) (by decide) (fun c_21 => ?_) (fun c_21 => ?_)
      · refine st_iconst C (v := 0) (dk DX6_refused_0 19 rfl) (by decide) ?_
        refine Rr 0 0 _ _ _ _ _ _ (Nat.zero_le _) (Nat.zero_le _) (dk DX6_refused_0 20 rfl) (.inr (.inl ⟨_, rfl, rfl, rfl, rfl⟩)) rfl ?_
        have h4 : st = 4 := (eq_nI (a := st) (i := 4) (by omega) (by decide) rfl rfl).mp c_6
        have h2 : s 2 = 0 := by rw [hha] at c_12; exact (eq_nI (a := s 2) (i := 0) (by omega) (by decide) rfl rfl).mp c_12
        have h3 : ¬ s (6 + s 1) = 0 := fun h => c_21 (by rw [hke, h]; rfl)
        exact ⟨rfl, by unfold refN; rw [if_pos h4, if_neg (fun h => h3 h.2)]; rfl, rfl⟩
      · refine st_iconst C (v := 1) (dk DX6_refused_0 17 rfl) (by decide) ?_
        refine st_goto C (tgt := 29) (dk DX6_refused_0 18 rfl) (by decide) ?_
        refine Rr 0 0 _ _ _ _ _ _ (Nat.zero_le _) (Nat.zero_le _) (dk DX6_refused_0 20 rfl) (.inr (.inl ⟨_, rfl, rfl, rfl, rfl⟩)) rfl ?_
        have h4 : st = 4 := (eq_nI (a := st) (i := 4) (by omega) (by decide) rfl rfl).mp c_6
        have h2 : s 2 = 0 := by rw [hha] at c_12; exact (eq_nI (a := s 2) (i := 0) (by omega) (by decide) rfl rfl).mp c_12
        have h3 : s (6 + s 1) = 0 := by rw [hke] at c_21; exact (eq_nI (a := s (6 + s 1)) (i := 0) (by omega) (by decide) rfl rfl).mp c_21
        exact ⟨rfl, by unfold refN; rw [if_pos h4, if_pos ⟨h2, h3⟩]; rfl, rfl⟩
set_option maxHeartbeats 4000000 in
set_option maxRecDepth 100000 in
theorem k_X6_goes (l : Launch) (G : wG) {a : Nat} {f : Nat → Int32} {s : mS} {y : Int32} {st : Nat} (hf : hd53 f s) (hok : mOk s) (hy : y = nI st) (hst : st < 5) (hr : refN s st = 0) : Con0 l G yX6_goes cX6_goes 4 none 4 [.ref a, .int y] [(a, aI G 53 f)] (fun r w => r = none ∧ ∃ f9 : Nat → Int32, hd53 f9 (goN s st) ∧ w = [(a, aI G 53 f9)]) := by
  refine Con.mk (by decide +kernel) (Nat.le_of_ble_eq_true rfl) (fun P C Rr => ?_)
  subst hy
  obtain ⟨o1, o2, o3, o4, o5, o6⟩ := hok
  have hpl : f (Int32.toNatClampNeg 1) = nI (s 1) := hf.at (x := 1) (j := 1) rfl (by decide)
  have f3 : hd53 (upd f (Int32.toNatClampNeg 3) (f (Int32.toNatClampNeg 3) + 1)) (updS s 3 (s 3 + 1)) := hf.upd (k := 3) rfl (by decide) (by rw [hf.at (x := 3) (j := 3) rfl (by decide), nI_1])
  refine st_aload_n C (dk DX6_goes_0 0 rfl) rfl ?_
  refine st_iconst C (v := 1) (dk DX6_goes_0 1 rfl) (by decide) ?_
  refine st_iald C (dk DX6_goes_0 2 rfl) 0 rfl (vp_nI (show (1 : Int32) = nI 1 from rfl) (by decide) (by decide)) ?_
  rw [hpl]
  refine st_istore_n C (dk DX6_goes_0 3 rfl) (by decide) rfl ?_
  refine st_aload_n C (dk DX6_goes_0 4 rfl) rfl ?_
  refine st_iconst C (v := 3) (dk DX6_goes_0 5 rfl) (by decide) ?_
  refine st_dup2 C (dk DX6_goes_0 6 rfl) rfl rfl ?_
  refine st_iald C (dk DX6_goes_0 7 rfl) 0 rfl (vp_nI (show (3 : Int32) = nI 3 from rfl) (by decide) (by decide)) ?_
  refine st_iconst C (v := 1) (dk DX6_goes_0 8 rfl) (by decide) ?_
  refine st_iadd C (dk DX6_goes_0 9 rfl) ?_
  refine st_iast C (dk DX6_goes_0 10 rfl) 0 rfl (vp_nI (show (3 : Int32) = nI 3 from rfl) (by decide) (by decide)) ?_
  generalize upd f (Int32.toNatClampNeg 3) (f (Int32.toNatClampNeg 3) + 1) = g3 at f3 ⊢
  refine st_iload_n C (dk DX6_goes_0 11 rfl) rfl ?_
  refine st_iconst C (v := 4) (dk DX6_goes_0 12 rfl) (by decide) ?_
  refine st_icmp_ne C (tgt := 46) (dk DX6_goes_0 13 rfl) (by decide) (fun c_13 => ?_) (fun c_13 => ?_)
  · have h4 : ¬ st = 4 := fun h => c_13 (by rw [h]; rfl)
    obtain ⟨nx, hl⟩ : ∃ nx, ldN s (s 1) st = some nx := by
      cases h : ldN s (s 1) st with
      | none => unfold refN at hr; rw [if_neg h4, h] at hr; exact absurd hr Nat.one_ne_zero
      | some nx => exact ⟨nx, rfl⟩
    have hw5 := wy5 s o5 hl (by omega)
    have hcg : ∀ j, 22 ≤ j → updS s 3 (s 3 + 1) j = s j := fun j hj => updS_n _ _ (by omega)
    have e5 : g3 (Int32.toNatClampNeg 5) = nI (s 5) := by rw [f3.at (x := 5) (j := 5) rfl (by decide), updS_n _ _ (by decide)]
    refine st_aload_n C (dk DX6_goes_1 0 rfl) rfl ?_
    refine st_iconst C (v := 5) (dk DX6_goes_1 1 rfl) (by decide) ?_
    refine st_dup2 C (dk DX6_goes_1 2 rfl) rfl rfl ?_
    refine st_iald C (dk DX6_goes_1 3 rfl) 0 rfl (vp_nI (show (5 : Int32) = nI 5 from rfl) (by decide) (by decide)) ?_
    refine st_aload_n C (dk DX6_goes_1 4 rfl) rfl ?_
    refine st_iload_n C (dk DX6_goes_1 5 rfl) rfl ?_
    refine st_iload_n C (dk DX6_goes_1 6 rfl) rfl ?_
    refine st_cS C (k_X6_lockOn l G f3 rfl o3 rfl hst (gM_cases hl (by omega)).1) mf_X6_lockOn ms_X6_lockOn ml_RX6_78 (dk DX6_goes_1 7 rfl) [0] rfl rfl rfl rfl (Nat.le_of_ble_eq_true rfl) ⟨Nat.le_of_ble_eq_true rfl, Nat.le_of_ble_eq_true rfl⟩ ⟨Nat.zero_le _, Nat.zero_le _⟩ (fun r9 w9 hq9 => ?_)
    obtain ⟨rfl, rfl⟩ := hq9
    refine st_if_le C (tgt := 63) (dk DX6_goes_1 8 rfl) (by decide) (fun c_56 => ?_) (fun c_56 => ?_)
    · refine st_iconst C (v := 0) (dk DX6_goes_1 11 rfl) (by decide) ?_
      refine st_iadd C (dk DX6_goes_1 12 rfl) ?_
      refine st_iast C (dk DX6_goes_1 13 rfl) 0 rfl (vp_nI (show (5 : Int32) = nI 5 from rfl) (by decide) (by decide)) ?_
      have f6 : hd53 (upd g3 (Int32.toNatClampNeg 5) (g3 (Int32.toNatClampNeg 5) + 0)) (updS (updS s 3 (s 3 + 1)) 5 (s 5 + (if 0 < wyN s (s 1) st then 1 else 0))) := f3.upd (k := 5) rfl (by decide) (by rw [e5, show (0 : Int32) = nI 0 from rfl, nI_add, if_neg (by rw [wyN_congr hcg] at c_56; have := (le0_nI (by omega)).mp c_56; omega)])
      generalize upd g3 (Int32.toNatClampNeg 5) (g3 (Int32.toNatClampNeg 5) + 0) = g6 at f6 ⊢
      have hcg6 : ∀ j, 22 ≤ j → updS (updS s 3 (s 3 + 1)) 5 (s 5 + (if 0 < wyN s (s 1) st then 1 else 0)) j = s j := fun j hj => by rw [updS_n _ _ (by omega), updS_n _ _ (by omega)]
      have e0 : updS (updS s 3 (s 3 + 1)) 5 (s 5 + (if 0 < wyN s (s 1) st then 1 else 0)) 0 = s 0 := by rw [updS_n _ _ (by omega), updS_n _ _ (by omega)]
      refine st_aload_n C (dk DX6_goes_1 14 rfl) rfl ?_
      refine st_iconst C (v := 1) (dk DX6_goes_1 15 rfl) (by decide) ?_
      refine st_aload_n C (dk DX6_goes_1 16 rfl) rfl ?_
      refine st_iload_n C (dk DX6_goes_1 17 rfl) rfl ?_
      refine st_iload_n C (dk DX6_goes_1 18 rfl) rfl ?_
      refine st_cS C (k_X6_leads l G f6 (by rw [e0]; exact o1) (by rw [e0]; exact o2) (fun j hj => by rw [hcg6 _ (by omega)]; exact o6 j hj) rfl o3 rfl (st := st) (by omega)) mf_X6_leads ms_X6_leads ml_RX6_74 (dk DX6_goes_1 19 rfl) [0] rfl rfl rfl rfl (Nat.le_of_ble_eq_true rfl) ⟨Nat.le_of_ble_eq_true rfl, Nat.le_of_ble_eq_true rfl⟩ ⟨Nat.zero_le _, Nat.zero_le _⟩ (fun r9 w9 hq9 => ?_)
      obtain ⟨rfl, rfl⟩ := hq9
      refine st_iast C (dk DX6_goes_1 20 rfl) 0 rfl (vp_nI (show (1 : Int32) = nI 1 from rfl) (by decide) (by decide)) ?_
      exact Rr 0 0 _ _ _ _ _ _ (Nat.zero_le _) (Nat.zero_le _) (dk DX6_goes_1 21 rfl) (.inl ⟨rfl, rfl, rfl, rfl⟩) rfl ⟨rfl, ⟨rfl, _, by unfold goN; rw [if_neg h4, hl]; exact f6.upd (k := 1) rfl (by decide) (by rw [ldN_congr e0 hcg6, hl]; rfl), rfl⟩⟩
    · refine st_iconst C (v := 1) (dk DX6_goes_1 9 rfl) (by decide) ?_
      refine st_goto C (tgt := 64) (dk DX6_goes_1 10 rfl) (by decide) ?_
      refine st_iadd C (dk DX6_goes_1 12 rfl) ?_
      refine st_iast C (dk DX6_goes_1 13 rfl) 0 rfl (vp_nI (show (5 : Int32) = nI 5 from rfl) (by decide) (by decide)) ?_
      have f6 : hd53 (upd g3 (Int32.toNatClampNeg 5) (g3 (Int32.toNatClampNeg 5) + 1)) (updS (updS s 3 (s 3 + 1)) 5 (s 5 + (if 0 < wyN s (s 1) st then 1 else 0))) := f3.upd (k := 5) rfl (by decide) (by rw [e5, nI_1, if_pos (by rw [wyN_congr hcg] at c_56; have := mt (le0_nI (by omega)).mpr c_56; omega)])
      generalize upd g3 (Int32.toNatClampNeg 5) (g3 (Int32.toNatClampNeg 5) + 1) = g6 at f6 ⊢
      have hcg6 : ∀ j, 22 ≤ j → updS (updS s 3 (s 3 + 1)) 5 (s 5 + (if 0 < wyN s (s 1) st then 1 else 0)) j = s j := fun j hj => by rw [updS_n _ _ (by omega), updS_n _ _ (by omega)]
      have e0 : updS (updS s 3 (s 3 + 1)) 5 (s 5 + (if 0 < wyN s (s 1) st then 1 else 0)) 0 = s 0 := by rw [updS_n _ _ (by omega), updS_n _ _ (by omega)]
      refine st_aload_n C (dk DX6_goes_1 14 rfl) rfl ?_
      refine st_iconst C (v := 1) (dk DX6_goes_1 15 rfl) (by decide) ?_
      refine st_aload_n C (dk DX6_goes_1 16 rfl) rfl ?_
      refine st_iload_n C (dk DX6_goes_1 17 rfl) rfl ?_
      refine st_iload_n C (dk DX6_goes_1 18 rfl) rfl ?_
      refine st_cS C (k_X6_leads l G f6 (by rw [e0]; exact o1) (by rw [e0]; exact o2) (fun j hj => by rw [hcg6 _ (by omega)]; exact o6 j hj) rfl o3 rfl (st := st) (by omega)) mf_X6_leads ms_X6_leads ml_RX6_74 (dk DX6_goes_1 19 rfl) [0] rfl rfl rfl rfl (Nat.le_of_ble_eq_true rfl) ⟨Nat.le_of_ble_eq_true rfl, Nat.le_of_ble_eq_true rfl⟩ ⟨Nat.zero_le _, Nat.zero_le _⟩ (fun r9 w9 hq9 => ?_)
      obtain ⟨rfl, rfl⟩ := hq9
      refine st_iast C (dk DX6_goes_1 20 rfl) 0 rfl (vp_nI (show (1 : Int32) = nI 1 from rfl) (by decide) (by decide)) ?_
      exact Rr 0 0 _ _ _ _ _ _ (Nat.zero_le _) (Nat.zero_le _) (dk DX6_goes_1 21 rfl) (.inl ⟨rfl, rfl, rfl, rfl⟩) rfl ⟨rfl, ⟨rfl, _, by unfold goN; rw [if_neg h4, hl]; exact f6.upd (k := 1) rfl (by decide) (by rw [ldN_congr e0 hcg6, hl]; rfl), rfl⟩⟩
  · have h4 : st = 4 := (eq_nI (a := st) (i := 4) (by omega) (by decide) rfl rfl).mp c_13
    have v2 : g3 (Int32.toNatClampNeg 2) = nI (s 2) := by rw [f3.at (x := 2) (j := 2) rfl (by decide), updS_n _ _ (by decide)]
    have v6 : g3 ((6 : Int32) + nI (s 1)).toNatClampNeg = nI (s (6 + s 1)) := by rw [f3.at (nadd 6 (s 1) (x := 6) rfl) (by omega), updS_n _ _ (by omega)]
    have f4 : hd53 (upd g3 (Int32.toNatClampNeg 2) (g3 ((6 : Int32) + nI (s 1)).toNatClampNeg)) (updS (updS s 3 (s 3 + 1)) 2 (s (6 + s 1))) := f3.upd (k := 2) rfl (by decide) v6
    refine st_aload_n C (dk DX6_goes_0 14 rfl) rfl ?_
    refine st_iconst C (v := 2) (dk DX6_goes_0 15 rfl) (by decide) ?_
    refine st_iald C (dk DX6_goes_0 16 rfl) 0 rfl (vp_nI (show (2 : Int32) = nI 2 from rfl) (by decide) (by decide)) ?_
    refine st_istore_n C (dk DX6_goes_0 17 rfl) (by decide) rfl ?_
    refine st_aload_n C (dk DX6_goes_0 18 rfl) rfl ?_
    refine st_iconst C (v := 2) (dk DX6_goes_0 19 rfl) (by decide) ?_
    refine st_aload_n C (dk DX6_goes_0 20 rfl) rfl ?_
    refine st_bipush C (v := 6) (dk DX6_goes_0 21 rfl) (by decide) ?_
    refine st_iload_n C (dk DX6_goes_0 22 rfl) rfl ?_
    refine st_iadd C (dk DX6_goes_0 23 rfl) ?_
    refine st_iald C (dk DX6_goes_0 24 rfl) 0 rfl (vpA (k := 6) rfl (by omega) (by decide)) ?_
    refine st_iast C (dk DX6_goes_0 25 rfl) 0 rfl (vp_nI (show (2 : Int32) = nI 2 from rfl) (by decide) (by decide)) ?_
    generalize upd g3 (Int32.toNatClampNeg 2) (g3 ((6 : Int32) + nI (s 1)).toNatClampNeg) = g4 at f4 ⊢
    have f5 : hd53 (upd g4 ((6 : Int32) + nI (s 1)).toNatClampNeg (g3 (Int32.toNatClampNeg 2))) (updS (updS (updS s 3 (s 3 + 1)) 2 (s (6 + s 1))) (6 + s 1) (s 2)) := f4.upd (nadd 6 (s 1) (x := 6) rfl) (by omega) v2
    refine st_aload_n C (dk DX6_goes_0 26 rfl) rfl ?_
    refine st_bipush C (v := 6) (dk DX6_goes_0 27 rfl) (by decide) ?_
    refine st_iload_n C (dk DX6_goes_0 28 rfl) rfl ?_
    refine st_iadd C (dk DX6_goes_0 29 rfl) ?_
    refine st_iload_n C (dk DX6_goes_0 30 rfl) rfl ?_
    refine st_iast C (dk DX6_goes_0 31 rfl) 0 rfl (vpA (k := 6) rfl (by omega) (by decide)) ?_
    generalize upd g4 ((6 : Int32) + nI (s 1)).toNatClampNeg (g3 (Int32.toNatClampNeg 2)) = g5 at f5 ⊢
    have e4 : updS (updS (updS s 3 (s 3 + 1)) 2 (s (6 + s 1))) (6 + s 1) (s 2) 4 = s 4 := by rw [updS_n _ _ (by omega), updS_n _ _ (by omega), updS_n _ _ (by omega)]
    refine st_aload_n C (dk DX6_goes_0 32 rfl) rfl ?_
    refine st_iconst C (v := 4) (dk DX6_goes_0 33 rfl) (by decide) ?_
    refine st_dup2 C (dk DX6_goes_0 34 rfl) rfl rfl ?_
    refine st_iald C (dk DX6_goes_0 35 rfl) 0 rfl (vp_nI (show (4 : Int32) = nI 4 from rfl) (by decide) (by decide)) ?_
    refine st_iconst C (v := 1) (dk DX6_goes_0 36 rfl) (by decide) ?_
    refine st_iadd C (dk DX6_goes_0 37 rfl) ?_
    refine st_iast C (dk DX6_goes_0 38 rfl) 0 rfl (vp_nI (show (4 : Int32) = nI 4 from rfl) (by decide) (by decide)) ?_
    refine st_goto C (tgt := 75) (dk DX6_goes_0 39 rfl) (by decide) ?_
    exact Rr 0 0 _ _ _ _ _ _ (Nat.zero_le _) (Nat.zero_le _) (dk DX6_goes_1 21 rfl) (.inl ⟨rfl, rfl, rfl, rfl⟩) rfl ⟨rfl, ⟨rfl, _, by unfold goN; rw [if_pos h4, ← e4]; exact f5.upd (k := 4) rfl (by decide) (by rw [f5.at (x := 4) (j := 4) rfl (by decide), nI_1]), rfl⟩⟩
end
section
/-! the reference: its graph -/
theorem gt0_nI {b : Nat} (h : b < 2 ^ 31) : ¬ nI b ≤ 0 ↔ 0 < b := by rw [le0_nI h]; omega
theorem bgnN_le {s : mS} (h : ∀ a, a ≤ 16 → kAt s a ≤ 5) : ∀ n, n ≤ 16 → (bgnN s n).1 ≤ 5 ∧ (bgnN s n).2.1 ≤ 16 ∧ (bgnN s n).2.2.1 ≤ 5 ∧ (bgnN s n).2.2.2 ≤ 16
  | 0, _ => by
    have := h 16 (by omega)
    unfold kAt at this
    rw [if_pos rfl] at this
    refine ⟨this, ?_, Nat.zero_le _, Nat.zero_le _⟩
    show (if 0 < s 2 then 16 else 0) ≤ 16
    split <;> omega
  | n + 1, hn => by
    obtain ⟨h1, h2, h3, h4⟩ := bgnN_le h n (by omega)
    have h5 := h n (by omega)
    unfold kAt at h5
    rw [if_neg (by omega)] at h5
    unfold bgnN
    split
    · exact ⟨h5, by simp only; omega, h3, h4⟩
    · split
      · exact ⟨h1, h2, h5, by simp only; omega⟩
      · exact ⟨h1, h2, h3, h4⟩
theorem bgnN_0 {s : mS} {n : Nat} (h : s (6 + n) = 0) : bgnN s (n + 1) = bgnN s n := by show (if _ then _ else _) = _; rw [if_neg (by omega), if_neg (by omega)]
theorem bgnN_1 {s : mS} {n : Nat} (h : 0 < s (6 + n)) (h0 : (bgnN s n).1 = 0) : bgnN s (n + 1) = (s (6 + n), n, (bgnN s n).2.2.1, (bgnN s n).2.2.2) := by show (if _ then _ else _) = _; rw [if_pos ⟨h, h0⟩]
theorem bgnN_2 {s : mS} {n : Nat} (h : 0 < s (6 + n)) (h0 : ¬ (bgnN s n).1 = 0) : bgnN s (n + 1) = ((bgnN s n).1, (bgnN s n).2.1, s (6 + n), n) := by show (if _ then _ else _) = _; rw [if_neg (fun q => h0 q.2), if_pos h]
set_option maxHeartbeats 4000000 in
set_option maxRecDepth 100000 in
theorem k_X6_begins (l : Launch) (G : wG) {M : Nat} {A : Nat → Nat} {ke ty th ap ft bo ot il : Int32} {a : Nat} {f : Nat → Int32} {s : mS} (hf : hd53 f s) (hok : mOk s) : Con0 l G yX6_begins cX6_begins 6 (some .int) 0 [.ref M, .ref a] [(M, ob 5 (mF A ke ty th ap ft bo ot il)), (a, aI G 53 f)] (fun r w => r = some (.int (nI (emN (s 1, (bgnN s 16).2.1, (bgnN s 16).2.2.2)))) ∧ w = [(M, ob 5 (mF A ke ty th ap ft (nI (bgnN s 16).1) (nI (bgnN s 16).2.2.1) il)), (a, aI G 53 f)]) := by
  refine Con.mk (by decide +kernel) (Nat.le_of_ble_eq_true rfl) (fun P C Rr => ?_)
  obtain ⟨o1, o2, o3, hk5, o5, o6⟩ := hok
  have loop : ∀ (m i : Nat) (x : Int32) (b9 o9 x2 x3 : Int32), i + m = 16 → x = nI i → b9 = nI (bgnN s i).1 → x2 = nI (bgnN s i).2.1 → o9 = nI (bgnN s i).2.2.1 → x3 = nI (bgnN s i).2.2.2 → P 0 0 33 [(0, .ref M), (1, .ref a), (2, .int x2), (3, .int x3), (4, .int x)] [] [(M, ob 5 (mF A ke ty th ap ft b9 o9 il)), (a, aI G 53 f)] := by
    intro m
    induction m with
    | zero =>
      intro i x b9 o9 x2 x3 hi hx hb h2 ho h3
      obtain rfl : i = 16 := by omega
      refine st_iload C (dk DX6_begins_0 21 rfl) rfl ?_
      refine st_bipush C (v := 16) (dk DX6_begins_0 22 rfl) (by decide) ?_
      refine st_icmp_ge C (tgt := 93) (dk DX6_begins_0 23 rfl) (by decide) (fun c_37 => ?_) (fun c_37 => ?_)
      · refine st_sipush C (v := 289) (dk DX6_begins_1 10 rfl) (by decide) ?_
        refine st_aload_n C (dk DX6_begins_1 11 rfl) rfl ?_
        refine st_iconst C (v := 1) (dk DX6_begins_1 12 rfl) (by decide) ?_
        refine st_iald C (dk DX6_begins_1 13 rfl) 1 rfl (vp_nI (show (1 : Int32) = nI 1 from rfl) (by decide) (by decide)) ?_
        refine st_imul C (dk DX6_begins_1 14 rfl) ?_
        refine st_bipush C (v := 17) (dk DX6_begins_1 15 rfl) (by decide) ?_
        refine st_iload_n C (dk DX6_begins_1 16 rfl) rfl ?_
        refine st_imul C (dk DX6_begins_1 17 rfl) ?_
        refine st_iadd C (dk DX6_begins_1 18 rfl) ?_
        refine st_iload_n C (dk DX6_begins_1 19 rfl) rfl ?_
        refine st_iadd C (dk DX6_begins_1 20 rfl) ?_
        refine Rr 0 0 _ _ _ _ _ _ (Nat.zero_le _) (Nat.zero_le _) (dk DX6_begins_1 21 rfl) (.inr (.inl ⟨_, rfl, rfl, rfl, rfl⟩)) rfl ?_
        have hle := bgnN_le hk5 16 (by omega)
        refine ⟨rfl, ?_, by rw [hb, ho]; rfl⟩
        rw [hf.at (x := 1) (j := 1) rfl (by decide), h2, h3, show (289 : Int32) = nI 289 from rfl, show (17 : Int32) = nI 17 from rfl, pk_mul, pk_mul, nI_add, nI_add]
        rfl
      · exact absurd ((ge_nI (a := 16) (i := 16) (by decide) (by decide) rfl hx).mpr (Nat.le_refl _)) c_37
    | succ m ih =>
      intro i x b9 o9 x2 x3 hi hx hb h2 ho h3
      have hle := bgnN_le hk5 i (by omega)
      have h5 := hk5 i (by omega)
      unfold kAt at h5
      rw [if_neg (by omega)] at h5
      have hv : f ((6 : Int32) + x).toNatClampNeg = nI (s (6 + i)) := by rw [hx]; exact hf.at (nadd 6 i rfl) (by omega)
      refine st_iload C (dk DX6_begins_0 21 rfl) rfl ?_
      refine st_bipush C (v := 16) (dk DX6_begins_0 22 rfl) (by decide) ?_
      refine st_icmp_ge C (tgt := 93) (dk DX6_begins_0 23 rfl) (by decide) (fun c_37 => ?_) (fun c_37 => ?_)
      · exact absurd ((ge_nI (a := 16) (i := i) (by decide) (by omega) rfl hx).mp c_37) (by omega)
      · refine st_aload_n C (dk DX6_begins_0 24 rfl) rfl ?_
        refine st_bipush C (v := 6) (dk DX6_begins_0 25 rfl) (by decide) ?_
        refine st_iload C (dk DX6_begins_0 26 rfl) rfl ?_
        refine st_iadd C (dk DX6_begins_0 27 rfl) ?_
        refine st_iald C (dk DX6_begins_0 28 rfl) 1 rfl (by rw [hx]; exact vpA (k := 6) rfl (by omega : 6 + i < 53) (by decide)) ?_
        rw [hv]
        refine st_istore C (dk DX6_begins_0 29 rfl) (by decide) rfl ?_
        refine st_iload C (dk DX6_begins_0 30 rfl) rfl ?_
        refine st_if_le C (tgt := 73) (dk DX6_begins_0 31 rfl) (by decide) (fun c_51 => ?_) (fun c_51 => ?_)
        · refine st_iload C (dk DX6_begins_1 1 rfl) rfl ?_
          refine st_if_le C (tgt := 87) (dk DX6_begins_1 2 rfl) (by decide) (fun c_75 => ?_) (fun c_75 => ?_)
          · have h6 : s (6 + i) = 0 := (le0_nI (by omega)).mp c_75
            refine st_iinc C (dk DX6_begins_1 8 rfl) rfl (iadd_ofInt _ (1) (1) (by decide)) (by decide) rfl ?_
            refine st_goto C (tgt := 33) (dk DX6_begins_1 9 rfl) (by decide) ?_
            refine st_lv C [0, 1, 2, 3, 4] rfl ?_
            exact ih (i + 1) _ _ _ _ _ (by omega) (up_nI hx) (by rw [bgnN_0 h6]; exact hb) (by rw [bgnN_0 h6]; exact h2) (by rw [bgnN_0 h6]; exact ho) (by rw [bgnN_0 h6]; exact h3)
          · exact absurd c_51 c_75
        · refine st_aload_n C (dk DX6_begins_0 32 rfl) rfl ?_
          refine st_get C fl_RX6_81 (dk DX6_begins_0 33 rfl) 0 rfl rfl ?_
          refine st_if_ne C (tgt := 73) (dk DX6_begins_0 34 rfl) (by decide) (fun c_58 => ?_) (fun c_58 => ?_)
          · refine st_iload C (dk DX6_begins_1 1 rfl) rfl ?_
            refine st_if_le C (tgt := 87) (dk DX6_begins_1 2 rfl) (by decide) (fun c_75 => ?_) (fun c_75 => ?_)
            · exact absurd c_75 c_51
            · have h6 : 0 < s (6 + i) := (gt0_nI (by omega)).mp c_75
              have hb0 : ¬ (bgnN s i).1 = 0 := fun h => c_58 (by rw [hb, h]; rfl)
              refine st_aload_n C (dk DX6_begins_1 3 rfl) rfl ?_
              refine st_iload C (dk DX6_begins_1 4 rfl) rfl ?_
              refine st_put C fl_RX6_84 fc_5 fw_5_16 (dk DX6_begins_1 5 rfl) 0 rfl rfl rfl (Nat.le_of_ble_eq_true rfl) ?_
              refine st_iload C (dk DX6_begins_1 6 rfl) rfl ?_
              refine st_istore_n C (dk DX6_begins_1 7 rfl) (by decide) rfl ?_
              refine st_iinc C (dk DX6_begins_1 8 rfl) rfl (iadd_ofInt _ (1) (1) (by decide)) (by decide) rfl ?_
              refine st_goto C (tgt := 33) (dk DX6_begins_1 9 rfl) (by decide) ?_
              refine st_lv C [0, 1, 2, 3, 4] rfl ?_
              exact ih (i + 1) _ _ _ _ _ (by omega) (up_nI hx) (by rw [bgnN_2 h6 hb0]; exact hb) (by rw [bgnN_2 h6 hb0]; exact h2) (by rw [bgnN_2 h6 hb0]) (by rw [bgnN_2 h6 hb0]; exact hx)
          · have h6 : 0 < s (6 + i) := (gt0_nI (by omega)).mp c_51
            have hb0 : (bgnN s i).1 = 0 := by rw [hb] at c_58; exact (eq_nI (a := (bgnN s i).1) (i := 0) (by omega) (by decide) rfl rfl).mp c_58
            refine st_aload_n C (dk DX6_begins_0 35 rfl) rfl ?_
            refine st_iload C (dk DX6_begins_0 36 rfl) rfl ?_
            refine st_put C fl_RX6_81 fc_5 fw_5_15 (dk DX6_begins_0 37 rfl) 0 rfl rfl rfl (Nat.le_of_ble_eq_true rfl) ?_
            refine st_iload C (dk DX6_begins_0 38 rfl) rfl ?_
            refine st_istore_n C (dk DX6_begins_0 39 rfl) (by decide) rfl ?_
            refine st_goto C (tgt := 87) (dk DX6_begins_1 0 rfl) (by decide) ?_
            refine st_iinc C (dk DX6_begins_1 8 rfl) rfl (iadd_ofInt _ (1) (1) (by decide)) (by decide) rfl ?_
            refine st_goto C (tgt := 33) (dk DX6_begins_1 9 rfl) (by decide) ?_
            refine st_lv C [0, 1, 2, 3, 4] rfl ?_
            exact ih (i + 1) _ _ _ _ _ (by omega) (up_nI hx) (by rw [bgnN_1 h6 hb0]) (by rw [bgnN_1 h6 hb0]; exact hx) (by rw [bgnN_1 h6 hb0]; exact ho) (by rw [bgnN_1 h6 hb0]; exact h3)
  refine st_iconst C (v := 0) (dk DX6_begins_0 0 rfl) (by decide) ?_
  refine st_istore_n C (dk DX6_begins_0 1 rfl) (by decide) rfl ?_
  refine st_iconst C (v := 0) (dk DX6_begins_0 2 rfl) (by decide) ?_
  refine st_istore_n C (dk DX6_begins_0 3 rfl) (by decide) rfl ?_
  refine st_aload_n C (dk DX6_begins_0 4 rfl) rfl ?_
  refine st_aload_n C (dk DX6_begins_0 5 rfl) rfl ?_
  refine st_iconst C (v := 2) (dk DX6_begins_0 6 rfl) (by decide) ?_
  refine st_iald C (dk DX6_begins_0 7 rfl) 1 rfl (vp_nI (show (2 : Int32) = nI 2 from rfl) (by decide) (by decide)) ?_
  rw [show f (Int32.toNatClampNeg 2) = nI (s 2) from hf.at (j := 2) rfl (by decide)]
  refine st_put C fl_RX6_81 fc_5 fw_5_15 (dk DX6_begins_0 8 rfl) 0 rfl rfl rfl (Nat.le_of_ble_eq_true rfl) ?_
  refine st_aload_n C (dk DX6_begins_0 9 rfl) rfl ?_
  refine st_iconst C (v := 0) (dk DX6_begins_0 10 rfl) (by decide) ?_
  refine st_put C fl_RX6_84 fc_5 fw_5_16 (dk DX6_begins_0 11 rfl) 0 rfl rfl rfl (Nat.le_of_ble_eq_true rfl) ?_
  refine st_aload_n C (dk DX6_begins_0 12 rfl) rfl ?_
  refine st_get C fl_RX6_81 (dk DX6_begins_0 13 rfl) 0 rfl rfl ?_
  refine st_if_le C (tgt := 28) (dk DX6_begins_0 14 rfl) (by decide) (fun c_20 => ?_) (fun c_20 => ?_)
  · refine st_iconst C (v := 0) (dk DX6_begins_0 17 rfl) (by decide) ?_
    refine st_istore_n C (dk DX6_begins_0 18 rfl) (by decide) rfl ?_
    refine st_iconst C (v := 0) (dk DX6_begins_0 19 rfl) (by decide) ?_
    refine st_istore C (dk DX6_begins_0 20 rfl) (by decide) rfl ?_
    have h5 := hk5 16 (by omega)
    unfold kAt at h5
    rw [if_pos rfl] at h5
    exact loop 16 0 _ _ _ _ _ (by omega) rfl rfl (by show 0 = nI (if 0 < s 2 then 16 else 0); rw [if_neg (by have := (le0_nI (by omega)).mp c_20; omega)]; rfl) rfl rfl
  · refine st_bipush C (v := 16) (dk DX6_begins_0 15 rfl) (by decide) ?_
    refine st_goto C (tgt := 29) (dk DX6_begins_0 16 rfl) (by decide) ?_
    refine st_istore_n C (dk DX6_begins_0 18 rfl) (by decide) rfl ?_
    refine st_iconst C (v := 0) (dk DX6_begins_0 19 rfl) (by decide) ?_
    refine st_istore C (dk DX6_begins_0 20 rfl) (by decide) rfl ?_
    have h5 := hk5 16 (by omega)
    unfold kAt at h5
    rw [if_pos rfl] at h5
    exact loop 16 0 _ _ _ _ _ (by omega) rfl rfl (by show 16 = nI (if 0 < s 2 then 16 else 0); rw [if_pos ((gt0_nI (by omega)).mp c_20)]; rfl) rfl rfl
end
section
/-! the reference: changed, behind -/
theorem b01_t {p : Prop} [Decidable p] {v : Int32} (h : v = if p then 1 else 0) (h0 : ¬ v = 0) : p := by
  by_cases hp : p
  · exact hp
  · rw [if_neg hp] at h; exact absurd h h0
theorem b01_f {p : Prop} [Decidable p] {v : Int32} (h : v = if p then 1 else 0) (h0 : v = 0) : ¬ p := by
  intro hp
  rw [if_pos hp, h0] at h
  exact absurd h (by decide)
def gI (o : Option bT) : Int32 := match o with
  | none => -1
  | some t => nI (emN t)
theorem mvN_le {b a c : Nat} (ha : a ≤ 16) (hc : c < 16) : mvN b a c ≤ 16 := by unfold mvN; split <;> (try split) <;> omega
set_option maxHeartbeats 4000000 in
set_option maxRecDepth 100000 in
theorem k_X6_changed (l : Launch) (G : wG) {M : Nat} {A : Nat → Nat} {ke ty th ap ft il : Int32} {b1 b2 : Nat} {c o w : Nat} {x y z : Int32} (hb1 : b1 ≤ 5) (hb2 : b2 ≤ 5) (hp : x = nI c) (hc : c < 16) (ho : y = nI o) (hol : o ≤ 16) (hw : z = nI w) (hwl : w ≤ 16) : Con0 l G yX6_changed cX6_changed 8 (some .int) 0 [.ref M, .int x, .int y, .int z] [(M, ob 5 (mF A ke ty th ap ft (nI b1) (nI b2) il))] (fun r v => r = some (.int (if (0 < b1 ∧ (o = c ∨ o = 16)) ∨ (0 < b2 ∧ (w = c ∨ w = 16)) then nI (emN (c, mvN b1 o c, mvN b2 w c)) else -1)) ∧ v = [(M, ob 5 (mF A ke ty th ap ft (nI b1) (nI b2) il))]) := by
  refine Con.mk (by decide +kernel) (Nat.le_of_ble_eq_true rfl) (fun P C Rr => ?_)
  subst hp
  subst ho
  subst hw
  have J94 : ∀ (v4 v5 v6 v7 : Int32), v4 = (if 0 < b1 ∧ (o = c ∨ o = 16) then 1 else 0) → v5 = (if 0 < b2 ∧ (w = c ∨ w = 16) then 1 else 0) → v6 = nI (mvN b1 o c) → v7 = nI (mvN b2 w c) → P 0 0 94 [(0, .ref M), (1, .int (nI c)), (2, .int (nI o)), (3, .int (nI w)), (4, .int v4), (5, .int v5), (6, .int v6), (7, .int v7)] [] [(M, ob 5 (mF A ke ty th ap ft (nI b1) (nI b2) il))] := by
    intro v4 v5 v6 v7 h4 h5 h6 h7
    refine st_iload C (dk DX6_changed_1 8 rfl) rfl ?_
    refine st_if_ne C (tgt := 104) (dk DX6_changed_1 9 rfl) (by decide) (fun c_96 => ?_) (fun c_96 => ?_)
    · refine st_sipush C (v := 289) (dk DX6_changed_1 12 rfl) (by decide) ?_
      refine st_iload_n C (dk DX6_changed_1 13 rfl) rfl ?_
      refine st_imul C (dk DX6_changed_1 14 rfl) ?_
      refine st_bipush C (v := 17) (dk DX6_changed_1 15 rfl) (by decide) ?_
      refine st_iload C (dk DX6_changed_1 16 rfl) rfl ?_
      refine st_imul C (dk DX6_changed_1 17 rfl) ?_
      refine st_iadd C (dk DX6_changed_1 18 rfl) ?_
      refine st_iload C (dk DX6_changed_1 19 rfl) rfl ?_
      refine st_iadd C (dk DX6_changed_1 20 rfl) ?_
      refine st_goto C (tgt := 122) (dk DX6_changed_1 21 rfl) (by decide) ?_
      refine Rr 0 0 _ _ _ _ _ _ (Nat.zero_le _) (Nat.zero_le _) (dk DX6_changed_1 23 rfl) (.inr (.inl ⟨_, rfl, rfl, rfl, rfl⟩)) rfl ?_
      refine ⟨rfl, ?_, rfl⟩
      rw [if_pos (Or.inl (b01_t h4 c_96)), h6, h7, show (289 : Int32) = nI 289 from rfl, show (17 : Int32) = nI 17 from rfl, pk_mul, pk_mul, nI_add, nI_add]
      rfl
    · refine st_iload C (dk DX6_changed_1 10 rfl) rfl ?_
      refine st_if_eq C (tgt := 121) (dk DX6_changed_1 11 rfl) (by decide) (fun c_101 => ?_) (fun c_101 => ?_)
      · refine st_iconst C (v := -1) (dk DX6_changed_1 22 rfl) (by decide) ?_
        refine Rr 0 0 _ _ _ _ _ _ (Nat.zero_le _) (Nat.zero_le _) (dk DX6_changed_1 23 rfl) (.inr (.inl ⟨_, rfl, rfl, rfl, rfl⟩)) rfl ?_
        have n4 := b01_f h4 c_96
        have n5 := b01_f h5 c_101
        exact ⟨rfl, by rw [if_neg (fun h => h.elim n4 n5)], rfl⟩
      · refine st_sipush C (v := 289) (dk DX6_changed_1 12 rfl) (by decide) ?_
        refine st_iload_n C (dk DX6_changed_1 13 rfl) rfl ?_
        refine st_imul C (dk DX6_changed_1 14 rfl) ?_
        refine st_bipush C (v := 17) (dk DX6_changed_1 15 rfl) (by decide) ?_
        refine st_iload C (dk DX6_changed_1 16 rfl) rfl ?_
        refine st_imul C (dk DX6_changed_1 17 rfl) ?_
        refine st_iadd C (dk DX6_changed_1 18 rfl) ?_
        refine st_iload C (dk DX6_changed_1 19 rfl) rfl ?_
        refine st_iadd C (dk DX6_changed_1 20 rfl) ?_
        refine st_goto C (tgt := 122) (dk DX6_changed_1 21 rfl) (by decide) ?_
        refine Rr 0 0 _ _ _ _ _ _ (Nat.zero_le _) (Nat.zero_le _) (dk DX6_changed_1 23 rfl) (.inr (.inl ⟨_, rfl, rfl, rfl, rfl⟩)) rfl ?_
        refine ⟨rfl, ?_, rfl⟩
        rw [if_pos (Or.inr (b01_t h5 c_101)), h6, h7, show (289 : Int32) = nI 289 from rfl, show (17 : Int32) = nI 17 from rfl, pk_mul, pk_mul, nI_add, nI_add]
        rfl
  have J72 : ∀ (v4 v5 v6 : Int32), v4 = (if 0 < b1 ∧ (o = c ∨ o = 16) then 1 else 0) → v5 = (if 0 < b2 ∧ (w = c ∨ w = 16) then 1 else 0) → v6 = nI (mvN b1 o c) → P 0 0 72 [(0, .ref M), (1, .int (nI c)), (2, .int (nI o)), (3, .int (nI w)), (4, .int v4), (5, .int v5), (6, .int v6)] [] [(M, ob 5 (mF A ke ty th ap ft (nI b1) (nI b2) il))] := by
    intro v4 v5 v6 h4 h5 h6
    refine st_iload C (dk DX6_changed_0 37 rfl) rfl ?_
    refine st_if_ne C (tgt := 81) (dk DX6_changed_0 38 rfl) (by decide) (fun c_74 => ?_) (fun c_74 => ?_)
    · refine st_iload_n C (dk DX6_changed_1 1 rfl) rfl ?_
      refine st_iload_n C (dk DX6_changed_1 2 rfl) rfl ?_
      refine st_icmp_ne C (tgt := 91) (dk DX6_changed_1 3 rfl) (by decide) (fun c_83 => ?_) (fun c_83 => ?_)
      · refine st_iload_n C (dk DX6_changed_1 6 rfl) rfl ?_
        refine st_istore C (dk DX6_changed_1 7 rfl) (by decide) rfl ?_
        exact J94 _ _ _ _ h4 h5 h6 (by unfold mvN; rw [if_pos (b01_t h5 c_74), if_neg (fun e => c_83 (by rw [e]))])
      · refine st_bipush C (v := 16) (dk DX6_changed_1 4 rfl) (by decide) ?_
        refine st_goto C (tgt := 92) (dk DX6_changed_1 5 rfl) (by decide) ?_
        refine st_istore C (dk DX6_changed_1 7 rfl) (by decide) rfl ?_
        exact J94 _ _ _ _ h4 h5 h6 (by unfold mvN; rw [if_pos (b01_t h5 c_74), if_pos ((nI_eq (by omega) (by omega)).mp c_83)]; rfl)
    · refine st_iload_n C (dk DX6_changed_0 39 rfl) rfl ?_
      refine st_goto C (tgt := 92) (dk DX6_changed_1 0 rfl) (by decide) ?_
      refine st_istore C (dk DX6_changed_1 7 rfl) (by decide) rfl ?_
      exact J94 _ _ _ _ h4 h5 h6 (by unfold mvN; rw [if_neg (b01_f h5 c_74)])
  have J50 : ∀ (v4 v5 : Int32), v4 = (if 0 < b1 ∧ (o = c ∨ o = 16) then 1 else 0) → v5 = (if 0 < b2 ∧ (w = c ∨ w = 16) then 1 else 0) → P 0 0 50 [(0, .ref M), (1, .int (nI c)), (2, .int (nI o)), (3, .int (nI w)), (4, .int v4), (5, .int v5)] [] [(M, ob 5 (mF A ke ty th ap ft (nI b1) (nI b2) il))] := by
    intro v4 v5 h4 h5
    refine st_iload C (dk DX6_changed_0 26 rfl) rfl ?_
    refine st_if_ne C (tgt := 59) (dk DX6_changed_0 27 rfl) (by decide) (fun c_52 => ?_) (fun c_52 => ?_)
    · refine st_iload_n C (dk DX6_changed_0 30 rfl) rfl ?_
      refine st_iload_n C (dk DX6_changed_0 31 rfl) rfl ?_
      refine st_icmp_ne C (tgt := 69) (dk DX6_changed_0 32 rfl) (by decide) (fun c_61 => ?_) (fun c_61 => ?_)
      · refine st_iload_n C (dk DX6_changed_0 35 rfl) rfl ?_
        refine st_istore C (dk DX6_changed_0 36 rfl) (by decide) rfl ?_
        exact J72 _ _ _ h4 h5 (by unfold mvN; rw [if_pos (b01_t h4 c_52), if_neg (fun e => c_61 (by rw [e]))])
      · refine st_bipush C (v := 16) (dk DX6_changed_0 33 rfl) (by decide) ?_
        refine st_goto C (tgt := 70) (dk DX6_changed_0 34 rfl) (by decide) ?_
        refine st_istore C (dk DX6_changed_0 36 rfl) (by decide) rfl ?_
        exact J72 _ _ _ h4 h5 (by unfold mvN; rw [if_pos (b01_t h4 c_52), if_pos ((nI_eq (by omega) (by omega)).mp c_61)]; rfl)
    · refine st_iload_n C (dk DX6_changed_0 28 rfl) rfl ?_
      refine st_goto C (tgt := 70) (dk DX6_changed_0 29 rfl) (by decide) ?_
      refine st_istore C (dk DX6_changed_0 36 rfl) (by decide) rfl ?_
      exact J72 _ _ _ h4 h5 (by unfold mvN; rw [if_neg (b01_f h4 c_52)])
  have J25 : ∀ (v4 : Int32), v4 = (if 0 < b1 ∧ (o = c ∨ o = 16) then 1 else 0) → P 0 0 25 [(0, .ref M), (1, .int (nI c)), (2, .int (nI o)), (3, .int (nI w)), (4, .int v4)] [] [(M, ob 5 (mF A ke ty th ap ft (nI b1) (nI b2) il))] := by
    intro v4 h4
    refine st_aload_n C (dk DX6_changed_0 13 rfl) rfl ?_
    refine st_get C fl_RX6_84 (dk DX6_changed_0 14 rfl) 0 rfl rfl ?_
    refine st_if_le C (tgt := 47) (dk DX6_changed_0 15 rfl) (by decide) (fun c_29 => ?_) (fun c_29 => ?_)
    · refine st_iconst C (v := 0) (dk DX6_changed_0 24 rfl) (by decide) ?_
      refine st_istore C (dk DX6_changed_0 25 rfl) (by decide) rfl ?_
      rw [le0_nI (by omega)] at c_29
      exact J50 _ _ h4 (by rw [if_neg (show ¬ (0 < b2 ∧ (w = c ∨ w = 16)) by omega)])
    · refine st_iload_n C (dk DX6_changed_0 16 rfl) rfl ?_
      refine st_iload_n C (dk DX6_changed_0 17 rfl) rfl ?_
      refine st_icmp_eq C (tgt := 43) (dk DX6_changed_0 18 rfl) (by decide) (fun c_34 => ?_) (fun c_34 => ?_)
      · refine st_iconst C (v := 1) (dk DX6_changed_0 22 rfl) (by decide) ?_
        refine st_goto C (tgt := 48) (dk DX6_changed_0 23 rfl) (by decide) ?_
        refine st_istore C (dk DX6_changed_0 25 rfl) (by decide) rfl ?_
        rw [le0_nI (by omega)] at c_29
        rw [nI_eq (by omega) (by omega)] at c_34
        exact J50 _ _ h4 (by rw [if_pos (show (0 < b2 ∧ (w = c ∨ w = 16)) by omega)])
      · refine st_iload_n C (dk DX6_changed_0 19 rfl) rfl ?_
        refine st_bipush C (v := 16) (dk DX6_changed_0 20 rfl) (by decide) ?_
        refine st_icmp_ne C (tgt := 47) (dk DX6_changed_0 21 rfl) (by decide) (fun c_40 => ?_) (fun c_40 => ?_)
        · refine st_iconst C (v := 0) (dk DX6_changed_0 24 rfl) (by decide) ?_
          refine st_istore C (dk DX6_changed_0 25 rfl) (by decide) rfl ?_
          rw [le0_nI (by omega)] at c_29
          rw [nI_eq (by omega) (by omega)] at c_34
          rw [show (16 : Int32) = nI 16 from rfl, nI_eq (by omega) (by omega)] at c_40
          exact J50 _ _ h4 (by rw [if_neg (show ¬ (0 < b2 ∧ (w = c ∨ w = 16)) by omega)])
        · refine st_iconst C (v := 1) (dk DX6_changed_0 22 rfl) (by decide) ?_
          refine st_goto C (tgt := 48) (dk DX6_changed_0 23 rfl) (by decide) ?_
          refine st_istore C (dk DX6_changed_0 25 rfl) (by decide) rfl ?_
          rw [le0_nI (by omega)] at c_29
          rw [nI_eq (by omega) (by omega)] at c_34
          rw [show (16 : Int32) = nI 16 from rfl, nI_eq (by omega) (by omega)] at c_40
          exact J50 _ _ h4 (by rw [if_pos (show (0 < b2 ∧ (w = c ∨ w = 16)) by omega)])
  refine st_aload_n C (dk DX6_changed_0 0 rfl) rfl ?_
  refine st_get C fl_RX6_81 (dk DX6_changed_0 1 rfl) 0 rfl rfl ?_
  refine st_if_le C (tgt := 22) (dk DX6_changed_0 2 rfl) (by decide) (fun c_4 => ?_) (fun c_4 => ?_)
  · refine st_iconst C (v := 0) (dk DX6_changed_0 11 rfl) (by decide) ?_
    refine st_istore C (dk DX6_changed_0 12 rfl) (by decide) rfl ?_
    rw [le0_nI (by omega)] at c_4
    exact J25 _ (by rw [if_neg (show ¬ (0 < b1 ∧ (o = c ∨ o = 16)) by omega)])
  · refine st_iload_n C (dk DX6_changed_0 3 rfl) rfl ?_
    refine st_iload_n C (dk DX6_changed_0 4 rfl) rfl ?_
    refine st_icmp_eq C (tgt := 18) (dk DX6_changed_0 5 rfl) (by decide) (fun c_9 => ?_) (fun c_9 => ?_)
    · refine st_iconst C (v := 1) (dk DX6_changed_0 9 rfl) (by decide) ?_
      refine st_goto C (tgt := 23) (dk DX6_changed_0 10 rfl) (by decide) ?_
      refine st_istore C (dk DX6_changed_0 12 rfl) (by decide) rfl ?_
      rw [le0_nI (by omega)] at c_4
      rw [nI_eq (by omega) (by omega)] at c_9
      exact J25 _ (by rw [if_pos (show (0 < b1 ∧ (o = c ∨ o = 16)) by omega)])
    · refine st_iload_n C (dk DX6_changed_0 6 rfl) rfl ?_
      refine st_bipush C (v := 16) (dk DX6_changed_0 7 rfl) (by decide) ?_
      refine st_icmp_ne C (tgt := 22) (dk DX6_changed_0 8 rfl) (by decide) (fun c_15 => ?_) (fun c_15 => ?_)
      · refine st_iconst C (v := 0) (dk DX6_changed_0 11 rfl) (by decide) ?_
        refine st_istore C (dk DX6_changed_0 12 rfl) (by decide) rfl ?_
        rw [le0_nI (by omega)] at c_4
        rw [nI_eq (by omega) (by omega)] at c_9
        rw [show (16 : Int32) = nI 16 from rfl, nI_eq (by omega) (by omega)] at c_15
        exact J25 _ (by rw [if_neg (show ¬ (0 < b1 ∧ (o = c ∨ o = 16)) by omega)])
      · refine st_iconst C (v := 1) (dk DX6_changed_0 9 rfl) (by decide) ?_
        refine st_goto C (tgt := 23) (dk DX6_changed_0 10 rfl) (by decide) ?_
        refine st_istore C (dk DX6_changed_0 12 rfl) (by decide) rfl ?_
        rw [le0_nI (by omega)] at c_4
        rw [nI_eq (by omega) (by omega)] at c_9
        rw [show (16 : Int32) = nI 16 from rfl, nI_eq (by omega) (by omega)] at c_15
        exact J25 _ (by rw [if_pos (show (0 < b1 ∧ (o = c ∨ o = 16)) by omega)])
set_option maxHeartbeats 4000000 in
set_option maxRecDepth 100000 in
theorem k_X6_behind (l : Launch) (G : wG) {M : Nat} {A : Nat → Nat} {ke ty th ap ft il : Int32} {b1 b2 : Nat} {a : Nat} {f : Nat → Int32} {s : mS} {t : bT} {st : Nat} {x y : Int32} (hf : hd53 f s) (hok : mOk s) (hb1 : b1 ≤ 5) (hb2 : b2 ≤ 5) (hx : x = nI (emN t)) (hv : vM b1 b2 t) (hy : y = nI st) (hst : st < 5) : Con0 l G yX6_behind cX6_behind 10 (some .int) 4 [.ref M, .ref a, .int x, .int y] [(M, ob 5 (mF A ke ty th ap ft (nI b1) (nI b2) il)), (a, aI G 53 f)] (fun r v => r = some (.int (gI (gM s b1 b2 t st))) ∧ v = [(M, ob 5 (mF A ke ty th ap ft (nI b1) (nI b2) il)), (a, aI G 53 f)]) := by
  refine Con.mk (by decide +kernel) (Nat.le_of_ble_eq_true rfl) (fun P C Rr => ?_)
  subst hx
  subst hy
  obtain ⟨c, o, w⟩ := t
  obtain ⟨hc, hol, hwl, hv4, hv5, hv6⟩ := id hv
  simp only at hc hol hwl hv4 hv5 hv6
  obtain ⟨o1, o2, o3, o4, o5, o6⟩ := hok
  have he : emN (c, o, w) = 289 * c + 17 * o + w := rfl
  have el : emN (c, o, w) < 4624 := emN_lt hv
  have q1 : nI (emN (c, o, w)) / 289 = nI c := by rw [show (289 : Int32) = nI 289 from rfl, pk_div (by omega) (by decide) (by decide)]; congr 1; omega
  have q2 : nI (emN (c, o, w)) / 17 - nI (emN (c, o, w)) / 17 / 17 * 17 = nI o := by rw [show (17 : Int32) = nI 17 from rfl, pk_div (by omega) (by decide) (by decide), pk_rem (by omega) (by decide) (by decide)]; congr 1; omega
  have q3 : nI (emN (c, o, w)) - nI (emN (c, o, w)) / 17 * 17 = nI w := by rw [show (17 : Int32) = nI 17 from rfl, pk_rem (by omega) (by decide) (by decide)]; congr 1; omega
  have J109 : ∀ (nx : Nat) (v9 : Int32), ¬ st = 4 → ldN s c st = some nx → v9 = nI (hbN b1 b2 (c, o, w)) → P 0 0 109 [(0, .ref M), (1, .ref a), (2, .int (nI (emN (c, o, w)))), (3, .int (nI st)), (4, .int (nI c)), (5, .int (nI o)), (6, .int (nI w)), (7, .int (nI nx)), (8, .int (nI (wyN s c st))), (9, .int v9)] [] [(M, ob 5 (mF A ke ty th ap ft (nI b1) (nI b2) il)), (a, aI G 53 f)] := by
    intro nx v9 h4 hl h9
    have hnx := ldN_lt hc hl
    have hw5 := wy5 s o5 hl (by omega) hc
    have hb5 : hbN b1 b2 (c, o, w) ≤ 5 := by unfold hbN; split <;> (try split) <;> omega
    have hg : gM s b1 b2 (c, o, w) st = if wyN s c st = 0 ∨ wyN s c st = hbN b1 b2 (c, o, w) then some (nx, o, w) else none := by unfold gM; rw [if_neg h4]; simp only [hl]
    refine st_iload C (dk DX6_behind_1 18 rfl) rfl ?_
    refine st_if_eq C (tgt := 121) (dk DX6_behind_1 19 rfl) (by decide) (fun c_111 => ?_) (fun c_111 => ?_)
    · refine st_iload_n C (dk DX6_behind_1 23 rfl) rfl ?_
      refine st_sipush C (v := 289) (dk DX6_behind_1 24 rfl) (by decide) ?_
      refine st_iload C (dk DX6_behind_1 25 rfl) rfl ?_
      refine st_iload C (dk DX6_behind_1 26 rfl) rfl ?_
      refine st_isub C (dk DX6_behind_1 27 rfl) ?_
      refine st_imul C (dk DX6_behind_1 28 rfl) ?_
      refine st_iadd C (dk DX6_behind_1 29 rfl) ?_
      refine st_goto C (tgt := 136) (dk DX6_behind_1 30 rfl) (by decide) ?_
      refine Rr 0 0 _ _ _ _ _ _ (Nat.zero_le _) (Nat.zero_le _) (dk DX6_behind_1 32 rfl) (.inr (.inl ⟨_, rfl, rfl, rfl, rfl⟩)) rfl ?_
      refine ⟨rfl, ?_, rfl⟩
      rw [hg, if_pos (Or.inl ((eq_nI (a := wyN s c st) (i := 0) (by omega) (by decide) rfl rfl).mp c_111)), emove2 hnx hc]
      rfl
    · refine st_iload C (dk DX6_behind_1 20 rfl) rfl ?_
      refine st_iload C (dk DX6_behind_1 21 rfl) rfl ?_
      refine st_icmp_ne C (tgt := 135) (dk DX6_behind_1 22 rfl) (by decide) (fun c_118 => ?_) (fun c_118 => ?_)
      · refine st_iconst C (v := -1) (dk DX6_behind_1 31 rfl) (by decide) ?_
        refine Rr 0 0 _ _ _ _ _ _ (Nat.zero_le _) (Nat.zero_le _) (dk DX6_behind_1 32 rfl) (.inr (.inl ⟨_, rfl, rfl, rfl, rfl⟩)) rfl ?_
        rw [h9, nI_eq (by omega) (by omega)] at c_118
        have h0 : ¬ wyN s c st = 0 := fun h => c_111 (by rw [h]; rfl)
        exact ⟨rfl, by rw [hg, if_neg (fun h => h.elim h0 c_118)]; rfl, rfl⟩
      · refine st_iload_n C (dk DX6_behind_1 23 rfl) rfl ?_
        refine st_sipush C (v := 289) (dk DX6_behind_1 24 rfl) (by decide) ?_
        refine st_iload C (dk DX6_behind_1 25 rfl) rfl ?_
        refine st_iload C (dk DX6_behind_1 26 rfl) rfl ?_
        refine st_isub C (dk DX6_behind_1 27 rfl) ?_
        refine st_imul C (dk DX6_behind_1 28 rfl) ?_
        refine st_iadd C (dk DX6_behind_1 29 rfl) ?_
        refine st_goto C (tgt := 136) (dk DX6_behind_1 30 rfl) (by decide) ?_
        refine Rr 0 0 _ _ _ _ _ _ (Nat.zero_le _) (Nat.zero_le _) (dk DX6_behind_1 32 rfl) (.inr (.inl ⟨_, rfl, rfl, rfl, rfl⟩)) rfl ?_
        refine ⟨rfl, ?_, rfl⟩
        rw [hg, if_pos (Or.inr ((nI_eq (by omega) (by omega)).mp (h9 ▸ c_118))), emove2 hnx hc]
        rfl
  refine st_iload_n C (dk DX6_behind_0 0 rfl) rfl ?_
  refine st_sipush C (v := 289) (dk DX6_behind_0 1 rfl) (by decide) ?_
  refine st_idiv C (dk DX6_behind_0 2 rfl) (by decide) ?_
  rw [q1]
  refine st_istore C (dk DX6_behind_0 3 rfl) (by decide) rfl ?_
  refine st_iload_n C (dk DX6_behind_0 4 rfl) rfl ?_
  refine st_bipush C (v := 17) (dk DX6_behind_0 5 rfl) (by decide) ?_
  refine st_idiv C (dk DX6_behind_0 6 rfl) (by decide) ?_
  refine st_bipush C (v := 17) (dk DX6_behind_0 7 rfl) (by decide) ?_
  refine st_irem C (dk DX6_behind_0 8 rfl) (by decide) ?_
  rw [q2]
  refine st_istore C (dk DX6_behind_0 9 rfl) (by decide) rfl ?_
  refine st_iload_n C (dk DX6_behind_0 10 rfl) rfl ?_
  refine st_bipush C (v := 17) (dk DX6_behind_0 11 rfl) (by decide) ?_
  refine st_irem C (dk DX6_behind_0 12 rfl) (by decide) ?_
  rw [q3]
  refine st_istore C (dk DX6_behind_0 13 rfl) (by decide) rfl ?_
  refine st_iload_n C (dk DX6_behind_0 14 rfl) rfl ?_
  refine st_iconst C (v := 4) (dk DX6_behind_0 15 rfl) (by decide) ?_
  refine st_icmp_ne C (tgt := 38) (dk DX6_behind_0 16 rfl) (by decide) (fun c_24 => ?_) (fun c_24 => ?_)
  · refine st_aload_n C (dk DX6_behind_0 23 rfl) rfl ?_
    refine st_iload C (dk DX6_behind_0 24 rfl) rfl ?_
    refine st_iload_n C (dk DX6_behind_0 25 rfl) rfl ?_
    refine st_cS C (k_X6_leads l G hf o1 o2 o6 rfl hc rfl (st := st) (by have : ¬ st = 4 := (fun h => c_24 (by rw [h]; rfl)); omega)) mf_X6_leads ms_X6_leads ml_RX6_74 (dk DX6_behind_0 26 rfl) [1] rfl rfl rfl rfl (Nat.le_of_ble_eq_true rfl) ⟨Nat.le_of_ble_eq_true rfl, Nat.le_of_ble_eq_true rfl⟩ ⟨Nat.zero_le _, Nat.zero_le _⟩ (fun r9 w9 hq9 => ?_)
    obtain ⟨rfl, rfl⟩ := hq9
    refine st_istore C (dk DX6_behind_0 27 rfl) (by decide) rfl ?_
    refine st_iload C (dk DX6_behind_0 28 rfl) rfl ?_
    refine st_iconst C (v := -1) (dk DX6_behind_0 29 rfl) (by decide) ?_
    refine st_icmp_ne C (tgt := 55) (dk DX6_behind_0 30 rfl) (by decide) (fun c_50 => ?_) (fun c_50 => ?_)
    · have h4 : ¬ st = 4 := fun h => c_24 (by rw [h]; rfl)
      obtain ⟨nx, hl⟩ : ∃ nx, ldN s c st = some nx := by
        cases h : ldN s c st with
        | none => exact absurd (by rw [h]; rfl) c_50
        | some nx => exact ⟨nx, rfl⟩
      rw [hl]
      refine st_aload_n C (dk DX6_behind_0 33 rfl) rfl ?_
      refine st_iload C (dk DX6_behind_0 34 rfl) rfl ?_
      refine st_iload_n C (dk DX6_behind_0 35 rfl) rfl ?_
      refine st_cS C (k_X6_lockOn l G hf rfl hc rfl hst (gM_cases hl (by omega)).1) mf_X6_lockOn ms_X6_lockOn ml_RX6_78 (dk DX6_behind_0 36 rfl) [1] rfl rfl rfl rfl (Nat.le_of_ble_eq_true rfl) ⟨Nat.le_of_ble_eq_true rfl, Nat.le_of_ble_eq_true rfl⟩ ⟨Nat.zero_le _, Nat.zero_le _⟩ (fun r9 w9 hq9 => ?_)
      obtain ⟨rfl, rfl⟩ := hq9
      refine st_istore C (dk DX6_behind_0 37 rfl) (by decide) rfl ?_
      refine st_aload_n C (dk DX6_behind_0 38 rfl) rfl ?_
      refine st_get C fl_RX6_81 (dk DX6_behind_0 39 rfl) 0 rfl rfl ?_
      refine st_if_le C (tgt := 85) (dk DX6_behind_1 0 rfl) (by decide) (fun c_68 => ?_) (fun c_68 => ?_)
      · refine st_aload_n C (dk DX6_behind_1 7 rfl) rfl ?_
        refine st_get C fl_RX6_84 (dk DX6_behind_1 8 rfl) 0 rfl rfl ?_
        refine st_if_le C (tgt := 106) (dk DX6_behind_1 9 rfl) (by decide) (fun c_89 => ?_) (fun c_89 => ?_)
        · refine st_iconst C (v := 0) (dk DX6_behind_1 16 rfl) (by decide) ?_
          refine st_istore C (dk DX6_behind_1 17 rfl) (by decide) rfl ?_
          rw [le0_nI (by omega)] at c_68
          rw [le0_nI (by omega)] at c_89
          exact J109 nx _ h4 hl (by unfold hbN; rw [if_neg (show ¬ (0 < b1 ∧ o = 16) by omega), if_neg (show ¬ (0 < b2 ∧ w = 16) by omega)]; rfl)
        · refine st_iload C (dk DX6_behind_1 10 rfl) rfl ?_
          refine st_bipush C (v := 16) (dk DX6_behind_1 11 rfl) (by decide) ?_
          refine st_icmp_ne C (tgt := 106) (dk DX6_behind_1 12 rfl) (by decide) (fun c_96 => ?_) (fun c_96 => ?_)
          · refine st_iconst C (v := 0) (dk DX6_behind_1 16 rfl) (by decide) ?_
            refine st_istore C (dk DX6_behind_1 17 rfl) (by decide) rfl ?_
            rw [le0_nI (by omega)] at c_68
            rw [le0_nI (by omega)] at c_89
            rw [show (16 : Int32) = nI 16 from rfl, nI_eq (by omega) (by omega)] at c_96
            exact J109 nx _ h4 hl (by unfold hbN; rw [if_neg (show ¬ (0 < b1 ∧ o = 16) by omega), if_neg (show ¬ (0 < b2 ∧ w = 16) by omega)]; rfl)
          · refine st_aload_n C (dk DX6_behind_1 13 rfl) rfl ?_
            refine st_get C fl_RX6_84 (dk DX6_behind_1 14 rfl) 0 rfl rfl ?_
            refine st_goto C (tgt := 107) (dk DX6_behind_1 15 rfl) (by decide) ?_
            refine st_istore C (dk DX6_behind_1 17 rfl) (by decide) rfl ?_
            rw [le0_nI (by omega)] at c_68
            rw [le0_nI (by omega)] at c_89
            rw [show (16 : Int32) = nI 16 from rfl, nI_eq (by omega) (by omega)] at c_96
            exact J109 nx _ h4 hl (by unfold hbN; rw [if_neg (show ¬ (0 < b1 ∧ o = 16) by omega), if_pos (show 0 < b2 ∧ w = 16 by omega)])
      · refine st_iload C (dk DX6_behind_1 1 rfl) rfl ?_
        refine st_bipush C (v := 16) (dk DX6_behind_1 2 rfl) (by decide) ?_
        refine st_icmp_ne C (tgt := 85) (dk DX6_behind_1 3 rfl) (by decide) (fun c_75 => ?_) (fun c_75 => ?_)
        · refine st_aload_n C (dk DX6_behind_1 7 rfl) rfl ?_
          refine st_get C fl_RX6_84 (dk DX6_behind_1 8 rfl) 0 rfl rfl ?_
          refine st_if_le C (tgt := 106) (dk DX6_behind_1 9 rfl) (by decide) (fun c_89 => ?_) (fun c_89 => ?_)
          · refine st_iconst C (v := 0) (dk DX6_behind_1 16 rfl) (by decide) ?_
            refine st_istore C (dk DX6_behind_1 17 rfl) (by decide) rfl ?_
            rw [le0_nI (by omega)] at c_68
            rw [show (16 : Int32) = nI 16 from rfl, nI_eq (by omega) (by omega)] at c_75
            rw [le0_nI (by omega)] at c_89
            exact J109 nx _ h4 hl (by unfold hbN; rw [if_neg (show ¬ (0 < b1 ∧ o = 16) by omega), if_neg (show ¬ (0 < b2 ∧ w = 16) by omega)]; rfl)
          · refine st_iload C (dk DX6_behind_1 10 rfl) rfl ?_
            refine st_bipush C (v := 16) (dk DX6_behind_1 11 rfl) (by decide) ?_
            refine st_icmp_ne C (tgt := 106) (dk DX6_behind_1 12 rfl) (by decide) (fun c_96 => ?_) (fun c_96 => ?_)
            · refine st_iconst C (v := 0) (dk DX6_behind_1 16 rfl) (by decide) ?_
              refine st_istore C (dk DX6_behind_1 17 rfl) (by decide) rfl ?_
              rw [le0_nI (by omega)] at c_68
              rw [show (16 : Int32) = nI 16 from rfl, nI_eq (by omega) (by omega)] at c_75
              rw [le0_nI (by omega)] at c_89
              rw [show (16 : Int32) = nI 16 from rfl, nI_eq (by omega) (by omega)] at c_96
              exact J109 nx _ h4 hl (by unfold hbN; rw [if_neg (show ¬ (0 < b1 ∧ o = 16) by omega), if_neg (show ¬ (0 < b2 ∧ w = 16) by omega)]; rfl)
            · refine st_aload_n C (dk DX6_behind_1 13 rfl) rfl ?_
              refine st_get C fl_RX6_84 (dk DX6_behind_1 14 rfl) 0 rfl rfl ?_
              refine st_goto C (tgt := 107) (dk DX6_behind_1 15 rfl) (by decide) ?_
              refine st_istore C (dk DX6_behind_1 17 rfl) (by decide) rfl ?_
              rw [le0_nI (by omega)] at c_68
              rw [show (16 : Int32) = nI 16 from rfl, nI_eq (by omega) (by omega)] at c_75
              rw [le0_nI (by omega)] at c_89
              rw [show (16 : Int32) = nI 16 from rfl, nI_eq (by omega) (by omega)] at c_96
              exact J109 nx _ h4 hl (by unfold hbN; rw [if_neg (show ¬ (0 < b1 ∧ o = 16) by omega), if_pos (show 0 < b2 ∧ w = 16 by omega)])
        · refine st_aload_n C (dk DX6_behind_1 4 rfl) rfl ?_
          refine st_get C fl_RX6_81 (dk DX6_behind_1 5 rfl) 0 rfl rfl ?_
          refine st_goto C (tgt := 107) (dk DX6_behind_1 6 rfl) (by decide) ?_
          refine st_istore C (dk DX6_behind_1 17 rfl) (by decide) rfl ?_
          rw [le0_nI (by omega)] at c_68
          rw [show (16 : Int32) = nI 16 from rfl, nI_eq (by omega) (by omega)] at c_75
          exact J109 nx _ h4 hl (by unfold hbN; rw [if_pos (show 0 < b1 ∧ o = 16 by omega)])
    · refine st_iconst C (v := -1) (dk DX6_behind_0 31 rfl) (by decide) ?_
      refine Rr 0 0 _ _ _ _ _ _ (Nat.zero_le _) (Nat.zero_le _) (dk DX6_behind_0 32 rfl) (.inr (.inl ⟨_, rfl, rfl, rfl, rfl⟩)) rfl ?_
      refine ⟨rfl, ?_, rfl⟩
      have h4 : ¬ st = 4 := fun h => c_24 (by rw [h]; rfl)
      have hl : ldN s c st = none := (opI_lt (fun k hk => ldN_lt hc hk)).mp c_50
      unfold gM
      rw [if_neg h4]
      simp only [hl]
      rfl
  · refine st_aload_n C (dk DX6_behind_0 17 rfl) rfl ?_
    refine st_iload C (dk DX6_behind_0 18 rfl) rfl ?_
    refine st_iload C (dk DX6_behind_0 19 rfl) rfl ?_
    refine st_iload C (dk DX6_behind_0 20 rfl) rfl ?_
    refine st_cV C (k_X6_changed l G hb1 hb2 rfl hc rfl hol rfl hwl) mf_X6_changed mi_X6_changed ml_RX6_87 (dk DX6_behind_0 21 rfl) [0] rfl rfl rfl rfl (Nat.le_of_ble_eq_true rfl) rfl rfl ⟨Nat.le_of_ble_eq_true rfl, Nat.le_of_ble_eq_true rfl⟩ ⟨Nat.zero_le _, Nat.zero_le _⟩ (fun r9 w9 hq9 => ?_)
    obtain ⟨rfl, rfl⟩ := hq9
    refine Rr 0 0 _ _ _ _ _ _ (Nat.zero_le _) (Nat.zero_le _) (dk DX6_behind_0 22 rfl) (.inr (.inl ⟨_, rfl, rfl, rfl, rfl⟩)) rfl ?_
    refine ⟨rfl, ?_, rfl⟩
    have h4 : st = 4 := (eq_nI (a := st) (i := 4) (by omega) (by decide) rfl rfl).mp c_24
    unfold gM
    rw [if_pos h4]
    show some (Value.int (if _ then _ else _)) = some (Value.int (gI (if _ then _ else _)))
    split <;> rfl
end
section
/-! the reference's rows hold the list -/
def fsOf (Q : List bE) (c : Nat) : Int32 := match fi Q c with
  | none => -1
  | some i => nI (emN (eAt Q i).1)
def MRel (Q : List bE) (qu fr by9 fa fs : Nat → Int32) : Prop :=
  (∀ i e, Q[i]? = some e → qu i = nI (emN e.1)) ∧ (∀ i e, Q[i]? = some e → fa (emN e.1) = nI e.2.2.2 ∧ (0 < i → fr (emN e.1) = nI (emN (eAt Q e.2.2.1).1) ∧ by9 (emN e.1) = nI e.2.1)) ∧ (∀ x, x < 4624 → (∀ e ∈ Q, emN e.1 ≠ x) → fa x = -1) ∧ (∀ c, c < 16 → fs c = fsOf Q c)
theorem fsOf_none {Q : List bE} {c : Nat} (h : fi Q c = none) : fsOf Q c = -1 := by unfold fsOf; rw [h]
theorem fsOf_some {Q : List bE} {c i : Nat} (h : fi Q c = some i) : fsOf Q c = nI (emN (eAt Q i).1) := by unfold fsOf; rw [h]
theorem nI_m1 {n : Nat} (h : n < 2 ^ 31) : ¬ nI n = -1 := by
  intro h2
  have h3 := congrArg Int32.toInt h2
  rw [nI_toInt h] at h3
  have : ((-1 : Int32)).toInt = -1 := by decide
  omega
theorem bgnN_v {s : mS} : ∀ n, n ≤ 16 → ((bgnN s n).1 = 0 → (bgnN s n).2.1 = 0) ∧ ((bgnN s n).2.2.1 = 0 → (bgnN s n).2.2.2 = 0) ∧ (0 < (bgnN s n).2.2.1 → 0 < (bgnN s n).1 ∧ (bgnN s n).2.1 ≠ (bgnN s n).2.2.2) ∧ (0 < (bgnN s n).1 → (bgnN s n).2.1 < n ∨ (bgnN s n).2.1 = 16) ∧ (0 < (bgnN s n).2.2.1 → (bgnN s n).2.2.2 < n)
  | 0, _ => by
    refine ⟨fun h => ?_, fun _ => rfl, fun h => absurd h (Nat.lt_irrefl 0), fun h => Or.inr ?_, fun h => absurd h (Nat.lt_irrefl 0)⟩
    · show (if 0 < s 2 then 16 else 0) = 0
      have h2 : s 2 = 0 := h
      rw [if_neg (by omega)]
    · show (if 0 < s 2 then 16 else 0) = 16
      have h2 : 0 < s 2 := h
      rw [if_pos h2]
  | n + 1, hn => by
    obtain ⟨h1, h2, h3, h4, h5⟩ := bgnN_v (s := s) n (by omega)
    by_cases k0 : s (6 + n) = 0
    · rw [bgnN_0 k0]
      exact ⟨h1, h2, h3, fun h => by have := h4 h; omega, fun h => by have := h5 h; omega⟩
    · by_cases b0 : (bgnN s n).1 = 0
      · rw [bgnN_1 (by omega) b0]
        refine ⟨fun h => absurd h k0, h2, fun h => ?_, fun _ => Or.inl (by simp only; omega), fun h => by have := h5 h; simp only; omega⟩
        have := (h3 h).1
        omega
      · rw [bgnN_2 (by omega) b0]
        refine ⟨h1, fun h => absurd h k0, fun _ => ⟨by simp only; omega, ?_⟩, fun h => by have := h4 h; simp only; omega, fun _ => by simp only; omega⟩
        have := h4 (by omega)
        simp only
        omega
/-- the graph of a state: its two bows, its start -/
def b1S (s : mS) : Nat := (bgnN s 16).1
def b2S (s : mS) : Nat := (bgnN s 16).2.2.1
def t0S (s : mS) : bT := (s 1, (bgnN s 16).2.1, (bgnN s 16).2.2.2)
def gS (s : mS) : bT → Nat → Option bT := gM s (b1S s) (b2S s)
def vS (s : mS) : bT → Prop := vM (b1S s) (b2S s)
noncomputable def fS (s : mS) : List bE := bF (gS s) (t0S s)
theorem bS_le {s : mS} (h : mOk s) : b1S s ≤ 5 ∧ b2S s ≤ 5 ∧ (0 < b2S s → 0 < b1S s) := by
  have h1 := bgnN_le h.2.2.2.1 16 (by omega)
  have h2 := bgnN_v (s := s) 16 (by omega)
  exact ⟨h1.1, h1.2.2.1, fun h => (h2.2.2.1 h).1⟩
theorem t0_v {s : mS} (h : mOk s) : vS s (t0S s) := by
  have h1 := bgnN_le h.2.2.2.1 16 (by omega)
  have h2 := bgnN_v (s := s) 16 (by omega)
  exact ⟨h.2.2.1, h1.2.1, h1.2.2.2, h2.1, h2.2.1, fun h => (h2.2.2.1 h).2⟩
theorem gS_cl {s : mS} (h : mOk s) : ∀ t st t', vS s t → st < 5 → gS s t st = some t' → vS s t' := fun t st t' h1 _ h3 => vM_step (bS_le h).2.2 h1 h3
theorem okS {s : mS} (h : mOk s) (k : Nat) : bOk (gS s) (t0S s) (vS s) (bRun (gS s) (t0S s) k) := bOk.run (gS_cl h) (t0_v h) k
theorem lenS {s : mS} (h : mOk s) (k : Nat) : (bRun (gS s) (t0S s) k).length ≤ 4624 := (okS h k).len vM_len
theorem MRel.far {Q : List bE} {qu fr by9 fa fs : Nat → Int32} (h : MRel Q qu fr by9 fa fs) {b1 b2 : Nat} (hV : ∀ e ∈ Q, vM b1 b2 e.1) (hd : ∀ (i : Nat) (e : bE), Q[i]? = some e → e.2.2.2 < 2 ^ 30) {u : bT} (hu : vM b1 b2 u) : fa (emN u) = -1 ↔ u ∉ Q.map (·.1) := by
  constructor
  · intro h1 hm
    obtain ⟨e, he, rfl⟩ := List.mem_map.mp hm
    obtain ⟨i, hi⟩ := List.getElem?_of_mem he
    rw [(h.2.1 i e hi).1] at h1
    exact nI_m1 (by have := hd i e hi; omega) h1
  · intro h1
    refine h.2.2.1 _ (emN_lt hu) (fun e he hee => h1 ?_)
    have := emN_inj (hV e he) hu hee
    rw [← this]
    exact List.mem_map.mpr ⟨e, he, rfl⟩
theorem MRel.add {Q : List bE} {qu fr by9 fa fs : Nat → Int32} (h : MRel Q qu fr by9 fa fs) (hbe : ∀ (i : Nat) (e : bE), Q[i]? = some e → e.2.2.1 < Q.length) {b1 b2 : Nat} (hV : ∀ e ∈ Q, vM b1 b2 e.1) (hQ : Q.length < 4624) {u : bT} (hu : vM b1 b2 u) (hn : u ∉ Q.map (·.1)) {k st d : Nat} {e0 : bE} (he0 : Q[k]? = some e0) {x2 v : Int32} (hx2 : x2 = nI Q.length) (hv : v = if fs u.1 = -1 then nI (emN u) else fs u.1) :
    MRel (Q ++ [(u, st, k, d + 1)]) (upd qu x2.toNatClampNeg (nI (emN u))) (upd fr (nI (emN u)).toNatClampNeg (nI (emN e0.1))) (upd by9 (nI (emN u)).toNatClampNeg (nI st)) (upd fa (nI (emN u)).toNatClampNeg (nI d + 1)) (upd fs (nI u.1).toNatClampNeg v) := by
  obtain ⟨h1, h2, h3, h4⟩ := h
  have el := emN_lt hu
  have hc : u.1 < 16 := hu.1
  have ne : ∀ e ∈ Q, emN e.1 ≠ emN u := fun e he hee => hn (by
    have := emN_inj (hV e he) hu hee
    rw [← this]
    exact List.mem_map.mpr ⟨e, he, rfl⟩)
  rw [nI_clamp (n := emN u) (by omega), nI_clamp (n := u.1) (by omega), cl_nI hx2 (by omega)]
  refine ⟨?_, ?_, ?_, ?_⟩
  · intro i e hi
    by_cases hil : i < Q.length
    · rw [List.getElem?_append_left hil] at hi
      rw [pk_un (by omega)]
      exact h1 i e hi
    · have : i = Q.length := by
        have := (List.getElem?_eq_some_iff.mp hi).1
        simp at this; omega
      subst this
      simp at hi
      subst hi
      rw [pk_us]
  · intro i e hi
    by_cases hil : i < Q.length
    · rw [List.getElem?_append_left hil] at hi
      have hm := ne e (List.mem_of_getElem? hi)
      rw [pk_un hm, pk_un hm, pk_un hm]
      refine ⟨(h2 i e hi).1, fun h0 => ?_⟩
      have h9 := (h2 i e hi).2 h0
      refine ⟨?_, h9.2⟩
      rw [h9.1]
      by_cases hb : e.2.2.1 < Q.length
      · rw [eAt_app hb]
      · exact absurd (hbe i e hi) hb
    · have : i = Q.length := by
        have := (List.getElem?_eq_some_iff.mp hi).1
        simp at this; omega
      subst this
      simp at hi
      subst hi
      rw [pk_us, pk_us, pk_us, eAt_app (List.getElem?_eq_some_iff.mp he0).1, eAt_get he0]
      exact ⟨nI_1 d, fun _ => ⟨rfl, rfl⟩⟩
  · intro x hx hall
    have hxu : x ≠ emN u := fun e => hall (u, st, k, d + 1) (List.mem_append_right _ (List.mem_singleton.mpr rfl)) e.symm
    rw [pk_un hxu]
    exact h3 x hx (fun e he => hall e (List.mem_append_left _ he))
  · intro c hc9
    by_cases hcu : c = u.1
    · subst hcu
      rw [pk_us, hv, h4 _ hc]
      cases hq : fi Q u.1 with
      | none =>
        rw [fsOf_none hq, if_pos rfl]
        have e9 : fi (Q ++ [(u, st, k, d + 1)]) u.1 = some Q.length := by rw [fi_app1, hq, if_pos rfl]; rfl
        rw [fsOf_some e9]
        congr 1
        unfold eAt
        simp
      | some i =>
        obtain ⟨e, he, -⟩ := fi_lt hq
        have e9 : fi (Q ++ [(u, st, k, d + 1)]) u.1 = some i := by rw [fi_app1, hq]; rfl
        have hlt := emN_lt (hV e (List.mem_of_getElem? he))
        rw [fsOf_some hq, fsOf_some e9, eAt_app (List.getElem?_eq_some_iff.mp he).1, eAt_get he, if_neg (nI_m1 (by omega))]
    · rw [pk_un hcu, h4 c hc9]
      have e8 : (if u.1 = c then some Q.length else none) = none := if_neg (fun e => hcu e.symm)
      cases hq : fi Q c with
      | none =>
        have e9 : fi (Q ++ [(u, st, k, d + 1)]) c = none := by rw [fi_app1, hq, e8]; rfl
        rw [fsOf_none hq, fsOf_none e9]
      | some i =>
        obtain ⟨e, he, -⟩ := fi_lt hq
        have e9 : fi (Q ++ [(u, st, k, d + 1)]) c = some i := by rw [fi_app1, hq]; rfl
        rw [fsOf_some hq, fsOf_some e9, eAt_app (List.getElem?_eq_some_iff.mp he).1]
end
section
/-! the reference: lays -/
theorem bF_out {g : bT → Nat → Option bT} {t0 : bT} {k : Nat} (hk : k ≤ 4624) (h : (bRun g t0 k).length ≤ k) : bF g t0 = bRun g t0 k := by
  have := bRun_out h (4624 - k)
  rw [show k + (4624 - k) = bMax by rw [bMax_eq]; omega] at this
  exact this
theorem MRel.one {s : mS} (hok : mOk s) {qu fr by9 fa fs : Nat → Int32} (hfa : ∀ j, j < 4624 → fa j = -1) (hfs : ∀ j, j < 16 → fs j = -1) : MRel (bRun (gS s) (t0S s) 0) (upd qu (Int32.toNatClampNeg 0) (nI (emN (t0S s)))) fr by9 (upd fa (nI (emN (t0S s))).toNatClampNeg 0) (upd fs (nI (s 1)).toNatClampNeg (nI (emN (t0S s)))) := by
  have el := emN_lt (t0_v hok)
  have h1 := hok.2.2.1
  rw [nI_clamp (n := emN (t0S s)) (by omega), nI_clamp (n := s 1) (by omega)]
  have one : ∀ (i : Nat) (e : bE), (bRun (gS s) (t0S s) 0)[i]? = some e → i = 0 ∧ e = (t0S s, 0, 0, 0) := by
    intro i e hi
    have h2 : i < 1 := (List.getElem?_eq_some_iff.mp hi).1
    have : i = 0 := by omega
    subst this
    exact ⟨rfl, (Option.some.inj hi).symm⟩
  refine ⟨?_, ?_, ?_, ?_⟩
  · intro i e hi
    obtain ⟨rfl, rfl⟩ := one i e hi
    exact pk_us
  · intro i e hi
    obtain ⟨rfl, rfl⟩ := one i e hi
    exact ⟨pk_us, fun h => absurd h (Nat.lt_irrefl 0)⟩
  · intro x hx hall
    rw [pk_un (fun e => hall (t0S s, 0, 0, 0) (List.mem_singleton.mpr rfl) e.symm)]
    exact hfa x hx
  · intro c hc
    have h3 : fi (bRun (gS s) (t0S s) 0) c = if s 1 = c then some 0 else none := by
      show fi ([] ++ [(t0S s, 0, 0, 0)]) c = _
      rw [fi_app1]
      rfl
    by_cases hcs : c = s 1
    · subst hcs
      rw [if_pos rfl] at h3
      rw [pk_us, fsOf_some h3]
      rfl
    · rw [if_neg (fun e => hcs e.symm)] at h3
      rw [pk_un hcs, fsOf_none h3]
      exact hfs c hc
set_option maxHeartbeats 4000000 in
set_option maxRecDepth 100000 in
theorem k_X6_lays (l : Launch) (G : wG) {M : Nat} {A : Nat → Nat} {ke ty th ap ft bo ot il : Int32} {a : Nat} {f : Nat → Int32} {s : mS} {qu fr by9 fa fs : Nat → Int32} (hf : hd53 f s) (hok : mOk s) : Con0 l G yX6_lays cX6_lays 6 none 5 [.ref M, .ref a] [(M, ob 5 (mF A ke ty th ap ft bo ot il)), (A 5, aI G 4624 qu), (A 6, aI G 4624 fr), (A 7, aI G 4624 by9), (A 8, aI G 4624 fa), (A 9, aI G 16 fs), (a, aI G 53 f)] (fun r w => r = none ∧ ∃ qu9 fr9 by99 fa9 fs9 : Nat → Int32, MRel (fS s) qu9 fr9 by99 fa9 fs9 ∧ w = [(M, ob 5 (mF A ke ty th ap ft (nI (b1S s)) (nI (b2S s)) il)), (A 5, aI G 4624 qu9), (A 6, aI G 4624 fr9), (A 7, aI G 4624 by99), (A 8, aI G 4624 fa9), (A 9, aI G 16 fs9), (a, aI G 53 f)]) := by
  refine Con.mk (by decide +kernel) (Nat.le_of_ble_eq_true rfl) (fun P C Rr => ?_)
  obtain ⟨l1, l2, l12⟩ := bS_le hok
  have hlen := lenS hok
  have hk0 := okS hok
  have outer : ∀ (m k : Nat) (x2 x3 : Int32) (qu fr by9 fa fs : Nat → Int32), k + m = 4624 → x3 = nI k → x2 = nI (bRun (gS s) (t0S s) k).length → MRel (bRun (gS s) (t0S s) k) qu fr by9 fa fs → P 0 0 84 [(0, .ref M), (1, .ref a), (2, .int x2), (3, .int x3)] [] [(M, ob 5 (mF A ke ty th ap ft (nI (b1S s)) (nI (b2S s)) il)), (A 5, aI G 4624 qu), (A 6, aI G 4624 fr), (A 7, aI G 4624 by9), (A 8, aI G 4624 fa), (A 9, aI G 16 fs), (a, aI G 53 f)] := by
    intro m
    induction m with
    | zero =>
      intro k x2 x3 qu fr by9 fa fs hk hx3 hx2 hM
      have hkl := hlen k
      refine st_iload_n C (dk DX6_lays_1 13 rfl) rfl ?_
      refine st_iload_n C (dk DX6_lays_1 14 rfl) rfl ?_
      refine st_icmp_ge C (tgt := 237) (dk DX6_lays_1 15 rfl) (by decide) (fun c_86 => ?_) (fun c_86 => ?_)
      · refine Rr 0 0 _ _ _ _ _ _ (Nat.zero_le _) (Nat.zero_le _) (dk DX6_lays_3 17 rfl) (.inl ⟨rfl, rfl, rfl, rfl⟩) rfl ?_
        have hF : bF (gS s) (t0S s) = bRun (gS s) (t0S s) k := bF_out (by omega) (by omega)
        exact ⟨rfl, rfl, qu, fr, by9, fa, fs, by unfold fS; rw [hF]; exact hM, rfl⟩
      · exact absurd ((ge_nI (a := (bRun (gS s) (t0S s) k).length) (i := k) (by omega) (by omega) hx2 hx3).mpr (by omega)) c_86
    | succ m ihO =>
      intro k x2 x3 qu fr by9 fa fs hk hx3 hx2 hM
      have hlk := hlen k
      refine st_iload_n C (dk DX6_lays_1 13 rfl) rfl ?_
      refine st_iload_n C (dk DX6_lays_1 14 rfl) rfl ?_
      refine st_icmp_ge C (tgt := 237) (dk DX6_lays_1 15 rfl) (by decide) (fun c_86 => ?_) (fun c_86 => ?_)
      · refine Rr 0 0 _ _ _ _ _ _ (Nat.zero_le _) (Nat.zero_le _) (dk DX6_lays_3 17 rfl) (.inl ⟨rfl, rfl, rfl, rfl⟩) rfl ?_
        have hkl := (ge_nI (a := (bRun (gS s) (t0S s) k).length) (i := k) (by omega) (by omega) hx2 hx3).mp c_86
        have hF : bF (gS s) (t0S s) = bRun (gS s) (t0S s) k := bF_out (by omega) (by omega)
        exact ⟨rfl, rfl, qu, fr, by9, fa, fs, by unfold fS; rw [hF]; exact hM, rfl⟩
      · have hkl : k < (bRun (gS s) (t0S s) k).length := by
          have h9 := mt (ge_nI (a := (bRun (gS s) (t0S s) k).length) (i := k) (by omega) (by omega) hx2 hx3).mpr c_86
          omega
        obtain ⟨e0, he0⟩ : ∃ e, (bRun (gS s) (t0S s) k)[k]? = some e := ⟨_, List.getElem?_eq_getElem hkl⟩
        have hVe : vS s e0.1 := (hk0 k).2.1 e0 (List.mem_of_getElem? he0)
        subst hx3
        have inner : ∀ (m st : Nat) (x2 x4 : Int32) (qu fr by9 fa fs : Nat → Int32), st + m = 5 → x4 = nI st → x2 = nI (bRow (gS s) (bRun (gS s) (t0S s) k) k st).length → MRel (bRow (gS s) (bRun (gS s) (t0S s) k) k st) qu fr by9 fa fs → P 0 0 92 [(0, .ref M), (1, .ref a), (2, .int x2), (3, .int (nI k)), (4, .int x4)] [] [(M, ob 5 (mF A ke ty th ap ft (nI (b1S s)) (nI (b2S s)) il)), (A 5, aI G 4624 qu), (A 6, aI G 4624 fr), (A 7, aI G 4624 by9), (A 8, aI G 4624 fa), (A 9, aI G 16 fs), (a, aI G 53 f)] := by
          intro m
          induction m with
          | zero =>
            intro st x2 x4 qu fr by9 fa fs hs hx4 hx2 hM
            obtain rfl : st = 5 := by omega
            refine st_iload C (dk DX6_lays_1 18 rfl) rfl ?_
            refine st_iconst C (v := 5) (dk DX6_lays_1 19 rfl) (by decide) ?_
            refine st_icmp_ge C (tgt := 231) (dk DX6_lays_1 20 rfl) (by decide) (fun c_95 => ?_) (fun c_95 => ?_)
            · refine st_iinc C (dk DX6_lays_3 15 rfl) rfl (iadd_ofInt _ (1) (1) (by decide)) (by decide) rfl ?_
              refine st_goto C (tgt := 84) (dk DX6_lays_3 16 rfl) (by decide) ?_
              refine st_lv C [0, 1, 2, 3] rfl ?_
              exact ihO (k + 1) _ _ _ _ _ _ _ (by omega) (nI_1 k) hx2 hM
            · exact absurd ((ge_nI (a := 5) (i := 5) (by decide) (by decide) rfl hx4).mpr (Nat.le_refl _)) c_95
          | succ m ih =>
            intro st x2 x4 qu fr by9 fa fs hs hx4 hx2 hM
            subst hx4
            have hrow := (hk0 k).row (gS_cl hok) (k := k) st (by omega)
            have hrl := hrow.len vM_len
            have hekR : (bRow (gS s) (bRun (gS s) (t0S s) k) k st)[k]? = some e0 := by obtain ⟨Z, hZ⟩ := bRow_ext (gS s) (bRun (gS s) (t0S s) k) k st; rw [hZ]; exact getElem?_app he0
            have hqk : qu (nI k).toNatClampNeg = nI (emN e0.1) := by rw [nI_clamp (by omega)]; exact hM.1 k e0 hekR
            have hd30 : ∀ (i : Nat) (e : bE), (bRow (gS s) (bRun (gS s) (t0S s) k) k st)[i]? = some e → e.2.2.2 < 2 ^ 30 := fun i e hi => by
              have h8 := dst_le hrow (i + 1) i (by omega) (List.getElem?_eq_some_iff.mp hi).1
              unfold dst at h8
              rw [eAt_get hi] at h8
              have := (List.getElem?_eq_some_iff.mp hi).1
              omega
            have hbe : ∀ (i : Nat) (e : bE), (bRow (gS s) (bRun (gS s) (t0S s) k) k st)[i]? = some e → e.2.2.1 < (bRow (gS s) (bRun (gS s) (t0S s) k) k st).length := fun i e hi => by
              by_cases h0 : 0 < i
              · obtain ⟨b, b1, b2, -⟩ := hrow.2.2.2 i e hi h0
                have := (List.getElem?_eq_some_iff.mp hi).1
                omega
              · have : i = 0 := by omega
                subst this
                rw [hrow.2.2.1] at hi
                cases hi
                exact (List.getElem?_eq_some_iff.mp hrow.2.2.1).1
            refine st_iload C (dk DX6_lays_1 18 rfl) rfl ?_
            refine st_iconst C (v := 5) (dk DX6_lays_1 19 rfl) (by decide) ?_
            refine st_icmp_ge C (tgt := 231) (dk DX6_lays_1 20 rfl) (by decide) (fun c_95 => ?_) (fun c_95 => ?_)
            · exact absurd ((ge_nI (a := 5) (i := st) (by decide) (by omega) rfl rfl).mp c_95) (by omega)
            · refine st_aload_n C (dk DX6_lays_1 21 rfl) rfl ?_
              refine st_aload_n C (dk DX6_lays_1 22 rfl) rfl ?_
              refine st_aload_n C (dk DX6_lays_1 23 rfl) rfl ?_
              refine st_get C fl_RX6_25 (dk DX6_lays_1 24 rfl) 0 rfl rfl ?_
              refine st_iload_n C (dk DX6_lays_1 25 rfl) rfl ?_
              refine st_iald C (dk DX6_lays_1 26 rfl) 1 rfl (vp_in_nI (by omega) (by decide)) ?_
              rw [hqk]
              refine st_iload C (dk DX6_lays_1 27 rfl) rfl ?_
              refine st_cV C (k_X6_behind l G hf hok l1 l2 rfl hVe rfl (by omega : st < 5)) mf_X6_behind mi_X6_behind ml_RX6_95 (dk DX6_lays_1 28 rfl) [0, 6] rfl rfl rfl rfl (Nat.le_of_ble_eq_true rfl) rfl rfl ⟨Nat.le_of_ble_eq_true rfl, Nat.le_of_ble_eq_true rfl⟩ ⟨Nat.zero_le _, Nat.zero_le _⟩ (fun r9 w9 hq9 => ?_)
              obtain ⟨rfl, rfl⟩ := hq9
              cases hg : gM s (b1S s) (b2S s) e0.1 st with
              | none =>
                refine st_istore C (dk DX6_lays_1 29 rfl) (by decide) rfl ?_
                refine st_iload C (dk DX6_lays_1 30 rfl) rfl ?_
                refine st_iconst C (v := -1) (dk DX6_lays_1 31 rfl) (by decide) ?_
                refine st_icmp_eq C (tgt := 225) (dk DX6_lays_1 32 rfl) (by decide) (fun c_116 => ?_) (fun c_116 => ?_)
                · refine st_iinc C (dk DX6_lays_3 13 rfl) rfl (iadd_ofInt _ (1) (1) (by decide)) (by decide) rfl ?_
                  refine st_goto C (tgt := 92) (dk DX6_lays_3 14 rfl) (by decide) ?_
                  refine st_lv C [0, 1, 2, 3, 4] rfl ?_
                  exact ih (st + 1) _ _ _ _ _ _ _ (by omega) (nI_1 st) (by rw [bRow_none (g := gS s) he0 hg]; exact hx2) (by rw [bRow_none (g := gS s) he0 hg]; exact hM)
                · exact absurd rfl c_116
              | some u =>
                rw [show gI (some u) = nI (emN u) from rfl]
                have hu : vM (b1S s) (b2S s) u := gS_cl hok e0.1 st u hVe (by omega) hg
                have hul := emN_lt hu
                have huc : u.1 < 16 := hu.1
                have hvu : vp_in (nI (emN u)) 4624 := vp_in_nI hul (by decide)
                have hfar := hM.far (hrow.2.1) hd30 hu
                have hdiv : nI (emN u) / 289 = nI u.1 := by rw [show (289 : Int32) = nI 289 from rfl, pk_div (by omega) (by decide) (by decide)]; congr 1; have := hu.2.1; have := hu.2.2.1; unfold emN; omega
                have hve0 : vp_in (nI (emN e0.1)) 4624 := vp_in_nI (emN_lt hVe) (by decide)
                have hfk : fa (nI (emN e0.1)).toNatClampNeg = nI e0.2.2.2 := by rw [nI_clamp (by have := emN_lt hVe; omega)]; exact (hM.2.1 k e0 hekR).1
                have hvc : vp_in (nI u.1) 16 := vp_in_nI huc (by decide)
                have hvk : vp_in (nI k) 4624 := vp_in_nI (by omega) (by decide)
                refine st_istore C (dk DX6_lays_1 29 rfl) (by decide) rfl ?_
                refine st_iload C (dk DX6_lays_1 30 rfl) rfl ?_
                refine st_iconst C (v := -1) (dk DX6_lays_1 31 rfl) (by decide) ?_
                refine st_icmp_eq C (tgt := 225) (dk DX6_lays_1 32 rfl) (by decide) (fun c_116 => ?_) (fun c_116 => ?_)
                · exact absurd c_116 (nI_m1 (by omega))
                · refine st_aload_n C (dk DX6_lays_1 33 rfl) rfl ?_
                  refine st_get C fl_RX6_34 (dk DX6_lays_1 34 rfl) 0 rfl rfl ?_
                  refine st_iload C (dk DX6_lays_1 35 rfl) rfl ?_
                  refine st_iald C (dk DX6_lays_1 36 rfl) 4 rfl hvu ?_
                  refine st_iconst C (v := -1) (dk DX6_lays_1 37 rfl) (by decide) ?_
                  refine st_icmp_ne C (tgt := 225) (dk DX6_lays_1 38 rfl) (by decide) (fun c_127 => ?_) (fun c_127 => ?_)
                  · refine st_iinc C (dk DX6_lays_3 13 rfl) rfl (iadd_ofInt _ (1) (1) (by decide)) (by decide) rfl ?_
                    refine st_goto C (tgt := 92) (dk DX6_lays_3 14 rfl) (by decide) ?_
                    refine st_lv C [0, 1, 2, 3, 4] rfl ?_
                    have hin : u ∈ (bRow (gS s) (bRun (gS s) (t0S s) k) k st).map (·.1) := by
                      by_cases h : u ∈ (bRow (gS s) (bRun (gS s) (t0S s) k) k st).map (·.1)
                      · exact h
                      · exact absurd (by rw [nI_clamp (by omega)]; exact hfar.mpr h) c_127
                    have hb9 : bRow (gS s) (bRun (gS s) (t0S s) k) k (st + 1) = bRow (gS s) (bRun (gS s) (t0S s) k) k st := by rw [bRow_some (g := gS s) he0 hg]; unfold bAdd; rw [if_pos hin]
                    exact ih (st + 1) _ _ _ _ _ _ _ (by omega) (nI_1 st) (by rw [hb9]; exact hx2) (by rw [hb9]; exact hM)
                  · have hn : u ∉ (bRow (gS s) (bRun (gS s) (t0S s) k) k st).map (·.1) := hfar.mp (by rw [nI_clamp (by omega)] at c_127; exact c_127)
                    have hb9 : bRow (gS s) (bRun (gS s) (t0S s) k) k (st + 1) = bRow (gS s) (bRun (gS s) (t0S s) k) k st ++ [(u, st, k, e0.2.2.2 + 1)] := by rw [bRow_some (g := gS s) he0 hg]; unfold bAdd; rw [if_neg hn]
                    have hQ : (bRow (gS s) (bRun (gS s) (t0S s) k) k st).length < 4624 := by
                      have h9 := ((hk0 k).row (gS_cl hok) (k := k) (st + 1) (by omega)).len vM_len
                      rw [hb9, List.length_append] at h9
                      simp at h9
                      omega
                    refine st_aload_n C (dk DX6_lays_1 39 rfl) rfl ?_
                    refine st_get C fl_RX6_34 (dk DX6_lays_2 0 rfl) 0 rfl rfl ?_
                    refine st_iload C (dk DX6_lays_2 1 rfl) rfl ?_
                    refine st_aload_n C (dk DX6_lays_2 2 rfl) rfl ?_
                    refine st_get C fl_RX6_34 (dk DX6_lays_2 3 rfl) 0 rfl rfl ?_
                    refine st_aload_n C (dk DX6_lays_2 4 rfl) rfl ?_
                    refine st_get C fl_RX6_25 (dk DX6_lays_2 5 rfl) 0 rfl rfl ?_
                    refine st_iload_n C (dk DX6_lays_2 6 rfl) rfl ?_
                    refine st_iald C (dk DX6_lays_2 7 rfl) 1 rfl hvk ?_
                    rw [hqk]
                    refine st_iald C (dk DX6_lays_2 8 rfl) 4 rfl hve0 ?_
                    rw [hfk]
                    refine st_iconst C (v := 1) (dk DX6_lays_2 9 rfl) (by decide) ?_
                    refine st_iadd C (dk DX6_lays_2 10 rfl) ?_
                    refine st_iast C (dk DX6_lays_2 11 rfl) 4 rfl hvu ?_
                    refine st_aload_n C (dk DX6_lays_2 12 rfl) rfl ?_
                    refine st_get C fl_RX6_28 (dk DX6_lays_2 13 rfl) 0 rfl rfl ?_
                    refine st_iload C (dk DX6_lays_2 14 rfl) rfl ?_
                    refine st_aload_n C (dk DX6_lays_2 15 rfl) rfl ?_
                    refine st_get C fl_RX6_25 (dk DX6_lays_2 16 rfl) 0 rfl rfl ?_
                    refine st_iload_n C (dk DX6_lays_2 17 rfl) rfl ?_
                    refine st_iald C (dk DX6_lays_2 18 rfl) 1 rfl hvk ?_
                    rw [hqk]
                    refine st_iast C (dk DX6_lays_2 19 rfl) 2 rfl hvu ?_
                    refine st_aload_n C (dk DX6_lays_2 20 rfl) rfl ?_
                    refine st_get C fl_RX6_31 (dk DX6_lays_2 21 rfl) 0 rfl rfl ?_
                    refine st_iload C (dk DX6_lays_2 22 rfl) rfl ?_
                    refine st_iload C (dk DX6_lays_2 23 rfl) rfl ?_
                    refine st_iast C (dk DX6_lays_2 24 rfl) 3 rfl hvu ?_
                    refine st_aload_n C (dk DX6_lays_2 25 rfl) rfl ?_
                    refine st_get C fl_RX6_37 (dk DX6_lays_2 26 rfl) 0 rfl rfl ?_
                    refine st_iload C (dk DX6_lays_2 27 rfl) rfl ?_
                    refine st_sipush C (v := 289) (dk DX6_lays_2 28 rfl) (by decide) ?_
                    refine st_idiv C (dk DX6_lays_2 29 rfl) (by decide) ?_
                    rw [hdiv]
                    refine st_aload_n C (dk DX6_lays_2 30 rfl) rfl ?_
                    refine st_get C fl_RX6_37 (dk DX6_lays_2 31 rfl) 0 rfl rfl ?_
                    refine st_iload C (dk DX6_lays_2 32 rfl) rfl ?_
                    refine st_sipush C (v := 289) (dk DX6_lays_2 33 rfl) (by decide) ?_
                    refine st_idiv C (dk DX6_lays_2 34 rfl) (by decide) ?_
                    rw [hdiv]
                    refine st_iald C (dk DX6_lays_2 35 rfl) 5 rfl hvc ?_
                    refine st_iconst C (v := -1) (dk DX6_lays_2 36 rfl) (by decide) ?_
                    refine st_icmp_ne C (tgt := 202) (dk DX6_lays_2 37 rfl) (by decide) (fun c_194 => ?_) (fun c_194 => ?_)
                    · refine st_aload_n C (dk DX6_lays_3 0 rfl) rfl ?_
                      refine st_get C fl_RX6_37 (dk DX6_lays_3 1 rfl) 0 rfl rfl ?_
                      refine st_iload C (dk DX6_lays_3 2 rfl) rfl ?_
                      refine st_sipush C (v := 289) (dk DX6_lays_3 3 rfl) (by decide) ?_
                      refine st_idiv C (dk DX6_lays_3 4 rfl) (by decide) ?_
                      rw [hdiv]
                      refine st_iald C (dk DX6_lays_3 5 rfl) 5 rfl hvc ?_
                      refine st_iast C (dk DX6_lays_3 6 rfl) 5 rfl hvc ?_
                      refine st_aload_n C (dk DX6_lays_3 7 rfl) rfl ?_
                      refine st_get C fl_RX6_25 (dk DX6_lays_3 8 rfl) 0 rfl rfl ?_
                      refine st_iload_n C (dk DX6_lays_3 9 rfl) rfl ?_
                      refine st_iload C (dk DX6_lays_3 10 rfl) rfl ?_
                      refine st_iast C (dk DX6_lays_3 11 rfl) 1 rfl (vp_nI hx2 hQ (by decide)) ?_
                      refine st_iinc C (dk DX6_lays_3 12 rfl) rfl (iadd_ofInt _ (1) (1) (by decide)) (by decide) rfl ?_
                      refine st_iinc C (dk DX6_lays_3 13 rfl) rfl (iadd_ofInt _ (1) (1) (by decide)) (by decide) rfl ?_
                      refine st_goto C (tgt := 92) (dk DX6_lays_3 14 rfl) (by decide) ?_
                      refine st_lv C [0, 1, 2, 3, 4] rfl ?_
                      exact ih (st + 1) _ _ _ _ _ _ _ (by omega) (nI_1 st) (by rw [hb9, List.length_append]; rw [hx2, nI_1]; rfl) (by rw [hb9]; exact MRel.add hM hbe hrow.2.1 hQ hu hn hekR hx2 (by rw [if_neg (by rw [nI_clamp (by omega)] at c_194; exact c_194), nI_clamp (by omega)]))
                    · refine st_iload C (dk DX6_lays_2 38 rfl) rfl ?_
                      refine st_goto C (tgt := 213) (dk DX6_lays_2 39 rfl) (by decide) ?_
                      refine st_iast C (dk DX6_lays_3 6 rfl) 5 rfl hvc ?_
                      refine st_aload_n C (dk DX6_lays_3 7 rfl) rfl ?_
                      refine st_get C fl_RX6_25 (dk DX6_lays_3 8 rfl) 0 rfl rfl ?_
                      refine st_iload_n C (dk DX6_lays_3 9 rfl) rfl ?_
                      refine st_iload C (dk DX6_lays_3 10 rfl) rfl ?_
                      refine st_iast C (dk DX6_lays_3 11 rfl) 1 rfl (vp_nI hx2 hQ (by decide)) ?_
                      refine st_iinc C (dk DX6_lays_3 12 rfl) rfl (iadd_ofInt _ (1) (1) (by decide)) (by decide) rfl ?_
                      refine st_iinc C (dk DX6_lays_3 13 rfl) rfl (iadd_ofInt _ (1) (1) (by decide)) (by decide) rfl ?_
                      refine st_goto C (tgt := 92) (dk DX6_lays_3 14 rfl) (by decide) ?_
                      refine st_lv C [0, 1, 2, 3, 4] rfl ?_
                      exact ih (st + 1) _ _ _ _ _ _ _ (by omega) (nI_1 st) (by rw [hb9, List.length_append]; rw [hx2, nI_1]; rfl) (by rw [hb9]; exact MRel.add hM hbe hrow.2.1 hQ hu hn hekR hx2 (by rw [if_pos (by rw [nI_clamp (by omega)] at c_194; exact c_194)]))
        refine st_iconst C (v := 0) (dk DX6_lays_1 16 rfl) (by decide) ?_
        refine st_istore C (dk DX6_lays_1 17 rfl) (by decide) rfl ?_
        exact inner 5 0 _ _ _ _ _ _ _ (by omega) rfl hx2 hM
  have K43 : ∀ (x : Int32) (qu fr by9 fa fs : Nat → Int32), (∀ j, j < 4624 → fa j = -1) → (∀ j, j < 16 → fs j = -1) → P 0 0 43 [(0, .ref M), (1, .ref a), (2, .int x)] [] [(M, ob 5 (mF A ke ty th ap ft bo ot il)), (A 5, aI G 4624 qu), (A 6, aI G 4624 fr), (A 7, aI G 4624 by9), (A 8, aI G 4624 fa), (A 9, aI G 16 fs), (a, aI G 53 f)] := by
    intro x qu fr by9 fa fs hfa hfs
    refine st_iconst C (v := 1) (dk DX6_lays_0 24 rfl) (by decide) ?_
    refine st_istore_n C (dk DX6_lays_0 25 rfl) (by decide) rfl ?_
    refine st_aload_n C (dk DX6_lays_0 26 rfl) rfl ?_
    refine st_get C fl_RX6_25 (dk DX6_lays_0 27 rfl) 0 rfl rfl ?_
    refine st_iconst C (v := 0) (dk DX6_lays_0 28 rfl) (by decide) ?_
    refine st_aload_n C (dk DX6_lays_0 29 rfl) rfl ?_
    refine st_aload_n C (dk DX6_lays_0 30 rfl) rfl ?_
    refine st_cV C (k_X6_begins l G hf hok) mf_X6_begins mi_X6_begins ml_RX6_91 (dk DX6_lays_0 31 rfl) [0, 6] rfl rfl rfl rfl (Nat.le_of_ble_eq_true rfl) rfl rfl ⟨Nat.le_of_ble_eq_true rfl, Nat.le_of_ble_eq_true rfl⟩ ⟨Nat.zero_le _, Nat.zero_le _⟩ (fun r9 w9 hq9 => ?_)
    obtain ⟨rfl, rfl⟩ := hq9
    rw [show nI (emN (s 1, (bgnN s 16).2.1, (bgnN s 16).2.2.2)) = nI (emN (t0S s)) from rfl]
    refine st_iast C (dk DX6_lays_0 32 rfl) 1 rfl (vp_nI (show (0 : Int32) = nI 0 from rfl) (by decide) (by decide)) ?_
    have hq0 : upd qu (Int32.toNatClampNeg 0) (nI (emN (t0S s))) (Int32.toNatClampNeg 0) = nI (emN (t0S s)) := pk_us
    have e0l := emN_lt (t0_v hok)
    have hpl : f (Int32.toNatClampNeg 1) = nI (s 1) := hf.at (x := 1) (j := 1) rfl (by decide)
    refine st_aload_n C (dk DX6_lays_0 33 rfl) rfl ?_
    refine st_get C fl_RX6_34 (dk DX6_lays_0 34 rfl) 0 rfl rfl ?_
    refine st_aload_n C (dk DX6_lays_0 35 rfl) rfl ?_
    refine st_get C fl_RX6_25 (dk DX6_lays_0 36 rfl) 0 rfl rfl ?_
    refine st_iconst C (v := 0) (dk DX6_lays_0 37 rfl) (by decide) ?_
    refine st_iald C (dk DX6_lays_0 38 rfl) 1 rfl (vp_nI (show (0 : Int32) = nI 0 from rfl) (by decide) (by decide)) ?_
    rw [hq0]
    refine st_iconst C (v := 0) (dk DX6_lays_0 39 rfl) (by decide) ?_
    refine st_iast C (dk DX6_lays_1 0 rfl) 4 rfl (vp_in_nI e0l (by decide)) ?_
    refine st_aload_n C (dk DX6_lays_1 1 rfl) rfl ?_
    refine st_get C fl_RX6_37 (dk DX6_lays_1 2 rfl) 0 rfl rfl ?_
    refine st_aload_n C (dk DX6_lays_1 3 rfl) rfl ?_
    refine st_iconst C (v := 1) (dk DX6_lays_1 4 rfl) (by decide) ?_
    refine st_iald C (dk DX6_lays_1 5 rfl) 6 rfl (vp_nI (show (1 : Int32) = nI 1 from rfl) (by decide) (by decide)) ?_
    rw [hpl]
    refine st_aload_n C (dk DX6_lays_1 6 rfl) rfl ?_
    refine st_get C fl_RX6_25 (dk DX6_lays_1 7 rfl) 0 rfl rfl ?_
    refine st_iconst C (v := 0) (dk DX6_lays_1 8 rfl) (by decide) ?_
    refine st_iald C (dk DX6_lays_1 9 rfl) 1 rfl (vp_nI (show (0 : Int32) = nI 0 from rfl) (by decide) (by decide)) ?_
    rw [hq0]
    refine st_iast C (dk DX6_lays_1 10 rfl) 5 rfl (vp_in_nI hok.2.2.1 (by decide)) ?_
    refine st_iconst C (v := 0) (dk DX6_lays_1 11 rfl) (by decide) ?_
    refine st_istore_n C (dk DX6_lays_1 12 rfl) (by decide) rfl ?_
    exact outer 4624 0 _ _ _ _ _ _ _ (by omega) rfl rfl (MRel.one hok hfa hfs)
  have loop2 : ∀ (m i : Nat) (x : Int32) (qu fr by9 fa fs : Nat → Int32), i + m = 16 → x = nI i → (∀ j, j < 4624 → fa j = -1) → (∀ j, j < i → fs j = -1) → P 0 0 24 [(0, .ref M), (1, .ref a), (2, .int x)] [] [(M, ob 5 (mF A ke ty th ap ft bo ot il)), (A 5, aI G 4624 qu), (A 6, aI G 4624 fr), (A 7, aI G 4624 by9), (A 8, aI G 4624 fa), (A 9, aI G 16 fs), (a, aI G 53 f)] := by
    intro m
    induction m with
    | zero =>
      intro i x qu fr by9 fa fs hi hx hfa hfs
      obtain rfl : i = 16 := by omega
      refine st_iload_n C (dk DX6_lays_0 14 rfl) rfl ?_
      refine st_bipush C (v := 16) (dk DX6_lays_0 15 rfl) (by decide) ?_
      refine st_icmp_ge C (tgt := 43) (dk DX6_lays_0 16 rfl) (by decide) (fun c_27 => ?_) (fun c_27 => ?_)
      · exact K43 _ _ _ _ _ _ hfa hfs
      · exact absurd ((ge_nI (a := 16) (i := 16) (by decide) (by decide) rfl hx).mpr (Nat.le_refl _)) c_27
    | succ m ih =>
      intro i x qu fr by9 fa fs hi hx hfa hfs
      refine st_iload_n C (dk DX6_lays_0 14 rfl) rfl ?_
      refine st_bipush C (v := 16) (dk DX6_lays_0 15 rfl) (by decide) ?_
      refine st_icmp_ge C (tgt := 43) (dk DX6_lays_0 16 rfl) (by decide) (fun c_27 => ?_) (fun c_27 => ?_)
      · exact absurd ((ge_nI (a := 16) (i := i) (by decide) (by omega) rfl hx).mp c_27) (by omega)
      · refine st_aload_n C (dk DX6_lays_0 17 rfl) rfl ?_
        refine st_get C fl_RX6_37 (dk DX6_lays_0 18 rfl) 0 rfl rfl ?_
        refine st_iload_n C (dk DX6_lays_0 19 rfl) rfl ?_
        refine st_iconst C (v := -1) (dk DX6_lays_0 20 rfl) (by decide) ?_
        refine st_iast C (dk DX6_lays_0 21 rfl) 5 rfl (vp_nI hx (by omega : i < 16) (by decide)) ?_
        refine st_iinc C (dk DX6_lays_0 22 rfl) rfl (iadd_ofInt _ (1) (1) (by decide)) (by decide) rfl ?_
        refine st_goto C (tgt := 24) (dk DX6_lays_0 23 rfl) (by decide) ?_
        exact ih (i + 1) _ _ _ _ _ _ (by omega) (up_nI hx) hfa (upd_cp (g := fun _ => -1) hx (by omega) hfs)
  have loop1 : ∀ (m i : Nat) (x : Int32) (qu fr by9 fa fs : Nat → Int32), i + m = 4624 → x = nI i → (∀ j, j < i → fa j = -1) → P 0 0 2 [(0, .ref M), (1, .ref a), (2, .int x)] [] [(M, ob 5 (mF A ke ty th ap ft bo ot il)), (A 5, aI G 4624 qu), (A 6, aI G 4624 fr), (A 7, aI G 4624 by9), (A 8, aI G 4624 fa), (A 9, aI G 16 fs), (a, aI G 53 f)] := by
    intro m
    induction m with
    | zero =>
      intro i x qu fr by9 fa fs hi hx hfa
      obtain rfl : i = 4624 := by omega
      refine st_iload_n C (dk DX6_lays_0 2 rfl) rfl ?_
      refine st_sipush C (v := 4624) (dk DX6_lays_0 3 rfl) (by decide) ?_
      refine st_icmp_ge C (tgt := 22) (dk DX6_lays_0 4 rfl) (by decide) (fun c_6 => ?_) (fun c_6 => ?_)
      · refine st_iconst C (v := 0) (dk DX6_lays_0 12 rfl) (by decide) ?_
        refine st_istore_n C (dk DX6_lays_0 13 rfl) (by decide) rfl ?_
        exact loop2 16 0 _ _ _ _ _ _ (by omega) rfl hfa (fun j hj => absurd hj (Nat.not_lt_zero j))
      · exact absurd ((ge_nI (a := 4624) (i := 4624) (by decide) (by decide) rfl hx).mpr (Nat.le_refl _)) c_6
    | succ m ih =>
      intro i x qu fr by9 fa fs hi hx hfa
      refine st_iload_n C (dk DX6_lays_0 2 rfl) rfl ?_
      refine st_sipush C (v := 4624) (dk DX6_lays_0 3 rfl) (by decide) ?_
      refine st_icmp_ge C (tgt := 22) (dk DX6_lays_0 4 rfl) (by decide) (fun c_6 => ?_) (fun c_6 => ?_)
      · exact absurd ((ge_nI (a := 4624) (i := i) (by decide) (by omega) rfl hx).mp c_6) (by omega)
      · refine st_aload_n C (dk DX6_lays_0 5 rfl) rfl ?_
        refine st_get C fl_RX6_34 (dk DX6_lays_0 6 rfl) 0 rfl rfl ?_
        refine st_iload_n C (dk DX6_lays_0 7 rfl) rfl ?_
        refine st_iconst C (v := -1) (dk DX6_lays_0 8 rfl) (by decide) ?_
        refine st_iast C (dk DX6_lays_0 9 rfl) 4 rfl (vp_nI hx (by omega : i < 4624) (by decide)) ?_
        refine st_iinc C (dk DX6_lays_0 10 rfl) rfl (iadd_ofInt _ (1) (1) (by decide)) (by decide) rfl ?_
        refine st_goto C (tgt := 2) (dk DX6_lays_0 11 rfl) (by decide) ?_
        exact ih (i + 1) _ _ _ _ _ _ (by omega) (up_nI hx) (upd_cp (g := fun _ => -1) hx (by omega) hfa)
  refine st_iconst C (v := 0) (dk DX6_lays_0 0 rfl) (by decide) ?_
  refine st_istore_n C (dk DX6_lays_0 1 rfl) (by decide) rfl ?_
  exact loop1 4624 0 _ _ _ _ _ _ (by omega) rfl (fun j hj => absurd hj (Nat.not_lt_zero j))
end
section
/-! plans, read off the finished list -/
def anc (F : List bE) (i : Nat) : Nat → Nat
  | 0 => i
  | n + 1 => anc F (eAt F i).2.2.1 n
def plI (F : List bE) (c a : Nat) : Int32 := match fi F c with
  | none => -1
  | some i => if a < dst F i then nI (eAt F (anc F i (dst F i - 1 - a))).2.1 else -1
theorem plI_none {F : List bE} {c a : Nat} (h : fi F c = none) : plI F c a = -1 := by unfold plI; rw [h]
theorem plI_some {F : List bE} {c a i : Nat} (h : fi F c = some i) : plI F c a = if a < dst F i then nI (eAt F (anc F i (dst F i - 1 - a))).2.1 else -1 := by unfold plI; rw [h]
theorem fS_ok {s : mS} (h : mOk s) : bOk (gS s) (t0S s) (vS s) (fS s) := okS h bMax
theorem fS_len {s : mS} (h : mOk s) : (fS s).length ≤ 4624 := lenS h bMax
/-- an entry's parent lies one nearer -/
theorem par_of {g : bT → Nat → Option bT} {t0 : bT} {V : bT → Prop} {F : List bE} (hF : bOk g t0 V F) {i : Nat} (hi : i < F.length) (h0 : 0 < dst F i) : (eAt F i).2.2.1 < i ∧ dst F i = dst F (eAt F i).2.2.1 + 1 ∧ 0 < i := by
  have hp : 0 < i := by
    by_cases hz : 0 < i
    · exact hz
    · have : i = 0 := by omega
      subst this
      unfold dst at h0
      rw [eAt_get hF.2.2.1] at h0
      exact absurd h0 (Nat.lt_irrefl 0)
  have e1 : eAt F i = F[i] := eAt_get (List.getElem?_eq_getElem hi)
  obtain ⟨b, b1, b2, b3, -⟩ := hF.2.2.2 i F[i] (List.getElem?_eq_getElem hi) hp
  refine ⟨by rw [e1]; exact b2, ?_, hp⟩
  unfold dst
  rw [e1, b3, eAt_get b1]
theorem dst_small {s : mS} (h : mOk s) {i : Nat} (hi : i < (fS s).length) : dst (fS s) i ≤ i ∧ i < 4624 := by
  have h1 := dst_le (fS_ok h) (i + 1) i (by omega) hi
  have h2 := fS_len h
  exact ⟨h1, by omega⟩
theorem fS_v {s : mS} (h : mOk s) {i : Nat} (hi : i < (fS s).length) : vS s (eAt (fS s) i).1 := by
  rw [eAt_get (List.getElem?_eq_getElem hi)]
  exact (fS_ok h).2.1 _ (List.getElem_mem hi)
theorem MRel.atF {F : List bE} {qu fr by9 fa fs : Nat → Int32} (h : MRel F qu fr by9 fa fs) {i : Nat} (hi : i < F.length) : fa (emN (eAt F i).1) = nI (dst F i) ∧ (0 < i → fr (emN (eAt F i).1) = nI (emN (eAt F (eAt F i).2.2.1).1) ∧ by9 (emN (eAt F i).1) = nI (eAt F i).2.1) := by
  have h1 := h.2.1 i _ (List.getElem?_eq_getElem hi)
  unfold dst
  rw [eAt_get (List.getElem?_eq_getElem hi)]
  exact h1
theorem MRel.at {s : mS} (hok : mOk s) {qu fr by9 fa fs : Nat → Int32} (h : MRel (fS s) qu fr by9 fa fs) {i : Nat} (hi : i < (fS s).length) : fa (emN (eAt (fS s) i).1) = nI (dst (fS s) i) ∧ (0 < i → fr (emN (eAt (fS s) i).1) = nI (emN (eAt (fS s) (eAt (fS s) i).2.2.1).1) ∧ by9 (emN (eAt (fS s) i).1) = nI (eAt (fS s) i).2.1) := MRel.atF h hi
theorem fS_emN {s : mS} (h : mOk s) {i : Nat} (hi : i < (fS s).length) : emN (eAt (fS s) i).1 < 4624 := emN_lt (fS_v h hi)
theorem fi_lt' {F : List bE} {c i : Nat} (h : fi F c = some i) : i < F.length := by
  obtain ⟨e, he, -⟩ := fi_lt h
  exact (List.getElem?_eq_some_iff.mp he).1
abbrev mW (G : wG) (M : Nat) (A : Nat → Nat) (ke ty th ap ft bo ot il : Int32) (f0 f1 f2 f3 f4 qu fr by9 fa fs : Nat → Int32) : va_W := [(M, ob 5 (mF A ke ty th ap ft bo ot il)), (A 0, aI G 53 f0), (A 1, aI G 53 f1), (A 2, aI G 318 f2), (A 3, aI G 60 f3), (A 4, aI G 48 f4), (A 5, aI G 4624 qu), (A 6, aI G 4624 fr), (A 7, aI G 4624 by9), (A 8, aI G 4624 fa), (A 9, aI G 16 fs)]
end
section
/-! the reference: plans and looks -/
set_option maxHeartbeats 4000000 in
set_option maxRecDepth 100000 in
theorem k_X6_thrown (l : Launch) (G : wG) {M : Nat} {A : Nat → Nat} {ke ty th ap ft bo ot il : Int32} : Con0 l G yX6_thrown cX6_thrown 1 (some .int) 0 [.ref M] [(M, ob 5 (mF A ke ty th ap ft bo ot il))] (fun r v9 => r = some (.int (th)) ∧ v9 = [(M, ob 5 (mF A ke ty th ap ft bo ot il))]) := by
  refine Con.mk (by decide +kernel) (Nat.le_of_ble_eq_true rfl) (fun P C Rr => ?_)
  refine st_aload_n C (dk DX6_thrown_0 0 rfl) rfl ?_
  refine st_get C fl_RX6_40 (dk DX6_thrown_0 1 rfl) 0 rfl rfl ?_
  exact Rr 0 0 _ _ _ _ _ _ (Nat.zero_le _) (Nat.zero_le _) (dk DX6_thrown_0 2 rfl) (.inr (.inl ⟨_, rfl, rfl, rfl, rfl⟩)) rfl ⟨rfl, ⟨rfl, rfl⟩⟩
set_option maxHeartbeats 4000000 in
set_option maxRecDepth 100000 in
theorem k_X6_fails (l : Launch) (G : wG) {M : Nat} {A : Nat → Nat} {ke ty th ap ft bo ot il : Int32} {v : Int32} : Con0 l G yX6_fails cX6_fails 2 (some .int) 0 [.ref M, .int v] [(M, ob 5 (mF A ke ty th ap ft bo ot il))] (fun r v9 => r = some (.int (0)) ∧ v9 = [(M, ob 5 (mF A ke ty v ap ft bo ot il))]) := by
  refine Con.mk (by decide +kernel) (Nat.le_of_ble_eq_true rfl) (fun P C Rr => ?_)
  refine st_aload_n C (dk DX6_fails_0 0 rfl) rfl ?_
  refine st_iload_n C (dk DX6_fails_0 1 rfl) rfl ?_
  refine st_put C fl_RX6_40 fc_5 fw_5_6 (dk DX6_fails_0 2 rfl) 0 rfl rfl rfl (Nat.le_of_ble_eq_true rfl) ?_
  refine st_iconst C (v := 0) (dk DX6_fails_0 3 rfl) (by decide) ?_
  exact Rr 0 0 _ _ _ _ _ _ (Nat.zero_le _) (Nat.zero_le _) (dk DX6_fails_0 4 rfl) (.inr (.inl ⟨_, rfl, rfl, rfl, rfl⟩)) rfl ⟨rfl, ⟨rfl, rfl⟩⟩
set_option maxHeartbeats 4000000 in
set_option maxRecDepth 100000 in
theorem k_X6_laysNow (l : Launch) (G : wG) {M : Nat} {A : Nat → Nat} {ke ty th ap ft bo ot il : Int32} {s : mS} {f : Nat → Int32} {qu fr by9 fa fs : Nat → Int32} (hf : hd53 f s) (hok : mOk s) (hil : il = 0 ∨ (il = 1 ∧ MRel (fS s) qu fr by9 fa fs)) : Con0 l G yX6_laysNow cX6_laysNow 1 none 6 [.ref M] [(M, ob 5 (mF A ke ty th ap ft bo ot il)), (A 0, aI G 53 f), (A 5, aI G 4624 qu), (A 6, aI G 4624 fr), (A 7, aI G 4624 by9), (A 8, aI G 4624 fa), (A 9, aI G 16 fs)] (fun r v9 => r = none ∧ ∃ (bo9 ot9 : Int32) (qu9 fr9 by99 fa9 fs9 : Nat → Int32), MRel (fS s) qu9 fr9 by99 fa9 fs9 ∧ v9 = [(M, ob 5 (mF A ke ty th ap ft bo9 ot9 1)), (A 0, aI G 53 f), (A 5, aI G 4624 qu9), (A 6, aI G 4624 fr9), (A 7, aI G 4624 by99), (A 8, aI G 4624 fa9), (A 9, aI G 16 fs9)]) := by
  refine Con.mk (by decide +kernel) (Nat.le_of_ble_eq_true rfl) (fun P C Rr => ?_)
  refine st_aload_n C (dk DX6_laysNow_0 0 rfl) rfl ?_
  refine st_get C fl_RX6_48 (dk DX6_laysNow_0 1 rfl) 0 rfl rfl ?_
  refine st_if_ne C (tgt := 20) (dk DX6_laysNow_0 2 rfl) (by decide) (fun c_4 => ?_) (fun c_4 => ?_)
  · exact Rr 0 0 _ _ _ _ _ _ (Nat.zero_le _) (Nat.zero_le _) (dk DX6_laysNow_0 10 rfl) (.inl ⟨rfl, rfl, rfl, rfl⟩) rfl ⟨rfl, ⟨rfl, bo, ot, qu, fr, by9, fa, fs, (hil.resolve_left c_4).2, by rw [(hil.resolve_left c_4).1]; rfl⟩⟩
  · refine st_aload_n C (dk DX6_laysNow_0 3 rfl) rfl ?_
    refine st_aload_n C (dk DX6_laysNow_0 4 rfl) rfl ?_
    refine st_get C fl_RX6_7 (dk DX6_laysNow_0 5 rfl) 0 rfl rfl ?_
    refine st_cV C (k_X6_lays l G hf hok) mf_X6_lays mi_X6_lays ml_RX6_98 (dk DX6_laysNow_0 6 rfl) [0, 2, 3, 4, 5, 6, 1] rfl rfl rfl rfl (Nat.le_of_ble_eq_true rfl) rfl rfl ⟨Nat.le_of_ble_eq_true rfl, Nat.le_of_ble_eq_true rfl⟩ ⟨Nat.zero_le _, Nat.zero_le _⟩ (fun r9 w9 hq9 => ?_)
    obtain ⟨rfl, qu12, fr12, by12, fa12, fs12, hM12, rfl⟩ := hq9
    refine st_aload_n C (dk DX6_laysNow_0 7 rfl) rfl ?_
    refine st_iconst C (v := 1) (dk DX6_laysNow_0 8 rfl) (by decide) ?_
    refine st_put C fl_RX6_48 fc_5 fw_5_17 (dk DX6_laysNow_0 9 rfl) 0 rfl rfl rfl (Nat.le_of_ble_eq_true rfl) ?_
    exact Rr 0 0 _ _ _ _ _ _ (Nat.zero_le _) (Nat.zero_le _) (dk DX6_laysNow_0 10 rfl) (.inl ⟨rfl, rfl, rfl, rfl⟩) rfl ⟨rfl, ⟨rfl, _, _, _, _, _, _, _, hM12, rfl⟩⟩
set_option maxHeartbeats 4000000 in
set_option maxRecDepth 100000 in
theorem k_X6_steps (l : Launch) (G : wG) {M : Nat} {A : Nat → Nat} {ke ty th ap ft bo ot il : Int32} {s : mS} {qu fr by9 fa fs : Nat → Int32} {x : Int32} {c : Nat} (hok : mOk s) (hM : MRel (fS s) qu fr by9 fa fs) (hx : x = nI c) (hc : c < 16) : Con0 l G yX6_steps cX6_steps 2 (some .int) 0 [.ref M, .int x] [(M, ob 5 (mF A ke ty th ap ft bo ot il)), (A 8, aI G 4624 fa), (A 9, aI G 16 fs)] (fun r v9 => r = some (.int (lnOf (fS s) c)) ∧ v9 = [(M, ob 5 (mF A ke ty th ap ft bo ot il)), (A 8, aI G 4624 fa), (A 9, aI G 16 fs)]) := by
  refine Con.mk (by decide +kernel) (Nat.le_of_ble_eq_true rfl) (fun P C Rr => ?_)
  have hfs : fs x.toNatClampNeg = fsOf (fS s) c := by rw [cl_nI hx (by omega)]; exact hM.2.2.2 c hc
  refine st_aload_n C (dk DX6_steps_0 0 rfl) rfl ?_
  refine st_get C fl_RX6_37 (dk DX6_steps_0 1 rfl) 0 rfl rfl ?_
  refine st_iload_n C (dk DX6_steps_0 2 rfl) rfl ?_
  refine st_iald C (dk DX6_steps_0 3 rfl) 2 rfl (vp_nI hx hc (by decide)) ?_
  refine st_iconst C (v := -1) (dk DX6_steps_0 4 rfl) (by decide) ?_
  refine st_icmp_ne C (tgt := 14) (dk DX6_steps_0 5 rfl) (by decide) (fun c_7 => ?_) (fun c_7 => ?_)
  · obtain ⟨i, hq⟩ : ∃ i, fi (fS s) c = some i := by
      cases hq : fi (fS s) c with
      | none => exact absurd (by rw [hfs, fsOf_none hq]) c_7
      | some i => exact ⟨i, rfl⟩
    refine st_aload_n C (dk DX6_steps_0 8 rfl) rfl ?_
    refine st_get C fl_RX6_34 (dk DX6_steps_0 9 rfl) 0 rfl rfl ?_
    refine st_aload_n C (dk DX6_steps_0 10 rfl) rfl ?_
    refine st_get C fl_RX6_37 (dk DX6_steps_0 11 rfl) 0 rfl rfl ?_
    refine st_iload_n C (dk DX6_steps_0 12 rfl) rfl ?_
    refine st_iald C (dk DX6_steps_0 13 rfl) 2 rfl (vp_nI hx hc (by decide)) ?_
    refine st_iald C (dk DX6_steps_0 14 rfl) 1 rfl (by rw [hfs, fsOf_some hq]; exact vp_in_nI (fS_emN hok (fi_lt' hq)) (by decide)) ?_
    refine Rr 0 0 _ _ _ _ _ _ (Nat.zero_le _) (Nat.zero_le _) (dk DX6_steps_0 15 rfl) (.inr (.inl ⟨_, rfl, rfl, rfl, rfl⟩)) rfl ?_
    refine ⟨rfl, ?_, rfl⟩
    rw [lnOf_some hq, hfs, fsOf_some hq, nI_clamp (by have := fS_emN hok (fi_lt' hq); omega), (hM.at hok (fi_lt' hq)).1]
  · refine st_iconst C (v := -1) (dk DX6_steps_0 6 rfl) (by decide) ?_
    refine st_goto C (tgt := 25) (dk DX6_steps_0 7 rfl) (by decide) ?_
    refine Rr 0 0 _ _ _ _ _ _ (Nat.zero_le _) (Nat.zero_le _) (dk DX6_steps_0 15 rfl) (.inr (.inl ⟨_, rfl, rfl, rfl, rfl⟩)) rfl ?_
    refine ⟨rfl, ?_, rfl⟩
    cases hq : fi (fS s) c with
    | none => rw [lnOf_none hq]
    | some i =>
      rw [hfs, fsOf_some hq] at c_7
      exact absurd c_7 (nI_m1 (by have := fS_emN hok (fi_lt' hq); omega))
set_option maxHeartbeats 4000000 in
set_option maxRecDepth 100000 in
theorem k_X6_stepAt (l : Launch) (G : wG) {M : Nat} {A : Nat → Nat} {ke ty th ap ft bo ot il : Int32} {s : mS} {qu fr by9 fa fs : Nat → Int32} {x y : Int32} {c a : Nat} (hok : mOk s) (hM : MRel (fS s) qu fr by9 fa fs) (hx : x = nI c) (hc : c < 16) (hy : y = nI a) (ha : a < 2 ^ 31) : Con0 l G yX6_stepAt cX6_stepAt 4 (some .int) 1 [.ref M, .int x, .int y] [(M, ob 5 (mF A ke ty th ap ft bo ot il)), (A 6, aI G 4624 fr), (A 7, aI G 4624 by9), (A 8, aI G 4624 fa), (A 9, aI G 16 fs)] (fun r v9 => r = some (.int (plI (fS s) c a)) ∧ v9 = [(M, ob 5 (mF A ke ty th ap ft bo ot il)), (A 6, aI G 4624 fr), (A 7, aI G 4624 by9), (A 8, aI G 4624 fa), (A 9, aI G 16 fs)]) := by
  refine Con.mk (by decide +kernel) (Nat.le_of_ble_eq_true rfl) (fun P C Rr => ?_)
  subst hy
  have loop : ∀ (m j : Nat), j < (fS s).length → dst (fS s) j = a + 1 + m → plI (fS s) c a = nI (eAt (fS s) (anc (fS s) j m)).2.1 → P 0 0 18 [(0, .ref M), (1, .int x), (2, .int (nI a)), (3, .int (nI (emN (eAt (fS s) j).1)))] [] [(M, ob 5 (mF A ke ty th ap ft bo ot il)), (A 6, aI G 4624 fr), (A 7, aI G 4624 by9), (A 8, aI G 4624 fa), (A 9, aI G 16 fs)] := by
    intro m
    induction m with
    | zero =>
      intro j hj hd hr
      obtain ⟨p1, p2, p3⟩ := par_of (fS_ok hok) hj (by omega)
      have hs := dst_small hok hj
      have he := fS_emN hok hj
      have hat := hM.at hok hj
      refine st_aload_n C (dk DX6_stepAt_0 12 rfl) rfl ?_
      refine st_get C fl_RX6_34 (dk DX6_stepAt_0 13 rfl) 0 rfl rfl ?_
      refine st_iload_n C (dk DX6_stepAt_0 14 rfl) rfl ?_
      refine st_iald C (dk DX6_stepAt_0 15 rfl) 3 rfl (vp_in_nI he (by decide)) ?_
      rw [show fa (nI (emN (eAt (fS s) j).1)).toNatClampNeg = nI (dst (fS s) j) by rw [nI_clamp (by omega)]; exact hat.1]
      refine st_iload_n C (dk DX6_stepAt_0 16 rfl) rfl ?_
      refine st_iconst C (v := 1) (dk DX6_stepAt_0 17 rfl) (by decide) ?_
      refine st_iadd C (dk DX6_stepAt_0 18 rfl) ?_
      refine st_icmp_le C (tgt := 40) (dk DX6_stepAt_0 19 rfl) (by decide) (fun c_27 => ?_) (fun c_27 => ?_)
      · refine st_aload_n C (dk DX6_stepAt_0 26 rfl) rfl ?_
        refine st_get C fl_RX6_31 (dk DX6_stepAt_0 27 rfl) 0 rfl rfl ?_
        refine st_iload_n C (dk DX6_stepAt_0 28 rfl) rfl ?_
        refine st_iald C (dk DX6_stepAt_0 29 rfl) 2 rfl (vp_in_nI he (by decide)) ?_
        refine Rr 0 0 _ _ _ _ _ _ (Nat.zero_le _) (Nat.zero_le _) (dk DX6_stepAt_0 30 rfl) (.inr (.inl ⟨_, rfl, rfl, rfl, rfl⟩)) rfl ?_
        refine ⟨rfl, ?_, rfl⟩
        rw [hr, nI_clamp (by omega), (hat.2 p3).2]
        rfl
      · exact absurd ((ge_nI (a := dst (fS s) j) (i := a + 1) (by omega) (by omega) rfl (nI_1 a)).mpr (by omega)) c_27
    | succ m ih =>
      intro j hj hd hr
      obtain ⟨p1, p2, p3⟩ := par_of (fS_ok hok) hj (by omega)
      have hs := dst_small hok hj
      have he := fS_emN hok hj
      have hat := hM.at hok hj
      refine st_aload_n C (dk DX6_stepAt_0 12 rfl) rfl ?_
      refine st_get C fl_RX6_34 (dk DX6_stepAt_0 13 rfl) 0 rfl rfl ?_
      refine st_iload_n C (dk DX6_stepAt_0 14 rfl) rfl ?_
      refine st_iald C (dk DX6_stepAt_0 15 rfl) 3 rfl (vp_in_nI he (by decide)) ?_
      rw [show fa (nI (emN (eAt (fS s) j).1)).toNatClampNeg = nI (dst (fS s) j) by rw [nI_clamp (by omega)]; exact hat.1]
      refine st_iload_n C (dk DX6_stepAt_0 16 rfl) rfl ?_
      refine st_iconst C (v := 1) (dk DX6_stepAt_0 17 rfl) (by decide) ?_
      refine st_iadd C (dk DX6_stepAt_0 18 rfl) ?_
      refine st_icmp_le C (tgt := 40) (dk DX6_stepAt_0 19 rfl) (by decide) (fun c_27 => ?_) (fun c_27 => ?_)
      · exact absurd ((ge_nI (a := dst (fS s) j) (i := a + 1) (by omega) (by omega) rfl (nI_1 a)).mp c_27) (by omega)
      · refine st_aload_n C (dk DX6_stepAt_0 20 rfl) rfl ?_
        refine st_get C fl_RX6_28 (dk DX6_stepAt_0 21 rfl) 0 rfl rfl ?_
        refine st_iload_n C (dk DX6_stepAt_0 22 rfl) rfl ?_
        refine st_iald C (dk DX6_stepAt_0 23 rfl) 1 rfl (vp_in_nI he (by decide)) ?_
        rw [show fr (nI (emN (eAt (fS s) j).1)).toNatClampNeg = nI (emN (eAt (fS s) (eAt (fS s) j).2.2.1).1) by rw [nI_clamp (by omega)]; exact (hat.2 p3).1]
        refine st_istore_n C (dk DX6_stepAt_0 24 rfl) (by decide) rfl ?_
        refine st_goto C (tgt := 18) (dk DX6_stepAt_0 25 rfl) (by decide) ?_
        exact ih _ (by omega) (by omega) hr
  refine st_iload_n C (dk DX6_stepAt_0 0 rfl) rfl ?_
  refine st_aload_n C (dk DX6_stepAt_0 1 rfl) rfl ?_
  refine st_iload_n C (dk DX6_stepAt_0 2 rfl) rfl ?_
  refine st_cV C (k_X6_steps l G hok hM hx hc) mf_X6_steps mi_X6_steps ml_RX6_102 (dk DX6_stepAt_0 3 rfl) [0, 3, 4] rfl rfl rfl rfl (Nat.le_of_ble_eq_true rfl) rfl rfl ⟨Nat.le_of_ble_eq_true rfl, Nat.le_of_ble_eq_true rfl⟩ ⟨Nat.zero_le _, Nat.zero_le _⟩ (fun r9 w9 hq9 => ?_)
  obtain ⟨rfl, rfl⟩ := hq9
  refine st_icmp_lt C (tgt := 11) (dk DX6_stepAt_0 4 rfl) (by decide) (fun c_6 => ?_) (fun c_6 => ?_)
  · obtain ⟨i, hq⟩ : ∃ i, fi (fS s) c = some i := by
      cases hq : fi (fS s) c with
      | none =>
        rw [lnOf_none hq] at c_6
        exact absurd c_6 (by intro h; rw [Int32.lt_iff_toInt_lt, nI_toInt ha] at h; have : ((-1 : Int32)).toInt = -1 := by decide
                             omega)
      | some i => exact ⟨i, rfl⟩
    have hs0 := dst_small hok (fi_lt' hq)
    have had : a < dst (fS s) i := by rw [lnOf_some hq] at c_6; exact (nI_ltI ha (by omega)).mp c_6
    refine st_aload_n C (dk DX6_stepAt_0 7 rfl) rfl ?_
    refine st_get C fl_RX6_37 (dk DX6_stepAt_0 8 rfl) 0 rfl rfl ?_
    refine st_iload_n C (dk DX6_stepAt_0 9 rfl) rfl ?_
    refine st_iald C (dk DX6_stepAt_0 10 rfl) 4 rfl (vp_nI hx hc (by decide)) ?_
    rw [show fs x.toNatClampNeg = nI (emN (eAt (fS s) i).1) by rw [cl_nI hx (by omega), hM.2.2.2 c hc, fsOf_some hq]]
    refine st_istore_n C (dk DX6_stepAt_0 11 rfl) (by decide) rfl ?_
    exact loop (dst (fS s) i - 1 - a) i (fi_lt' hq) (by omega) (by rw [plI_some hq, if_pos had])
  · refine st_iconst C (v := -1) (dk DX6_stepAt_0 5 rfl) (by decide) ?_
    refine Rr 0 0 _ _ _ _ _ _ (Nat.zero_le _) (Nat.zero_le _) (dk DX6_stepAt_0 6 rfl) (.inr (.inl ⟨_, rfl, rfl, rfl, rfl⟩)) rfl ?_
    refine ⟨rfl, ?_, rfl⟩
    cases hq : fi (fS s) c with
    | none => rw [plI_none hq]
    | some i =>
      have hs0 := dst_small hok (fi_lt' hq)
      rw [plI_some hq, if_neg]
      intro had
      rw [lnOf_some hq] at c_6
      exact c_6 ((nI_ltI ha (by omega)).mpr had)
set_option maxHeartbeats 4000000 in
set_option maxRecDepth 100000 in
theorem k_X6_reachable (l : Launch) (G : wG) {M : Nat} {A : Nat → Nat} {ke ty th ap ft bo ot il : Int32} {s : mS} {qu fr by9 fa fs : Nat → Int32} (hok : mOk s) (hM : MRel (fS s) qu fr by9 fa fs) : Con0 l G yX6_reachable cX6_reachable 3 (some .int) 0 [.ref M] [(M, ob 5 (mF A ke ty th ap ft bo ot il)), (A 9, aI G 16 fs)] (fun r v9 => r = some (.int (nI (cnt (fS s) 16))) ∧ v9 = [(M, ob 5 (mF A ke ty th ap ft bo ot il)), (A 9, aI G 16 fs)]) := by
  refine Con.mk (by decide +kernel) (Nat.le_of_ble_eq_true rfl) (fun P C Rr => ?_)
  have loop : ∀ (m i : Nat) (x : Int32) (acc : Int32), i + m = 16 → x = nI i → acc = nI (cnt (fS s) i) → P 0 0 4 [(0, .ref M), (1, .int acc), (2, .int x)] [] [(M, ob 5 (mF A ke ty th ap ft bo ot il)), (A 9, aI G 16 fs)] := by
    intro m
    induction m with
    | zero =>
      intro i x acc hi hx hacc
      obtain rfl : i = 16 := by omega
      refine st_iload_n C (dk DX6_reachable_0 4 rfl) rfl ?_
      refine st_bipush C (v := 16) (dk DX6_reachable_0 5 rfl) (by decide) ?_
      refine st_icmp_ge C (tgt := 34) (dk DX6_reachable_0 6 rfl) (by decide) (fun c_7 => ?_) (fun c_7 => ?_)
      · refine st_iload_n C (dk DX6_reachable_0 21 rfl) rfl ?_
        exact Rr 0 0 _ _ _ _ _ _ (Nat.zero_le _) (Nat.zero_le _) (dk DX6_reachable_0 22 rfl) (.inr (.inl ⟨_, rfl, rfl, rfl, rfl⟩)) rfl ⟨rfl, ⟨by rw [hacc], rfl⟩⟩
      · exact absurd ((ge_nI (a := 16) (i := 16) (by decide) (by decide) rfl hx).mpr (Nat.le_refl _)) c_7
    | succ m ih =>
      intro i x acc hi hx hacc
      have hfs : fs x.toNatClampNeg = fsOf (fS s) i := by rw [cl_nI hx (by omega)]; exact hM.2.2.2 i (by omega)
      refine st_iload_n C (dk DX6_reachable_0 4 rfl) rfl ?_
      refine st_bipush C (v := 16) (dk DX6_reachable_0 5 rfl) (by decide) ?_
      refine st_icmp_ge C (tgt := 34) (dk DX6_reachable_0 6 rfl) (by decide) (fun c_7 => ?_) (fun c_7 => ?_)
      · exact absurd ((ge_nI (a := 16) (i := i) (by decide) (by omega) rfl hx).mp c_7) (by omega)
      · refine st_iload_n C (dk DX6_reachable_0 7 rfl) rfl ?_
        refine st_aload_n C (dk DX6_reachable_0 8 rfl) rfl ?_
        refine st_get C fl_RX6_37 (dk DX6_reachable_0 9 rfl) 0 rfl rfl ?_
        refine st_iload_n C (dk DX6_reachable_0 10 rfl) rfl ?_
        refine st_iald C (dk DX6_reachable_0 11 rfl) 1 rfl (vp_nI hx (by omega : i < 16) (by decide)) ?_
        refine st_iconst C (v := -1) (dk DX6_reachable_0 12 rfl) (by decide) ?_
        refine st_icmp_ne C (tgt := 25) (dk DX6_reachable_0 13 rfl) (by decide) (fun c_18 => ?_) (fun c_18 => ?_)
        · refine st_iconst C (v := 1) (dk DX6_reachable_0 16 rfl) (by decide) ?_
          refine st_iadd C (dk DX6_reachable_0 17 rfl) ?_
          refine st_istore_n C (dk DX6_reachable_0 18 rfl) (by decide) rfl ?_
          refine st_iinc C (dk DX6_reachable_0 19 rfl) rfl (iadd_ofInt _ (1) (1) (by decide)) (by decide) rfl ?_
          refine st_goto C (tgt := 4) (dk DX6_reachable_0 20 rfl) (by decide) ?_
          exact ih (i + 1) _ _ (by omega) (up_nI hx) (by rw [hacc, nI_1]; congr 1; show _ = cnt (fS s) i + _; cases hq : fi (fS s) i with
            | none => rw [hfs, fsOf_none hq] at c_18; exact absurd rfl c_18
            | some j => rfl)
        · refine st_iconst C (v := 0) (dk DX6_reachable_0 14 rfl) (by decide) ?_
          refine st_goto C (tgt := 26) (dk DX6_reachable_0 15 rfl) (by decide) ?_
          refine st_iadd C (dk DX6_reachable_0 17 rfl) ?_
          refine st_istore_n C (dk DX6_reachable_0 18 rfl) (by decide) rfl ?_
          refine st_iinc C (dk DX6_reachable_0 19 rfl) rfl (iadd_ofInt _ (1) (1) (by decide)) (by decide) rfl ?_
          refine st_goto C (tgt := 4) (dk DX6_reachable_0 20 rfl) (by decide) ?_
          exact ih (i + 1) _ _ (by omega) (up_nI hx) (by rw [hacc, show (0 : Int32) = nI 0 from rfl, nI_add]; congr 1; show _ = cnt (fS s) i + _; cases hq : fi (fS s) i with
            | none => rfl
            | some j => rw [hfs, fsOf_some hq] at c_18; exact absurd c_18 (nI_m1 (by have := fS_emN hok (fi_lt' hq); omega)))
  refine st_iconst C (v := 0) (dk DX6_reachable_0 0 rfl) (by decide) ?_
  refine st_istore_n C (dk DX6_reachable_0 1 rfl) (by decide) rfl ?_
  refine st_iconst C (v := 0) (dk DX6_reachable_0 2 rfl) (by decide) ?_
  refine st_istore_n C (dk DX6_reachable_0 3 rfl) (by decide) rfl ?_
  exact loop 16 0 _ _ (by omega) rfl rfl
end
section
/-! saved states -/
def pastR (f2 : Nat → Int32) (k : Nat) (p : Nat → mS) : Prop := ∀ i, i < k → ∀ j, j < 53 → f2 (53 * i + j) = nI (p i j)
def svK (k : Nat) : Nat := if k = 6 then 6 else k + 1
def svP (s : mS) (k : Nat) (p : Nat → mS) : Nat → mS := fun i => if i + 1 = svK k then s else if k = 6 then p (i + 1) else p i
theorem pastR.save {f2 f29 f0 : Nat → Int32} {k0 : Nat} {p0 : Nat → mS} {s : mS} (hp : pastR f2 k0 p0) (h0 : hd53 f0 s) (h1 : ∀ j, j < 53 → f29 (53 * k0 + j) = f0 (0 + j)) (h2 : ∀ j, (j < 53 * k0 ∨ 53 * k0 + 53 ≤ j) → f29 j = f2 j) : pastR f29 (k0 + 1) (fun i => if i = k0 then s else p0 i) := by
  intro i hi j hj
  by_cases e : i = k0
  · subst e
    rw [h1 j hj, Nat.zero_add]
    show _ = nI ((if i = i then s else p0 i) j)
    rw [if_pos rfl]
    exact h0 j hj
  · rw [h2 _ (Or.inl (by omega))]
    show _ = nI ((if i = k0 then s else p0 i) j)
    rw [if_neg e]
    exact hp i (by omega) j hj
theorem pastR.congr {f2 : Nat → Int32} {k : Nat} {p p' : Nat → mS} (h : pastR f2 k p) (e : ∀ i, i < k → p i = p' i) : pastR f2 k p' := fun i hi j hj => by rw [← e i hi]; exact h i hi j hj
theorem svP_lt {s : mS} {k : Nat} {p : Nat → mS} (hk : k < 6) : ∀ i, i < k + 1 → (fun i => if i = k then s else p i) i = svP s k p i := by
  intro i hi
  unfold svP svK
  rw [if_neg (by omega : ¬ k = 6)]
  by_cases e : i = k
  · subst e; simp
  · have : ¬ i + 1 = k + 1 := by omega
    simp [e]
    intro h; omega
theorem svP_6 {s : mS} {p : Nat → mS} : ∀ i, i < 6 → (fun i => if i = 5 then s else (fun i => p (i + 1)) i) i = svP s 6 p i := by
  intro i hi
  unfold svP svK
  by_cases e : i = 5
  · subst e; rfl
  · simp [e]
end
section
/-! the reference: copies, saves, undo, changes -/
set_option maxHeartbeats 4000000 in
set_option maxRecDepth 100000 in
theorem k_X6_copies (l : Launch) (G : wG) {a b n1 n2 fa ta : Nat} {f h0 : Nat → Int32} {xa ya : Int32} (hxa : xa = nI fa) (hya : ya = nI ta) (h1 : fa + 53 ≤ n1) (h2 : ta + 53 ≤ n2) (hn1 : n1 < 2 ^ 31) (hn2 : n2 < 2 ^ 31) : Con0 l G yX6_copies cX6_copies 5 none 0 [.ref a, .int xa, .ref b, .int ya] [(a, aI G n1 f), (b, aI G n2 h0)] (fun r w => r = none ∧ ∃ h3 : Nat → Int32, (∀ j, j < 53 → h3 (ta + j) = f (fa + j)) ∧ (∀ j, (j < ta ∨ ta + 53 ≤ j) → h3 j = h0 j) ∧ w = [(a, aI G n1 f), (b, aI G n2 h3)]) := by
  refine Con.mk (by decide +kernel) (Nat.le_of_ble_eq_true rfl) (fun P C Rr => ?_)
  subst hxa
  subst hya
  have loop : ∀ (m i : Nat) (x : Int32) (h : Nat → Int32), i + m = 53 → x = nI i → (∀ j, j < i → h (ta + j) = f (fa + j)) → (∀ j, (j < ta ∨ ta + i ≤ j) → h j = h0 j) → P 0 0 3 [(0, .ref a), (1, .int (nI fa)), (2, .ref b), (3, .int (nI ta)), (4, .int x)] [] [(a, aI G n1 f), (b, aI G n2 h)] := by
    intro m
    induction m with
    | zero =>
      intro i x h hi hx hA hB
      obtain rfl : i = 53 := by omega
      refine st_iload C (dk DX6_copies_0 2 rfl) rfl ?_
      refine st_bipush C (v := 53) (dk DX6_copies_0 3 rfl) (by decide) ?_
      refine st_icmp_ge C (tgt := 28) (dk DX6_copies_0 4 rfl) (by decide) (fun c_7 => ?_) (fun c_7 => ?_)
      · exact Rr 0 0 _ _ _ _ _ _ (Nat.zero_le _) (Nat.zero_le _) (dk DX6_copies_0 17 rfl) (.inl ⟨rfl, rfl, rfl, rfl⟩) rfl ⟨rfl, ⟨rfl, h, hA, hB, rfl⟩⟩
      · exact absurd ((ge_nI (a := 53) (i := 53) (by decide) (by decide) rfl hx).mpr (Nat.le_refl _)) c_7
    | succ m ih =>
      intro i x h hi hx hA hB
      refine st_iload C (dk DX6_copies_0 2 rfl) rfl ?_
      refine st_bipush C (v := 53) (dk DX6_copies_0 3 rfl) (by decide) ?_
      refine st_icmp_ge C (tgt := 28) (dk DX6_copies_0 4 rfl) (by decide) (fun c_7 => ?_) (fun c_7 => ?_)
      · exact absurd ((ge_nI (a := 53) (i := i) (by decide) (by omega) rfl hx).mp c_7) (by omega)
      · refine st_aload_n C (dk DX6_copies_0 5 rfl) rfl ?_
        refine st_iload_n C (dk DX6_copies_0 6 rfl) rfl ?_
        refine st_iload C (dk DX6_copies_0 7 rfl) rfl ?_
        refine st_iadd C (dk DX6_copies_0 8 rfl) ?_
        refine st_aload_n C (dk DX6_copies_0 9 rfl) rfl ?_
        refine st_iload_n C (dk DX6_copies_0 10 rfl) rfl ?_
        refine st_iload C (dk DX6_copies_0 11 rfl) rfl ?_
        refine st_iadd C (dk DX6_copies_0 12 rfl) ?_
        refine st_iald C (dk DX6_copies_0 13 rfl) 0 rfl (by rw [hx]; exact vpA (k := fa) rfl (by omega) hn1) ?_
        refine st_iast C (dk DX6_copies_0 14 rfl) 1 rfl (by rw [hx]; exact vpA (k := ta) rfl (by omega) hn2) ?_
        refine st_iinc C (dk DX6_copies_0 15 rfl) rfl (iadd_ofInt _ (1) (1) (by decide)) (by decide) rfl ?_
        refine st_goto C (tgt := 3) (dk DX6_copies_0 16 rfl) (by decide) ?_
        exact ih (i + 1) _ _ (by omega) (up_nI hx) (by
          intro j hj
          rw [show (nI ta + x).toNatClampNeg = ta + i by rw [hx, nI_add, nI_clamp (by omega)], show (nI fa + x).toNatClampNeg = fa + i by rw [hx, nI_add, nI_clamp (by omega)]]
          by_cases e : j = i
          · subst e; exact pk_us
          · rw [pk_un (by omega)]; exact hA j (by omega)) (by
          intro j hj
          rw [show (nI ta + x).toNatClampNeg = ta + i by rw [hx, nI_add, nI_clamp (by omega)], pk_un (by omega)]
          exact hB j (by omega))
  refine st_iconst C (v := 0) (dk DX6_copies_0 0 rfl) (by decide) ?_
  refine st_istore C (dk DX6_copies_0 1 rfl) (by decide) rfl ?_
  exact loop 53 0 _ _ (by omega) rfl (fun j hj => absurd hj (Nat.not_lt_zero j)) (fun j _ => rfl)
set_option maxHeartbeats 4000000 in
set_option maxRecDepth 100000 in
theorem k_X6_changes (l : Launch) (G : wG) {M : Nat} {A : Nat → Nat} {ke ty th ap ft bo ot il : Int32} {f : Nat → Int32} {x v : Int32} {k : Nat} (hx : x = nI k) (hk : k < 53) : Con0 l G yX6_changes cX6_changes 4 (some .int) 0 [.ref M, .int x, .int v] [(M, ob 5 (mF A ke ty th ap ft bo ot il)), (A 0, aI G 53 f)] (fun r w => r = some (.int (f k)) ∧ w = [(M, ob 5 (mF A ke ty th ap ft bo ot il)), (A 0, aI G 53 (upd f k v))]) := by
  refine Con.mk (by decide +kernel) (Nat.le_of_ble_eq_true rfl) (fun P C Rr => ?_)
  have e : x.toNatClampNeg = k := cl_nI hx (by omega)
  refine st_aload_n C (dk DX6_changes_0 0 rfl) rfl ?_
  refine st_get C fl_RX6_7 (dk DX6_changes_0 1 rfl) 0 rfl rfl ?_
  refine st_iload_n C (dk DX6_changes_0 2 rfl) rfl ?_
  refine st_iald C (dk DX6_changes_0 3 rfl) 1 rfl (vp_nI hx hk (by decide)) ?_
  rw [e]
  refine st_istore_n C (dk DX6_changes_0 4 rfl) (by decide) rfl ?_
  refine st_aload_n C (dk DX6_changes_0 5 rfl) rfl ?_
  refine st_get C fl_RX6_7 (dk DX6_changes_0 6 rfl) 0 rfl rfl ?_
  refine st_iload_n C (dk DX6_changes_0 7 rfl) rfl ?_
  refine st_iload_n C (dk DX6_changes_0 8 rfl) rfl ?_
  refine st_iast C (dk DX6_changes_0 9 rfl) 1 rfl (vp_nI hx hk (by decide)) ?_
  rw [e]
  refine st_iload_n C (dk DX6_changes_0 10 rfl) rfl ?_
  exact Rr 0 0 _ _ _ _ _ _ (Nat.zero_le _) (Nat.zero_le _) (dk DX6_changes_0 11 rfl) (.inr (.inl ⟨_, rfl, rfl, rfl, rfl⟩)) rfl ⟨rfl, ⟨rfl, rfl⟩⟩
set_option maxHeartbeats 4000000 in
set_option maxRecDepth 100000 in
theorem k_X6_saves (l : Launch) (G : wG) {M : Nat} {A : Nat → Nat} {ke ty th ap ft bo ot il : Int32} {s : mS} {f0 f20 : Nat → Int32} {k : Nat} {p : Nat → mS} (hf : hd53 f0 s) (hke : ke = nI k) (hk : k ≤ 6) (hp : pastR f20 k p) : Con0 l G yX6_saves cX6_saves 2 none 1 [.ref M] [(M, ob 5 (mF A ke ty th ap ft bo ot il)), (A 2, aI G 318 f20), (A 0, aI G 53 f0)] (fun r w => r = none ∧ ∃ f29 : Nat → Int32, pastR f29 (svK k) (svP s k p) ∧ w = [(M, ob 5 (mF A (nI (svK k)) ty th ap ft bo ot 0)), (A 2, aI G 318 f29), (A 0, aI G 53 f0)]) := by
  refine Con.mk (by decide +kernel) (Nat.le_of_ble_eq_true rfl) (fun P C Rr => ?_)
  have J54 : ∀ (k0 : Nat) (p0 : Nat → mS) (f2 : Nat → Int32) (ke9 : Int32), ke9 = nI k0 → k0 ≤ 5 → svK k = k0 + 1 → pastR f2 k0 p0 → (∀ i, i < k0 + 1 → (fun i => if i = k0 then s else p0 i) i = svP s k p i) → ∀ (lv : List (Nat × Value)), lkL lv 0 = some (.ref M) → P 0 0 54 lv [] [(M, ob 5 (mF A ke9 ty th ap ft bo ot 0)), (A 2, aI G 318 f2), (A 0, aI G 53 f0)] := by
    intro k0 p0 f2 ke9 hke hk0 hsk hp0 hsv lv hlv
    refine st_aload_n C (dk DX6_saves_0 30 rfl) hlv ?_
    refine st_get C fl_RX6_7 (dk DX6_saves_0 31 rfl) 0 rfl rfl ?_
    refine st_iconst C (v := 0) (dk DX6_saves_0 32 rfl) (by decide) ?_
    refine st_aload_n C (dk DX6_saves_0 33 rfl) hlv ?_
    refine st_get C fl_RX6_16 (dk DX6_saves_0 34 rfl) 0 rfl rfl ?_
    refine st_bipush C (v := 53) (dk DX6_saves_0 35 rfl) (by decide) ?_
    refine st_aload_n C (dk DX6_saves_0 36 rfl) hlv ?_
    refine st_get C fl_RX6_52 (dk DX6_saves_0 37 rfl) 0 rfl rfl ?_
    refine st_imul C (dk DX6_saves_0 38 rfl) ?_
    refine st_cS C (k_X6_copies l G (fa := 0) (ta := 53 * k0) rfl (by rw [hke, show (53 : Int32) = nI 53 from rfl, pk_mul]) (by decide) (by omega) (by decide) (by decide)) mf_X6_copies ms_X6_copies ml_RX6_55 (dk DX6_saves_0 39 rfl) [2, 1] rfl rfl rfl rfl (Nat.le_of_ble_eq_true rfl) ⟨Nat.le_of_ble_eq_true rfl, Nat.le_of_ble_eq_true rfl⟩ ⟨Nat.zero_le _, Nat.zero_le _⟩ (fun r9 w9 hq9 => ?_)
    obtain ⟨rfl, h70, hA70, hB70, rfl⟩ := hq9
    refine st_aload_n C (dk DX6_saves_1 0 rfl) hlv ?_
    refine st_dup C (dk DX6_saves_1 1 rfl) rfl ?_
    refine st_get C fl_RX6_52 (dk DX6_saves_1 2 rfl) 0 rfl rfl ?_
    refine st_iconst C (v := 1) (dk DX6_saves_1 3 rfl) (by decide) ?_
    refine st_iadd C (dk DX6_saves_1 4 rfl) ?_
    refine st_put C fl_RX6_52 fc_5 fw_5_3 (dk DX6_saves_1 5 rfl) 0 rfl rfl rfl (Nat.le_of_ble_eq_true rfl) ?_
    refine Rr 0 0 _ _ _ _ _ _ (Nat.zero_le _) (Nat.zero_le _) (dk DX6_saves_1 6 rfl) (.inl ⟨rfl, rfl, rfl, rfl⟩) rfl ?_
    refine ⟨rfl, rfl, h70, ?_, by rw [hke, nI_1, ← hsk]; rfl⟩
    rw [hsk]
    exact (pastR.save hp0 hf hA70 hB70).congr hsv
  have loop : ∀ (m i : Nat) (x : Int32) (f2 : Nat → Int32), i + m = 265 → x = nI i → k = 6 → (∀ j, j < i → f2 j = f20 (j + 53)) → (∀ j, i ≤ j → f2 j = f20 j) → P 0 0 16 [(0, .ref M), (1, .int x)] [] [(M, ob 5 (mF A ke ty th ap ft bo ot 0)), (A 2, aI G 318 f2), (A 0, aI G 53 f0)] := by
    intro m
    induction m with
    | zero =>
      intro i x f2 hi hx h6 hA hB
      obtain rfl : i = 265 := by omega
      refine st_iload_n C (dk DX6_saves_0 9 rfl) rfl ?_
      refine st_sipush C (v := 265) (dk DX6_saves_0 10 rfl) (by decide) ?_
      refine st_icmp_ge C (tgt := 44) (dk DX6_saves_0 11 rfl) (by decide) (fun c_20 => ?_) (fun c_20 => ?_)
      · refine st_aload_n C (dk DX6_saves_0 24 rfl) rfl ?_
        refine st_dup C (dk DX6_saves_0 25 rfl) rfl ?_
        refine st_get C fl_RX6_52 (dk DX6_saves_0 26 rfl) 0 rfl rfl ?_
        refine st_iconst C (v := 1) (dk DX6_saves_0 27 rfl) (by decide) ?_
        refine st_isub C (dk DX6_saves_0 28 rfl) ?_
        refine st_put C fl_RX6_52 fc_5 fw_5_3 (dk DX6_saves_0 29 rfl) 0 rfl rfl rfl (Nat.le_of_ble_eq_true rfl) ?_
        exact J54 5 (fun i => p (i + 1)) f2 _ (by rw [hke, h6]; rfl) (by omega) (by unfold svK; rw [if_pos h6]) (fun i hi j hj => by rw [hA _ (by omega), show 53 * i + j + 53 = 53 * (i + 1) + j by omega]; exact hp (i + 1) (by omega) j hj) (by rw [h6]; exact svP_6) _ rfl
      · exact absurd ((ge_nI (a := 265) (i := 265) (by decide) (by decide) rfl hx).mpr (Nat.le_refl _)) c_20
    | succ m ih =>
      intro i x f2 hi hx h6 hA hB
      refine st_iload_n C (dk DX6_saves_0 9 rfl) rfl ?_
      refine st_sipush C (v := 265) (dk DX6_saves_0 10 rfl) (by decide) ?_
      refine st_icmp_ge C (tgt := 44) (dk DX6_saves_0 11 rfl) (by decide) (fun c_20 => ?_) (fun c_20 => ?_)
      · exact absurd ((ge_nI (a := 265) (i := i) (by decide) (by omega) rfl hx).mp c_20) (by omega)
      · refine st_aload_n C (dk DX6_saves_0 12 rfl) rfl ?_
        refine st_get C fl_RX6_16 (dk DX6_saves_0 13 rfl) 0 rfl rfl ?_
        refine st_iload_n C (dk DX6_saves_0 14 rfl) rfl ?_
        refine st_aload_n C (dk DX6_saves_0 15 rfl) rfl ?_
        refine st_get C fl_RX6_16 (dk DX6_saves_0 16 rfl) 0 rfl rfl ?_
        refine st_iload_n C (dk DX6_saves_0 17 rfl) rfl ?_
        refine st_bipush C (v := 53) (dk DX6_saves_0 18 rfl) (by decide) ?_
        refine st_iadd C (dk DX6_saves_0 19 rfl) ?_
        refine st_iald C (dk DX6_saves_0 20 rfl) 1 rfl (by rw [hx, show (53 : Int32) = nI 53 from rfl, nI_add]; exact vp_in_nI (by omega) (by decide)) ?_
        refine st_iast C (dk DX6_saves_0 21 rfl) 1 rfl (vp_nI hx (by omega) (by decide)) ?_
        refine st_iinc C (dk DX6_saves_0 22 rfl) rfl (iadd_ofInt _ (1) (1) (by decide)) (by decide) rfl ?_
        refine st_goto C (tgt := 16) (dk DX6_saves_0 23 rfl) (by decide) ?_
        exact ih (i + 1) _ _ (by omega) (up_nI hx) h6 (by
          intro j hj
          rw [cl_nI hx (by omega), show (x + 53).toNatClampNeg = i + 53 by rw [hx, show (53 : Int32) = nI 53 from rfl, nI_add, nI_clamp (by omega)]]
          by_cases e : j = i
          · subst e; rw [pk_us, hB _ (by omega)]
          · rw [pk_un e]; exact hA j (by omega)) (by
          intro j hj
          rw [cl_nI hx (by omega), pk_un (by omega)]
          exact hB j (by omega))
  refine st_aload_n C (dk DX6_saves_0 0 rfl) rfl ?_
  refine st_iconst C (v := 0) (dk DX6_saves_0 1 rfl) (by decide) ?_
  refine st_put C fl_RX6_48 fc_5 fw_5_17 (dk DX6_saves_0 2 rfl) 0 rfl rfl rfl (Nat.le_of_ble_eq_true rfl) ?_
  refine st_aload_n C (dk DX6_saves_0 3 rfl) rfl ?_
  refine st_get C fl_RX6_52 (dk DX6_saves_0 4 rfl) 0 rfl rfl ?_
  refine st_bipush C (v := 6) (dk DX6_saves_0 5 rfl) (by decide) ?_
  refine st_icmp_ne C (tgt := 54) (dk DX6_saves_0 6 rfl) (by decide) (fun c_11 => ?_) (fun c_11 => ?_)
  · have hk6 : ¬ k = 6 := fun h => c_11 (by rw [hke, h]; rfl)
    exact J54 k p f20 _ hke (by omega) (by unfold svK; rw [if_neg hk6]) hp (svP_lt (by omega)) _ rfl
  · have hk6 : k = 6 := (eq_nI (a := k) (i := 6) (by omega) (by decide) hke rfl).mp c_11
    refine st_iconst C (v := 0) (dk DX6_saves_0 7 rfl) (by decide) ?_
    refine st_istore_n C (dk DX6_saves_0 8 rfl) (by decide) rfl ?_
    exact loop 265 0 _ _ (by omega) rfl hk6 (fun j hj => absurd hj (Nat.not_lt_zero j)) (fun j _ => rfl)
set_option maxHeartbeats 4000000 in
set_option maxRecDepth 100000 in
theorem k_X6_undo (l : Launch) (G : wG) {M : Nat} {A : Nat → Nat} {ke ty th ap ft bo ot il : Int32} {s : mS} {f0 f20 : Nat → Int32} {k : Nat} {p : Nat → mS} (hke : ke = nI k) (hk : k ≤ 6) (hp : pastR f20 k p) : Con0 l G yX6_undo cX6_undo 1 (some .int) 1 [.ref M] [(M, ob 5 (mF A ke ty th ap ft bo ot il)), (A 2, aI G 318 f20), (A 0, aI G 53 f0)] (fun r w => (k = 0 ∧ r = some (.int 0) ∧ w = [(M, ob 5 (mF A ke ty 1 ap ft bo ot il)), (A 2, aI G 318 f20), (A 0, aI G 53 f0)]) ∨ (0 < k ∧ r = some (.int (nI (k - 1))) ∧ ∃ f09 : Nat → Int32, hd53 f09 (p (k - 1)) ∧ w = [(M, ob 5 (mF A (nI (k - 1)) ty 0 ap ft bo ot 0)), (A 2, aI G 318 f20), (A 0, aI G 53 f09)])) := by
  refine Con.mk (by decide +kernel) (Nat.le_of_ble_eq_true rfl) (fun P C Rr => ?_)
  refine st_aload_n C (dk DX6_undo_0 0 rfl) rfl ?_
  refine st_iconst C (v := 0) (dk DX6_undo_0 1 rfl) (by decide) ?_
  refine st_put C fl_RX6_40 fc_5 fw_5_6 (dk DX6_undo_0 2 rfl) 0 rfl rfl rfl (Nat.le_of_ble_eq_true rfl) ?_
  refine st_aload_n C (dk DX6_undo_0 3 rfl) rfl ?_
  refine st_get C fl_RX6_52 (dk DX6_undo_0 4 rfl) 0 rfl rfl ?_
  refine st_if_ne C (tgt := 18) (dk DX6_undo_0 5 rfl) (by decide) (fun c_9 => ?_) (fun c_9 => ?_)
  · have hk0 : 0 < k := by
      have : ¬ k = 0 := fun h => c_9 (by rw [hke, h]; rfl)
      omega
    have ek : ke - 1 = nI (k - 1) := by rw [hke]; exact pk_sub (b := 1) (by omega)
    refine st_aload_n C (dk DX6_undo_0 10 rfl) rfl ?_
    refine st_iconst C (v := 0) (dk DX6_undo_0 11 rfl) (by decide) ?_
    refine st_put C fl_RX6_48 fc_5 fw_5_17 (dk DX6_undo_0 12 rfl) 0 rfl rfl rfl (Nat.le_of_ble_eq_true rfl) ?_
    refine st_aload_n C (dk DX6_undo_0 13 rfl) rfl ?_
    refine st_dup C (dk DX6_undo_0 14 rfl) rfl ?_
    refine st_get C fl_RX6_52 (dk DX6_undo_0 15 rfl) 0 rfl rfl ?_
    refine st_iconst C (v := 1) (dk DX6_undo_0 16 rfl) (by decide) ?_
    refine st_isub C (dk DX6_undo_0 17 rfl) ?_
    rw [ek]
    refine st_put C fl_RX6_52 fc_5 fw_5_3 (dk DX6_undo_0 18 rfl) 0 rfl rfl rfl (Nat.le_of_ble_eq_true rfl) ?_
    refine st_aload_n C (dk DX6_undo_0 19 rfl) rfl ?_
    refine st_get C fl_RX6_16 (dk DX6_undo_0 20 rfl) 0 rfl rfl ?_
    refine st_bipush C (v := 53) (dk DX6_undo_0 21 rfl) (by decide) ?_
    refine st_aload_n C (dk DX6_undo_0 22 rfl) rfl ?_
    refine st_get C fl_RX6_52 (dk DX6_undo_0 23 rfl) 0 rfl rfl ?_
    refine st_imul C (dk DX6_undo_0 24 rfl) ?_
    refine st_aload_n C (dk DX6_undo_0 25 rfl) rfl ?_
    refine st_get C fl_RX6_7 (dk DX6_undo_0 26 rfl) 0 rfl rfl ?_
    refine st_iconst C (v := 0) (dk DX6_undo_0 27 rfl) (by decide) ?_
    refine st_cS C (k_X6_copies l G (fa := 53 * (k - 1)) (ta := 0) (by rw [show (53 : Int32) = nI 53 from rfl, pk_mul]) rfl (by omega) (by decide) (by decide) (by decide)) mf_X6_copies ms_X6_copies ml_RX6_55 (dk DX6_undo_0 28 rfl) [1, 2] rfl rfl rfl rfl (Nat.le_of_ble_eq_true rfl) ⟨Nat.le_of_ble_eq_true rfl, Nat.le_of_ble_eq_true rfl⟩ ⟨Nat.zero_le _, Nat.zero_le _⟩ (fun r9 w9 hq9 => ?_)
    obtain ⟨rfl, h49, hA49, hB49, rfl⟩ := hq9
    refine st_aload_n C (dk DX6_undo_0 29 rfl) rfl ?_
    refine st_get C fl_RX6_52 (dk DX6_undo_0 30 rfl) 0 rfl rfl ?_
    exact Rr 0 0 _ _ _ _ _ _ (Nat.zero_le _) (Nat.zero_le _) (dk DX6_undo_0 31 rfl) (.inr (.inl ⟨_, rfl, rfl, rfl, rfl⟩)) rfl ⟨rfl, Or.inr ⟨hk0, rfl, h49, fun j hj => by have h9 := hA49 j hj; rw [Nat.zero_add] at h9; rw [h9]; exact hp (k - 1) (by omega) j hj, rfl⟩⟩
  · refine st_aload_n C (dk DX6_undo_0 6 rfl) rfl ?_
    refine st_iconst C (v := 1) (dk DX6_undo_0 7 rfl) (by decide) ?_
    refine st_cV C (k_X6_fails l G) mf_X6_fails mi_X6_fails ml_RX6_59 (dk DX6_undo_0 8 rfl) [0] rfl rfl rfl rfl (Nat.le_of_ble_eq_true rfl) rfl rfl ⟨Nat.le_of_ble_eq_true rfl, Nat.le_of_ble_eq_true rfl⟩ ⟨Nat.zero_le _, Nat.zero_le _⟩ (fun r9 w9 hq9 => ?_)
    obtain ⟨rfl, rfl⟩ := hq9
    exact Rr 0 0 _ _ _ _ _ _ (Nat.zero_le _) (Nat.zero_le _) (dk DX6_undo_0 9 rfl) (.inr (.inl ⟨_, rfl, rfl, rfl, rfl⟩)) rfl ⟨rfl, Or.inl ⟨(eq_nI (a := k) (i := 0) (by omega) (by decide) hke rfl).mp c_9, rfl, rfl⟩⟩
end
section
/-! the numbers that the looks answer -/
def kcN (s : mS) : Nat → Nat
  | 0 => if 0 < s 2 then 1 else 0
  | n + 1 => kcN s n + (if 0 < s (6 + n) then 1 else 0)
def dcN (s : mS) : Nat → Nat
  | 0 => 0
  | n + 1 => dcN s n + (if 0 < s (22 + n) then 1 else 0)
def lcN (s : mS) : Nat → Nat
  | 0 => 0
  | n + 1 => lcN s n + (if (upN s n).isSome then 1 else 0)
def mostI (F : List bE) : Nat → Int32
  | 0 => 0
  | n + 1 => if lnOf F n ≤ mostI F n then mostI F n else lnOf F n
def ln0 (F : List bE) (c : Nat) : Int32 := match fi F c with
  | none => 0
  | some i => nI (dst F i)
def sumI (F : List bE) : Nat → Int32
  | 0 => 0
  | n + 1 => sumI F n + ln0 F n
def sOk (s : mS) : Prop := mOk s ∧ kcN s 16 ≤ 2
theorem gt_if {v : Nat} (hv : v < 2 ^ 31) {A B : Int32} (h : ¬ nI v ≤ 0) : (if 0 < v then A else B) = A := if_pos ((gt0_nI hv).mp h)
theorem le_if {v : Nat} (hv : v < 2 ^ 31) {A B : Int32} (h : nI v ≤ 0) : (if 0 < v then A else B) = B := if_neg (by have := (le0_nI hv).mp h; omega)
theorem kcN_le (s : mS) : ∀ n, kcN s n ≤ n + 1
  | 0 => by unfold kcN; split <;> omega
  | n + 1 => by have := kcN_le s n; unfold kcN; split <;> omega
/-- the number that cell answers -/
noncomputable def ofI (s : mS) (c w : Nat) : Int32 := if w = 0 then nI (s (6 + c)) else if w = 1 then (if c < 15 then nI (s (22 + c)) else 0) else if w = 2 then nI (s (37 + c)) else if w = 3 then nI (c / s 0) else if w = 4 then opI (dnN s c) else if w = 5 then opI (upN s c) else lnOf (fS s) c
noncomputable def coI (s : mS) (k w : Nat) : Int32 := if w = 0 then nI (kcN s 16) else if w = 1 then nI (dcN s 15) else if w = 2 then nI (lcN s 16) else if w = 3 then nI (cnt (fS s) 16) else if w = 4 then mostI (fS s) 16 else if w = 5 then nI (s 0) else nI k
theorem mOk.upd {s : mS} (h : mOk s) {k v : Nat} (hv : v ≤ 5) (hk : (6 ≤ k ∧ k < 37) ∨ (k = 0 ∧ 2 ≤ v) ∨ (37 ≤ k ∧ v ≤ 1) ∨ k = 2) : mOk (updS s k v) := by
  obtain ⟨h1, h2, h3, h4, h5, h6⟩ := h
  have g : ∀ j, updS s k v j = if j = k then v else s j := fun j => rfl
  refine ⟨?_, ?_, ?_, ?_, ?_, ?_⟩
  · rw [g]; split <;> omega
  · rw [g]; split <;> omega
  · rw [g]; split <;> omega
  · intro a ha
    have := h4 a ha
    unfold kAt at this ⊢
    split
    · rename_i h9; rw [if_pos h9] at this; rw [g]; split <;> omega
    · rename_i h9; rw [if_neg h9] at this; rw [g]; split <;> omega
  · intro j hj; have := h5 j hj; rw [g]; split <;> omega
  · intro j hj; have := h6 j hj; rw [g]; split <;> omega
theorem mOk.fold {s : mS} (h : mOk s) {v : Nat} (hv : 2 ≤ v) (hv2 : v ≤ 8) : mOk (updS s 0 v) := by
  obtain ⟨h1, h2, h3, h4, h5, h6⟩ := h
  have g : ∀ j, updS s 0 v j = if j = 0 then v else s j := fun j => rfl
  refine ⟨?_, ?_, ?_, ?_, ?_, ?_⟩
  · rw [g, if_pos rfl]; exact hv
  · rw [g, if_pos rfl]; exact hv2
  · rw [g, if_neg (by decide)]; exact h3
  · intro a ha
    have := h4 a ha
    unfold kAt at this ⊢
    split
    · rename_i h9; rw [if_pos h9] at this; rw [g, if_neg (by decide)]; exact this
    · rename_i h9; rw [if_neg h9] at this; rw [g, if_neg (by omega)]; exact this
  · intro j hj; rw [g, if_neg (by omega)]; exact h5 j hj
  · intro j hj; rw [g, if_neg (by omega)]; exact h6 j hj
theorem coI0 (s : mS) (k : Nat) : coI s k 0 = nI (kcN s 16) := by simp [coI]
theorem coI1 (s : mS) (k : Nat) : coI s k 1 = nI (dcN s 15) := by simp [coI]
theorem coI2 (s : mS) (k : Nat) : coI s k 2 = nI (lcN s 16) := by simp [coI]
theorem coI3 (s : mS) (k : Nat) : coI s k 3 = nI (cnt (fS s) 16) := by simp [coI]
theorem coI4 (s : mS) (k : Nat) : coI s k 4 = mostI (fS s) 16 := by simp [coI]
theorem coI5 (s : mS) (k : Nat) : coI s k 5 = nI (s 0) := by simp [coI]
theorem coI6 (s : mS) (k : Nat) : coI s k 6 = nI k := by simp [coI]
theorem ofI0 (s : mS) (c : Nat) : ofI s c 0 = nI (s (6 + c)) := by simp [ofI]
theorem ofI1 (s : mS) (c : Nat) : ofI s c 1 = if c < 15 then nI (s (22 + c)) else 0 := by simp [ofI]
theorem ofI2 (s : mS) (c : Nat) : ofI s c 2 = nI (s (37 + c)) := by simp [ofI]
theorem ofI3 (s : mS) (c : Nat) : ofI s c 3 = nI (c / s 0) := by simp [ofI]
theorem ofI4 (s : mS) (c : Nat) : ofI s c 4 = opI (dnN s c) := by simp [ofI]
theorem ofI5 (s : mS) (c : Nat) : ofI s c 5 = opI (upN s c) := by simp [ofI]
theorem ofI6 (s : mS) (c : Nat) : ofI s c 6 = lnOf (fS s) c := by simp [ofI]
end
section
/-! the reference: counts, with, best -/
set_option maxHeartbeats 4000000 in
set_option maxRecDepth 100000 in
theorem k_X6_keys (l : Launch) (G : wG) {M : Nat} {A : Nat → Nat} {ke ty th ap ft bo ot il : Int32} {s : mS} {f : Nat → Int32} (hf : hd53 f s) (hok : mOk s) : Con0 l G yX6_keys cX6_keys 3 (some .int) 0 [.ref M] [(M, ob 5 (mF A ke ty th ap ft bo ot il)), (A 0, aI G 53 f)] (fun r v9 => r = some (.int (nI (kcN s 16))) ∧ v9 = [(M, ob 5 (mF A ke ty th ap ft bo ot il)), (A 0, aI G 53 f)]) := by
  refine Con.mk (by decide +kernel) (Nat.le_of_ble_eq_true rfl) (fun P C Rr => ?_)
  have loop : ∀ (m i : Nat) (x : Int32) (acc : Int32), i + m = 16 → x = nI i → acc = nI (kcN s i) → P 0 0 17 [(0, .ref M), (1, .int acc), (2, .int x)] [] [(M, ob 5 (mF A ke ty th ap ft bo ot il)), (A 0, aI G 53 f)] := by
    intro m
    induction m with
    | zero =>
      intro i x acc hi hx hacc
      obtain rfl : i = 16 := by omega
      refine st_iload_n C (dk DX6_keys_0 11 rfl) rfl ?_
      refine st_bipush C (v := 16) (dk DX6_keys_0 12 rfl) (by decide) ?_
      refine st_icmp_ge C (tgt := 49) (dk DX6_keys_0 13 rfl) (by decide) (fun c_20 => ?_) (fun c_20 => ?_)
      · refine st_iload_n C (dk DX6_keys_0 29 rfl) rfl ?_
        exact Rr 0 0 _ _ _ _ _ _ (Nat.zero_le _) (Nat.zero_le _) (dk DX6_keys_0 30 rfl) (.inr (.inl ⟨_, rfl, rfl, rfl, rfl⟩)) rfl ⟨rfl, ⟨by rw [hacc], rfl⟩⟩
      · exact absurd ((ge_nI (a := 16) (i := 16) (by decide) (by decide) rfl hx).mpr (Nat.le_refl _)) c_20
    | succ m ih =>
      intro i x acc hi hx hacc
      have h5 := hok.2.2.2.1 i (by omega)
      unfold kAt at h5
      rw [if_neg (by omega)] at h5
      have hv : f ((6 : Int32) + x).toNatClampNeg = nI (s (6 + i)) := by rw [hx]; exact hf.at (nadd 6 i (x := 6) rfl) (by omega)
      refine st_iload_n C (dk DX6_keys_0 11 rfl) rfl ?_
      refine st_bipush C (v := 16) (dk DX6_keys_0 12 rfl) (by decide) ?_
      refine st_icmp_ge C (tgt := 49) (dk DX6_keys_0 13 rfl) (by decide) (fun c_20 => ?_) (fun c_20 => ?_)
      · exact absurd ((ge_nI (a := 16) (i := i) (by decide) (by omega) rfl hx).mp c_20) (by omega)
      · refine st_iload_n C (dk DX6_keys_0 14 rfl) rfl ?_
        refine st_aload_n C (dk DX6_keys_0 15 rfl) rfl ?_
        refine st_get C fl_RX6_7 (dk DX6_keys_0 16 rfl) 0 rfl rfl ?_
        refine st_bipush C (v := 6) (dk DX6_keys_0 17 rfl) (by decide) ?_
        refine st_iload_n C (dk DX6_keys_0 18 rfl) rfl ?_
        refine st_iadd C (dk DX6_keys_0 19 rfl) ?_
        refine st_iald C (dk DX6_keys_0 20 rfl) 1 rfl (by rw [hx]; exact vpA (k := 6) rfl (by omega) (by decide)) ?_
        rw [hv]
        refine st_if_le C (tgt := 40) (dk DX6_keys_0 21 rfl) (by decide) (fun c_33 => ?_) (fun c_33 => ?_)
        · refine st_iconst C (v := 0) (dk DX6_keys_0 24 rfl) (by decide) ?_
          refine st_iadd C (dk DX6_keys_0 25 rfl) ?_
          refine st_istore_n C (dk DX6_keys_0 26 rfl) (by decide) rfl ?_
          refine st_iinc C (dk DX6_keys_0 27 rfl) rfl (iadd_ofInt _ (1) (1) (by decide)) (by decide) rfl ?_
          refine st_goto C (tgt := 17) (dk DX6_keys_0 28 rfl) (by decide) ?_
          exact ih (i + 1) _ _ (by omega) (up_nI hx) (by rw [hacc, show (0 : Int32) = nI 0 from rfl, nI_add]; congr 1; show _ = kcN s i + _; rw [if_neg (by have := (le0_nI (by omega)).mp c_33; omega)])
        · refine st_iconst C (v := 1) (dk DX6_keys_0 22 rfl) (by decide) ?_
          refine st_goto C (tgt := 41) (dk DX6_keys_0 23 rfl) (by decide) ?_
          refine st_iadd C (dk DX6_keys_0 25 rfl) ?_
          refine st_istore_n C (dk DX6_keys_0 26 rfl) (by decide) rfl ?_
          refine st_iinc C (dk DX6_keys_0 27 rfl) rfl (iadd_ofInt _ (1) (1) (by decide)) (by decide) rfl ?_
          refine st_goto C (tgt := 17) (dk DX6_keys_0 28 rfl) (by decide) ?_
          exact ih (i + 1) _ _ (by omega) (up_nI hx) (by rw [hacc, nI_1]; congr 1; show _ = kcN s i + _; rw [if_pos ((gt0_nI (by omega)).mp c_33)])
  refine st_aload_n C (dk DX6_keys_0 0 rfl) rfl ?_
  refine st_get C fl_RX6_7 (dk DX6_keys_0 1 rfl) 0 rfl rfl ?_
  refine st_iconst C (v := 2) (dk DX6_keys_0 2 rfl) (by decide) ?_
  refine st_iald C (dk DX6_keys_0 3 rfl) 1 rfl (vp_nI (show (2 : Int32) = nI 2 from rfl) (by decide) (by decide)) ?_
  have h5 := hok.2.2.2.1 16 (by omega)
  unfold kAt at h5
  rw [if_pos rfl] at h5
  rw [show f (Int32.toNatClampNeg 2) = nI (s 2) from hf.at (x := 2) (j := 2) rfl (by decide)]
  refine st_if_le C (tgt := 13) (dk DX6_keys_0 4 rfl) (by decide) (fun c_6 => ?_) (fun c_6 => ?_)
  · refine st_iconst C (v := 0) (dk DX6_keys_0 7 rfl) (by decide) ?_
    refine st_istore_n C (dk DX6_keys_0 8 rfl) (by decide) rfl ?_
    refine st_iconst C (v := 0) (dk DX6_keys_0 9 rfl) (by decide) ?_
    refine st_istore_n C (dk DX6_keys_0 10 rfl) (by decide) rfl ?_
    exact loop 16 0 _ _ (by omega) rfl (by show _ = nI (if 0 < s 2 then 1 else 0); rw [if_neg (by have := (le0_nI (by omega)).mp c_6; omega)]; rfl)
  · refine st_iconst C (v := 1) (dk DX6_keys_0 5 rfl) (by decide) ?_
    refine st_goto C (tgt := 14) (dk DX6_keys_0 6 rfl) (by decide) ?_
    refine st_istore_n C (dk DX6_keys_0 8 rfl) (by decide) rfl ?_
    refine st_iconst C (v := 0) (dk DX6_keys_0 9 rfl) (by decide) ?_
    refine st_istore_n C (dk DX6_keys_0 10 rfl) (by decide) rfl ?_
    exact loop 16 0 _ _ (by omega) rfl (by show _ = nI (if 0 < s 2 then 1 else 0); rw [if_pos ((gt0_nI (by omega)).mp c_6)]; rfl)
set_option maxHeartbeats 4000000 in
set_option maxRecDepth 100000 in
theorem k_X6_doors (l : Launch) (G : wG) {M : Nat} {A : Nat → Nat} {ke ty th ap ft bo ot il : Int32} {s : mS} {f : Nat → Int32} (hf : hd53 f s) (hok : mOk s) : Con0 l G yX6_doors cX6_doors 3 (some .int) 0 [.ref M] [(M, ob 5 (mF A ke ty th ap ft bo ot il)), (A 0, aI G 53 f)] (fun r v9 => r = some (.int (nI (dcN s 15))) ∧ v9 = [(M, ob 5 (mF A ke ty th ap ft bo ot il)), (A 0, aI G 53 f)]) := by
  refine Con.mk (by decide +kernel) (Nat.le_of_ble_eq_true rfl) (fun P C Rr => ?_)
  have loop : ∀ (m i : Nat) (x : Int32) (acc : Int32), i + m = 15 → x = nI i → acc = nI (dcN s i) → P 0 0 4 [(0, .ref M), (1, .int acc), (2, .int x)] [] [(M, ob 5 (mF A ke ty th ap ft bo ot il)), (A 0, aI G 53 f)] := by
    intro m
    induction m with
    | zero =>
      intro i x acc hi hx hacc
      obtain rfl : i = 15 := by omega
      refine st_iload_n C (dk DX6_doors_0 4 rfl) rfl ?_
      refine st_bipush C (v := 15) (dk DX6_doors_0 5 rfl) (by decide) ?_
      refine st_icmp_ge C (tgt := 36) (dk DX6_doors_0 6 rfl) (by decide) (fun c_7 => ?_) (fun c_7 => ?_)
      · refine st_iload_n C (dk DX6_doors_0 22 rfl) rfl ?_
        exact Rr 0 0 _ _ _ _ _ _ (Nat.zero_le _) (Nat.zero_le _) (dk DX6_doors_0 23 rfl) (.inr (.inl ⟨_, rfl, rfl, rfl, rfl⟩)) rfl ⟨rfl, ⟨by rw [hacc], rfl⟩⟩
      · exact absurd ((ge_nI (a := 15) (i := 15) (by decide) (by decide) rfl hx).mpr (Nat.le_refl _)) c_7
    | succ m ih =>
      intro i x acc hi hx hacc
      have h5 := hok.2.2.2.2.1 i (by omega)
      have hv : f ((22 : Int32) + x).toNatClampNeg = nI (s (22 + i)) := by rw [hx]; exact hf.at (nadd 22 i (x := 22) rfl) (by omega)
      refine st_iload_n C (dk DX6_doors_0 4 rfl) rfl ?_
      refine st_bipush C (v := 15) (dk DX6_doors_0 5 rfl) (by decide) ?_
      refine st_icmp_ge C (tgt := 36) (dk DX6_doors_0 6 rfl) (by decide) (fun c_7 => ?_) (fun c_7 => ?_)
      · exact absurd ((ge_nI (a := 15) (i := i) (by decide) (by omega) rfl hx).mp c_7) (by omega)
      · refine st_iload_n C (dk DX6_doors_0 7 rfl) rfl ?_
        refine st_aload_n C (dk DX6_doors_0 8 rfl) rfl ?_
        refine st_get C fl_RX6_7 (dk DX6_doors_0 9 rfl) 0 rfl rfl ?_
        refine st_bipush C (v := 22) (dk DX6_doors_0 10 rfl) (by decide) ?_
        refine st_iload_n C (dk DX6_doors_0 11 rfl) rfl ?_
        refine st_iadd C (dk DX6_doors_0 12 rfl) ?_
        refine st_iald C (dk DX6_doors_0 13 rfl) 1 rfl (by rw [hx]; exact vpA (k := 22) rfl (by omega) (by decide)) ?_
        rw [hv]
        refine st_if_le C (tgt := 27) (dk DX6_doors_0 14 rfl) (by decide) (fun c_20 => ?_) (fun c_20 => ?_)
        · refine st_iconst C (v := 0) (dk DX6_doors_0 17 rfl) (by decide) ?_
          refine st_iadd C (dk DX6_doors_0 18 rfl) ?_
          refine st_istore_n C (dk DX6_doors_0 19 rfl) (by decide) rfl ?_
          refine st_iinc C (dk DX6_doors_0 20 rfl) rfl (iadd_ofInt _ (1) (1) (by decide)) (by decide) rfl ?_
          refine st_goto C (tgt := 4) (dk DX6_doors_0 21 rfl) (by decide) ?_
          exact ih (i + 1) _ _ (by omega) (up_nI hx) (by rw [hacc, show (0 : Int32) = nI 0 from rfl, nI_add]; congr 1; show _ = dcN s i + _; rw [if_neg (by have := (le0_nI (by omega)).mp c_20; omega)])
        · refine st_iconst C (v := 1) (dk DX6_doors_0 15 rfl) (by decide) ?_
          refine st_goto C (tgt := 28) (dk DX6_doors_0 16 rfl) (by decide) ?_
          refine st_iadd C (dk DX6_doors_0 18 rfl) ?_
          refine st_istore_n C (dk DX6_doors_0 19 rfl) (by decide) rfl ?_
          refine st_iinc C (dk DX6_doors_0 20 rfl) rfl (iadd_ofInt _ (1) (1) (by decide)) (by decide) rfl ?_
          refine st_goto C (tgt := 4) (dk DX6_doors_0 21 rfl) (by decide) ?_
          exact ih (i + 1) _ _ (by omega) (up_nI hx) (by rw [hacc, nI_1]; congr 1; show _ = dcN s i + _; rw [if_pos ((gt0_nI (by omega)).mp c_20)])
  refine st_iconst C (v := 0) (dk DX6_doors_0 0 rfl) (by decide) ?_
  refine st_istore_n C (dk DX6_doors_0 1 rfl) (by decide) rfl ?_
  refine st_iconst C (v := 0) (dk DX6_doors_0 2 rfl) (by decide) ?_
  refine st_istore_n C (dk DX6_doors_0 3 rfl) (by decide) rfl ?_
  exact loop 15 0 _ _ (by omega) rfl rfl
set_option maxHeartbeats 4000000 in
set_option maxRecDepth 100000 in
theorem k_X6_ladders (l : Launch) (G : wG) {M : Nat} {A : Nat → Nat} {ke ty th ap ft bo ot il : Int32} {s : mS} {f : Nat → Int32} (hf : hd53 f s) (hok : mOk s) : Con0 l G yX6_ladders cX6_ladders 3 (some .int) 3 [.ref M] [(M, ob 5 (mF A ke ty th ap ft bo ot il)), (A 0, aI G 53 f)] (fun r v9 => r = some (.int (nI (lcN s 16))) ∧ v9 = [(M, ob 5 (mF A ke ty th ap ft bo ot il)), (A 0, aI G 53 f)]) := by
  refine Con.mk (by decide +kernel) (Nat.le_of_ble_eq_true rfl) (fun P C Rr => ?_)
  have loop : ∀ (m i : Nat) (x : Int32) (acc : Int32), i + m = 16 → x = nI i → acc = nI (lcN s i) → P 0 0 4 [(0, .ref M), (1, .int acc), (2, .int x)] [] [(M, ob 5 (mF A ke ty th ap ft bo ot il)), (A 0, aI G 53 f)] := by
    intro m
    induction m with
    | zero =>
      intro i x acc hi hx hacc
      obtain rfl : i = 16 := by omega
      refine st_iload_n C (dk DX6_ladders_0 4 rfl) rfl ?_
      refine st_bipush C (v := 16) (dk DX6_ladders_0 5 rfl) (by decide) ?_
      refine st_icmp_ge C (tgt := 36) (dk DX6_ladders_0 6 rfl) (by decide) (fun c_7 => ?_) (fun c_7 => ?_)
      · refine st_iload_n C (dk DX6_ladders_0 21 rfl) rfl ?_
        exact Rr 0 0 _ _ _ _ _ _ (Nat.zero_le _) (Nat.zero_le _) (dk DX6_ladders_0 22 rfl) (.inr (.inl ⟨_, rfl, rfl, rfl, rfl⟩)) rfl ⟨rfl, ⟨by rw [hacc], rfl⟩⟩
      · exact absurd ((ge_nI (a := 16) (i := 16) (by decide) (by decide) rfl hx).mpr (Nat.le_refl _)) c_7
    | succ m ih =>
      intro i x acc hi hx hacc
      refine st_iload_n C (dk DX6_ladders_0 4 rfl) rfl ?_
      refine st_bipush C (v := 16) (dk DX6_ladders_0 5 rfl) (by decide) ?_
      refine st_icmp_ge C (tgt := 36) (dk DX6_ladders_0 6 rfl) (by decide) (fun c_7 => ?_) (fun c_7 => ?_)
      · exact absurd ((ge_nI (a := 16) (i := i) (by decide) (by omega) rfl hx).mp c_7) (by omega)
      · refine st_iload_n C (dk DX6_ladders_0 7 rfl) rfl ?_
        refine st_aload_n C (dk DX6_ladders_0 8 rfl) rfl ?_
        refine st_get C fl_RX6_7 (dk DX6_ladders_0 9 rfl) 0 rfl rfl ?_
        refine st_iload_n C (dk DX6_ladders_0 10 rfl) rfl ?_
        refine st_cS C (k_X6_above l G hf hok.1 hok.2.1 hok.2.2.2.2.2 hx (by omega)) mf_X6_above ms_X6_above ml_RX6_71 (dk DX6_ladders_0 11 rfl) [1] rfl rfl rfl rfl (Nat.le_of_ble_eq_true rfl) ⟨Nat.le_of_ble_eq_true rfl, Nat.le_of_ble_eq_true rfl⟩ ⟨Nat.zero_le _, Nat.zero_le _⟩ (fun r9 w9 hq9 => ?_)
        obtain ⟨rfl, rfl⟩ := hq9
        refine st_iconst C (v := -1) (dk DX6_ladders_0 12 rfl) (by decide) ?_
        refine st_icmp_ne C (tgt := 27) (dk DX6_ladders_0 13 rfl) (by decide) (fun c_20 => ?_) (fun c_20 => ?_)
        · refine st_iconst C (v := 1) (dk DX6_ladders_0 16 rfl) (by decide) ?_
          refine st_iadd C (dk DX6_ladders_0 17 rfl) ?_
          refine st_istore_n C (dk DX6_ladders_0 18 rfl) (by decide) rfl ?_
          refine st_iinc C (dk DX6_ladders_0 19 rfl) rfl (iadd_ofInt _ (1) (1) (by decide)) (by decide) rfl ?_
          refine st_goto C (tgt := 4) (dk DX6_ladders_0 20 rfl) (by decide) ?_
          exact ih (i + 1) _ _ (by omega) (up_nI hx) (by rw [hacc, nI_1]; congr 1; show _ = lcN s i + _; cases hq : upN s i with
            | none => exact absurd (by rw [hq]; rfl) c_20
            | some j => rfl)
        · refine st_iconst C (v := 0) (dk DX6_ladders_0 14 rfl) (by decide) ?_
          refine st_goto C (tgt := 28) (dk DX6_ladders_0 15 rfl) (by decide) ?_
          refine st_iadd C (dk DX6_ladders_0 17 rfl) ?_
          refine st_istore_n C (dk DX6_ladders_0 18 rfl) (by decide) rfl ?_
          refine st_iinc C (dk DX6_ladders_0 19 rfl) rfl (iadd_ofInt _ (1) (1) (by decide)) (by decide) rfl ?_
          refine st_goto C (tgt := 4) (dk DX6_ladders_0 20 rfl) (by decide) ?_
          exact ih (i + 1) _ _ (by omega) (up_nI hx) (by rw [hacc, show (0 : Int32) = nI 0 from rfl, nI_add]; congr 1; show _ = lcN s i + _; cases hq : upN s i with
            | none => rfl
            | some j => rw [hq] at c_20; exact absurd c_20 (nI_m1 (by have := upN_lt hq; omega)))
  refine st_iconst C (v := 0) (dk DX6_ladders_0 0 rfl) (by decide) ?_
  refine st_istore_n C (dk DX6_ladders_0 1 rfl) (by decide) rfl ?_
  refine st_iconst C (v := 0) (dk DX6_ladders_0 2 rfl) (by decide) ?_
  refine st_istore_n C (dk DX6_ladders_0 3 rfl) (by decide) rfl ?_
  exact loop 16 0 _ _ (by omega) rfl rfl
set_option maxHeartbeats 4000000 in
set_option maxRecDepth 100000 in
theorem k_X6_longest (l : Launch) (G : wG) {M : Nat} {A : Nat → Nat} {ke ty th ap ft bo ot il : Int32} {s : mS} {qu fr by9 fa fs : Nat → Int32} (hok : mOk s) (hM : MRel (fS s) qu fr by9 fa fs) : Con0 l G yX6_longest cX6_longest 3 (some .int) 1 [.ref M] [(M, ob 5 (mF A ke ty th ap ft bo ot il)), (A 8, aI G 4624 fa), (A 9, aI G 16 fs)] (fun r v9 => r = some (.int (mostI (fS s) 16)) ∧ v9 = [(M, ob 5 (mF A ke ty th ap ft bo ot il)), (A 8, aI G 4624 fa), (A 9, aI G 16 fs)]) := by
  refine Con.mk (by decide +kernel) (Nat.le_of_ble_eq_true rfl) (fun P C Rr => ?_)
  have loop : ∀ (m i : Nat) (x : Int32) (acc : Int32), i + m = 16 → x = nI i → acc = mostI (fS s) i → P 0 0 4 [(0, .ref M), (1, .int acc), (2, .int x)] [] [(M, ob 5 (mF A ke ty th ap ft bo ot il)), (A 8, aI G 4624 fa), (A 9, aI G 16 fs)] := by
    intro m
    induction m with
    | zero =>
      intro i x acc hi hx hacc
      obtain rfl : i = 16 := by omega
      refine st_iload_n C (dk DX6_longest_0 4 rfl) rfl ?_
      refine st_bipush C (v := 16) (dk DX6_longest_0 5 rfl) (by decide) ?_
      refine st_icmp_ge C (tgt := 35) (dk DX6_longest_0 6 rfl) (by decide) (fun c_7 => ?_) (fun c_7 => ?_)
      · refine st_iload_n C (dk DX6_longest_0 20 rfl) rfl ?_
        exact Rr 0 0 _ _ _ _ _ _ (Nat.zero_le _) (Nat.zero_le _) (dk DX6_longest_0 21 rfl) (.inr (.inl ⟨_, rfl, rfl, rfl, rfl⟩)) rfl ⟨rfl, ⟨by rw [hacc], rfl⟩⟩
      · exact absurd ((ge_nI (a := 16) (i := 16) (by decide) (by decide) rfl hx).mpr (Nat.le_refl _)) c_7
    | succ m ih =>
      intro i x acc hi hx hacc
      refine st_iload_n C (dk DX6_longest_0 4 rfl) rfl ?_
      refine st_bipush C (v := 16) (dk DX6_longest_0 5 rfl) (by decide) ?_
      refine st_icmp_ge C (tgt := 35) (dk DX6_longest_0 6 rfl) (by decide) (fun c_7 => ?_) (fun c_7 => ?_)
      · exact absurd ((ge_nI (a := 16) (i := i) (by decide) (by omega) rfl hx).mp c_7) (by omega)
      · refine st_aload_n C (dk DX6_longest_0 7 rfl) rfl ?_
        refine st_iload_n C (dk DX6_longest_0 8 rfl) rfl ?_
        refine st_cV C (k_X6_steps l G hok hM hx (by omega)) mf_X6_steps mi_X6_steps ml_RX6_102 (dk DX6_longest_0 9 rfl) [0, 1, 2] rfl rfl rfl rfl (Nat.le_of_ble_eq_true rfl) rfl rfl ⟨Nat.le_of_ble_eq_true rfl, Nat.le_of_ble_eq_true rfl⟩ ⟨Nat.zero_le _, Nat.zero_le _⟩ (fun r9 w9 hq9 => ?_)
        obtain ⟨rfl, rfl⟩ := hq9
        refine st_iload_n C (dk DX6_longest_0 10 rfl) rfl ?_
        refine st_icmp_le C (tgt := 27) (dk DX6_longest_0 11 rfl) (by decide) (fun c_16 => ?_) (fun c_16 => ?_)
        · refine st_iload_n C (dk DX6_longest_0 16 rfl) rfl ?_
          refine st_istore_n C (dk DX6_longest_0 17 rfl) (by decide) rfl ?_
          refine st_iinc C (dk DX6_longest_0 18 rfl) rfl (iadd_ofInt _ (1) (1) (by decide)) (by decide) rfl ?_
          refine st_goto C (tgt := 4) (dk DX6_longest_0 19 rfl) (by decide) ?_
          exact ih (i + 1) _ _ (by omega) (up_nI hx) (by rw [hacc]; show _ = if _ then _ else _; rw [if_pos (by rw [← hacc]; exact c_16)])
        · refine st_aload_n C (dk DX6_longest_0 12 rfl) rfl ?_
          refine st_iload_n C (dk DX6_longest_0 13 rfl) rfl ?_
          refine st_cV C (k_X6_steps l G hok hM hx (by omega)) mf_X6_steps mi_X6_steps ml_RX6_102 (dk DX6_longest_0 14 rfl) [0, 1, 2] rfl rfl rfl rfl (Nat.le_of_ble_eq_true rfl) rfl rfl ⟨Nat.le_of_ble_eq_true rfl, Nat.le_of_ble_eq_true rfl⟩ ⟨Nat.zero_le _, Nat.zero_le _⟩ (fun r9 w9 hq9 => ?_)
          obtain ⟨rfl, rfl⟩ := hq9
          refine st_goto C (tgt := 28) (dk DX6_longest_0 15 rfl) (by decide) ?_
          refine st_istore_n C (dk DX6_longest_0 17 rfl) (by decide) rfl ?_
          refine st_iinc C (dk DX6_longest_0 18 rfl) rfl (iadd_ofInt _ (1) (1) (by decide)) (by decide) rfl ?_
          refine st_goto C (tgt := 4) (dk DX6_longest_0 19 rfl) (by decide) ?_
          exact ih (i + 1) _ _ (by omega) (up_nI hx) (by show _ = if _ then _ else _; rw [if_neg (by rw [← hacc]; exact c_16)])
  refine st_iconst C (v := 0) (dk DX6_longest_0 0 rfl) (by decide) ?_
  refine st_istore_n C (dk DX6_longest_0 1 rfl) (by decide) rfl ?_
  refine st_iconst C (v := 0) (dk DX6_longest_0 2 rfl) (by decide) ?_
  refine st_istore_n C (dk DX6_longest_0 3 rfl) (by decide) rfl ?_
  exact loop 16 0 _ _ (by omega) rfl rfl
set_option maxHeartbeats 4000000 in
set_option maxRecDepth 100000 in
theorem k_X6_planned (l : Launch) (G : wG) {M : Nat} {A : Nat → Nat} {ke ty th ap ft bo ot il : Int32} {s : mS} {f : Nat → Int32} {qu fr by9 fa fs : Nat → Int32} {x y : Int32} {c a : Nat} (hf : hd53 f s) (hok : mOk s) (hil : il = 0 ∨ (il = 1 ∧ MRel (fS s) qu fr by9 fa fs)) (hx : x = nI c) (hc : c < 16) (hy : y = nI a) (ha : a < 2 ^ 31) : Con0 l G yX6_planned cX6_planned 3 (some .int) 7 [.ref M, .int x, .int y] [(M, ob 5 (mF A ke ty th ap ft bo ot il)), (A 0, aI G 53 f), (A 5, aI G 4624 qu), (A 6, aI G 4624 fr), (A 7, aI G 4624 by9), (A 8, aI G 4624 fa), (A 9, aI G 16 fs)] (fun r v9 => r = some (.int (plI (fS s) c a)) ∧ ∃ (bo9 ot9 : Int32) (qu9 fr9 by99 fa9 fs9 : Nat → Int32), MRel (fS s) qu9 fr9 by99 fa9 fs9 ∧ v9 = [(M, ob 5 (mF A ke ty th ap ft bo9 ot9 1)), (A 0, aI G 53 f), (A 5, aI G 4624 qu9), (A 6, aI G 4624 fr9), (A 7, aI G 4624 by99), (A 8, aI G 4624 fa9), (A 9, aI G 16 fs9)]) := by
  refine Con.mk (by decide +kernel) (Nat.le_of_ble_eq_true rfl) (fun P C Rr => ?_)
  refine st_aload_n C (dk DX6_planned_0 0 rfl) rfl ?_
  refine st_cV C (k_X6_laysNow l G hf hok hil) mf_X6_laysNow mi_X6_laysNow ml_RX6_123 (dk DX6_planned_0 1 rfl) [0, 1, 2, 3, 4, 5, 6] rfl rfl rfl rfl (Nat.le_of_ble_eq_true rfl) rfl rfl ⟨Nat.le_of_ble_eq_true rfl, Nat.le_of_ble_eq_true rfl⟩ ⟨Nat.zero_le _, Nat.zero_le _⟩ (fun r9 w9 hq9 => ?_)
  obtain ⟨rfl, bo1, ot1, qu1, fr1, by1, fa1, fs1, hM1, rfl⟩ := hq9
  refine st_aload_n C (dk DX6_planned_0 2 rfl) rfl ?_
  refine st_iload_n C (dk DX6_planned_0 3 rfl) rfl ?_
  refine st_iload_n C (dk DX6_planned_0 4 rfl) rfl ?_
  refine st_cV C (k_X6_stepAt l G hok hM1 hx hc hy ha) mf_X6_stepAt mi_X6_stepAt ml_RX6_126 (dk DX6_planned_0 5 rfl) [0, 3, 4, 5, 6] rfl rfl rfl rfl (Nat.le_of_ble_eq_true rfl) rfl rfl ⟨Nat.le_of_ble_eq_true rfl, Nat.le_of_ble_eq_true rfl⟩ ⟨Nat.zero_le _, Nat.zero_le _⟩ (fun r9 w9 hq9 => ?_)
  obtain ⟨rfl, rfl⟩ := hq9
  exact Rr 0 0 _ _ _ _ _ _ (Nat.zero_le _) (Nat.zero_le _) (dk DX6_planned_0 6 rfl) (.inr (.inl ⟨_, rfl, rfl, rfl, rfl⟩)) rfl ⟨rfl, ⟨rfl, bo1, ot1, qu1, fr1, by1, fa1, fs1, hM1, rfl⟩⟩
set_option maxHeartbeats 4000000 in
set_option maxRecDepth 100000 in
theorem k_X6_ofCell (l : Launch) (G : wG) {M : Nat} {A : Nat → Nat} {ke ty th ap ft bo ot il : Int32} {s : mS} {f : Nat → Int32} {qu fr by9 fa fs : Nat → Int32} {x y : Int32} {c w : Nat} (hf : hd53 f s) (hok : mOk s) (hil : il = 0 ∨ (il = 1 ∧ MRel (fS s) qu fr by9 fa fs)) (hx : x = nI c) (hc : c < 16) (hy : y = nI w) (hw6 : w ≤ 6) : Con0 l G yX6_ofCell cX6_ofCell 3 (some .int) 7 [.ref M, .int x, .int y] [(M, ob 5 (mF A ke ty th ap ft bo ot il)), (A 0, aI G 53 f), (A 5, aI G 4624 qu), (A 6, aI G 4624 fr), (A 7, aI G 4624 by9), (A 8, aI G 4624 fa), (A 9, aI G 16 fs)] (fun r v9 => r = some (.int (ofI s c w)) ∧ ∃ (bo9 ot9 : Int32) (qu9 fr9 by99 fa9 fs9 : Nat → Int32), MRel (fS s) qu9 fr9 by99 fa9 fs9 ∧ v9 = [(M, ob 5 (mF A ke ty th ap ft bo9 ot9 1)), (A 0, aI G 53 f), (A 5, aI G 4624 qu9), (A 6, aI G 4624 fr9), (A 7, aI G 4624 by99), (A 8, aI G 4624 fa9), (A 9, aI G 16 fs9)]) := by
  refine Con.mk (by decide +kernel) (Nat.le_of_ble_eq_true rfl) (fun P C Rr => ?_)
  have h0 : f (Int32.toNatClampNeg 0) = nI (s 0) := hf.at (j := 0) rfl (by decide)
  have b0 := hok.1
  have b1 := hok.2.1
  have hv : ∀ o : Nat, o + 16 ≤ 53 → f (nI o + x).toNatClampNeg = nI (s (o + c)) := fun o ho => by rw [hx, nI_add]; exact hf.at (j := o + c) rfl (by omega)
  refine st_aload_n C (dk DX6_ofCell_0 0 rfl) rfl ?_
  refine st_cV C (k_X6_laysNow l G hf hok hil) mf_X6_laysNow mi_X6_laysNow ml_RX6_123 (dk DX6_ofCell_0 1 rfl) [0, 1, 2, 3, 4, 5, 6] rfl rfl rfl rfl (Nat.le_of_ble_eq_true rfl) rfl rfl ⟨Nat.le_of_ble_eq_true rfl, Nat.le_of_ble_eq_true rfl⟩ ⟨Nat.zero_le _, Nat.zero_le _⟩ (fun r9 w9 hq9 => ?_)
  obtain ⟨rfl, bo1, ot1, qu1, fr1, by1, fa1, fs1, hM1, rfl⟩ := hq9
  refine st_iload_n C (dk DX6_ofCell_0 2 rfl) rfl ?_
  by_cases t_5_0 : y = 0
  · refine st_tswIn C (off := 39) (tgt := 44) (dk DX6_ofCell_0 3 rfl) (by rw [t_5_0]; decide) (by rw [t_5_0]; decide) (by rw [t_5_0]; rfl) (by decide) ?_
    refine st_aload_n C (dk DX6_ofCell_0 4 rfl) rfl ?_
    refine st_get C fl_RX6_7 (dk DX6_ofCell_0 5 rfl) 0 rfl rfl ?_
    refine st_bipush C (v := 6) (dk DX6_ofCell_0 6 rfl) (by decide) ?_
    refine st_iload_n C (dk DX6_ofCell_0 7 rfl) rfl ?_
    refine st_iadd C (dk DX6_ofCell_0 8 rfl) ?_
    refine st_iald C (dk DX6_ofCell_0 9 rfl) 1 rfl (by rw [hx]; exact vpA (k := 6) rfl (by omega) (by decide)) ?_
    refine Rr 0 0 _ _ _ _ _ _ (Nat.zero_le _) (Nat.zero_le _) (dk DX6_ofCell_0 10 rfl) (.inr (.inl ⟨_, rfl, rfl, rfl, rfl⟩)) rfl ?_
    have hw : w = 0 := (eq_nI (a := w) (i := 0) (by omega) (by decide) hy rfl).mp t_5_0
    exact ⟨rfl, by rw [hw, show f ((6 : Int32) + x).toNatClampNeg = nI (s (6 + c)) from hv 6 (by decide), ofI0], bo1, ot1, qu1, fr1, by1, fa1, fs1, hM1, rfl⟩
  by_cases t_5_1 : y = 1
  · refine st_tswIn C (off := 49) (tgt := 54) (dk DX6_ofCell_0 3 rfl) (by rw [t_5_1]; decide) (by rw [t_5_1]; decide) (by rw [t_5_1]; rfl) (by decide) ?_
    refine st_iload_n C (dk DX6_ofCell_0 11 rfl) rfl ?_
    refine st_bipush C (v := 15) (dk DX6_ofCell_0 12 rfl) (by decide) ?_
    refine st_icmp_ge C (tgt := 72) (dk DX6_ofCell_0 13 rfl) (by decide) (fun c_57 => ?_) (fun c_57 => ?_)
    · refine st_iconst C (v := 0) (dk DX6_ofCell_0 21 rfl) (by decide) ?_
      refine Rr 0 0 _ _ _ _ _ _ (Nat.zero_le _) (Nat.zero_le _) (dk DX6_ofCell_0 22 rfl) (.inr (.inl ⟨_, rfl, rfl, rfl, rfl⟩)) rfl ?_
      have hw : w = 1 := (eq_nI (a := w) (i := 1) (by omega) (by decide) hy rfl).mp t_5_1
      exact ⟨rfl, by rw [hw, ofI1, if_neg (by have := (ge_nI (a := 15) (i := c) (by decide) (by omega) rfl hx).mp c_57; omega)], bo1, ot1, qu1, fr1, by1, fa1, fs1, hM1, rfl⟩
    · refine st_aload_n C (dk DX6_ofCell_0 14 rfl) rfl ?_
      refine st_get C fl_RX6_7 (dk DX6_ofCell_0 15 rfl) 0 rfl rfl ?_
      refine st_bipush C (v := 22) (dk DX6_ofCell_0 16 rfl) (by decide) ?_
      refine st_iload_n C (dk DX6_ofCell_0 17 rfl) rfl ?_
      refine st_iadd C (dk DX6_ofCell_0 18 rfl) ?_
      refine st_iald C (dk DX6_ofCell_0 19 rfl) 1 rfl (by rw [hx]; exact vpA (k := 22) rfl (by have := mt (ge_nI (a := 15) (i := c) (by decide) (by omega) rfl hx).mpr c_57; omega) (by decide)) ?_
      refine st_goto C (tgt := 73) (dk DX6_ofCell_0 20 rfl) (by decide) ?_
      refine Rr 0 0 _ _ _ _ _ _ (Nat.zero_le _) (Nat.zero_le _) (dk DX6_ofCell_0 22 rfl) (.inr (.inl ⟨_, rfl, rfl, rfl, rfl⟩)) rfl ?_
      have hw : w = 1 := (eq_nI (a := w) (i := 1) (by omega) (by decide) hy rfl).mp t_5_1
      exact ⟨rfl, by rw [hw, show f ((22 : Int32) + x).toNatClampNeg = nI (s (22 + c)) from hv 22 (by decide), ofI1, if_pos (by have := mt (ge_nI (a := 15) (i := c) (by decide) (by omega) rfl hx).mpr c_57; omega)], bo1, ot1, qu1, fr1, by1, fa1, fs1, hM1, rfl⟩
  by_cases t_5_2 : y = 2
  · refine st_tswIn C (off := 69) (tgt := 74) (dk DX6_ofCell_0 3 rfl) (by rw [t_5_2]; decide) (by rw [t_5_2]; decide) (by rw [t_5_2]; rfl) (by decide) ?_
    refine st_aload_n C (dk DX6_ofCell_0 23 rfl) rfl ?_
    refine st_get C fl_RX6_7 (dk DX6_ofCell_0 24 rfl) 0 rfl rfl ?_
    refine st_bipush C (v := 37) (dk DX6_ofCell_0 25 rfl) (by decide) ?_
    refine st_iload_n C (dk DX6_ofCell_0 26 rfl) rfl ?_
    refine st_iadd C (dk DX6_ofCell_0 27 rfl) ?_
    refine st_iald C (dk DX6_ofCell_0 28 rfl) 1 rfl (by rw [hx]; exact vpA (k := 37) rfl (by omega) (by decide)) ?_
    refine Rr 0 0 _ _ _ _ _ _ (Nat.zero_le _) (Nat.zero_le _) (dk DX6_ofCell_0 29 rfl) (.inr (.inl ⟨_, rfl, rfl, rfl, rfl⟩)) rfl ?_
    have hw : w = 2 := (eq_nI (a := w) (i := 2) (by omega) (by decide) hy rfl).mp t_5_2
    exact ⟨rfl, by rw [hw, show f ((37 : Int32) + x).toNatClampNeg = nI (s (37 + c)) from hv 37 (by decide), ofI2], bo1, ot1, qu1, fr1, by1, fa1, fs1, hM1, rfl⟩
  by_cases t_5_3 : y = 3
  · refine st_tswIn C (off := 79) (tgt := 84) (dk DX6_ofCell_0 3 rfl) (by rw [t_5_3]; decide) (by rw [t_5_3]; decide) (by rw [t_5_3]; rfl) (by decide) ?_
    refine st_iload_n C (dk DX6_ofCell_0 30 rfl) rfl ?_
    refine st_aload_n C (dk DX6_ofCell_0 31 rfl) rfl ?_
    refine st_get C fl_RX6_7 (dk DX6_ofCell_0 32 rfl) 0 rfl rfl ?_
    refine st_iconst C (v := 0) (dk DX6_ofCell_0 33 rfl) (by decide) ?_
    refine st_iald C (dk DX6_ofCell_0 34 rfl) 1 rfl (vp_nI (show (0 : Int32) = nI 0 from rfl) (by decide) (by decide)) ?_
    refine st_idiv C (dk DX6_ofCell_0 35 rfl) (by rw [h0]; exact nI_ne0 (by omega) (by omega)) ?_
    refine Rr 0 0 _ _ _ _ _ _ (Nat.zero_le _) (Nat.zero_le _) (dk DX6_ofCell_0 36 rfl) (.inr (.inl ⟨_, rfl, rfl, rfl, rfl⟩)) rfl ?_
    have hw : w = 3 := (eq_nI (a := w) (i := 3) (by omega) (by decide) hy rfl).mp t_5_3
    exact ⟨rfl, by rw [hw, h0, hx, pk_div (by omega) (by omega) (by omega), ofI3], bo1, ot1, qu1, fr1, by1, fa1, fs1, hM1, rfl⟩
  by_cases t_5_4 : y = 4
  · refine st_tswIn C (off := 88) (tgt := 93) (dk DX6_ofCell_0 3 rfl) (by rw [t_5_4]; decide) (by rw [t_5_4]; decide) (by rw [t_5_4]; rfl) (by decide) ?_
    refine st_aload_n C (dk DX6_ofCell_0 37 rfl) rfl ?_
    refine st_get C fl_RX6_7 (dk DX6_ofCell_0 38 rfl) 0 rfl rfl ?_
    refine st_iload_n C (dk DX6_ofCell_0 39 rfl) rfl ?_
    refine st_cS C (k_X6_below l G hf hok.1 hok.2.1 hok.2.2.2.2.2 hx hc) mf_X6_below ms_X6_below ml_RX6_67 (dk DX6_ofCell_1 0 rfl) [1] rfl rfl rfl rfl (Nat.le_of_ble_eq_true rfl) ⟨Nat.le_of_ble_eq_true rfl, Nat.le_of_ble_eq_true rfl⟩ ⟨Nat.zero_le _, Nat.zero_le _⟩ (fun r9 w9 hq9 => ?_)
    obtain ⟨rfl, rfl⟩ := hq9
    refine Rr 0 0 _ _ _ _ _ _ (Nat.zero_le _) (Nat.zero_le _) (dk DX6_ofCell_1 1 rfl) (.inr (.inl ⟨_, rfl, rfl, rfl, rfl⟩)) rfl ?_
    have hw : w = 4 := (eq_nI (a := w) (i := 4) (by omega) (by decide) hy rfl).mp t_5_4
    exact ⟨rfl, by rw [hw, ofI4], bo1, ot1, qu1, fr1, by1, fa1, fs1, hM1, rfl⟩
  by_cases t_5_5 : y = 5
  · refine st_tswIn C (off := 97) (tgt := 102) (dk DX6_ofCell_0 3 rfl) (by rw [t_5_5]; decide) (by rw [t_5_5]; decide) (by rw [t_5_5]; rfl) (by decide) ?_
    refine st_aload_n C (dk DX6_ofCell_1 2 rfl) rfl ?_
    refine st_get C fl_RX6_7 (dk DX6_ofCell_1 3 rfl) 0 rfl rfl ?_
    refine st_iload_n C (dk DX6_ofCell_1 4 rfl) rfl ?_
    refine st_cS C (k_X6_above l G hf hok.1 hok.2.1 hok.2.2.2.2.2 hx hc) mf_X6_above ms_X6_above ml_RX6_71 (dk DX6_ofCell_1 5 rfl) [1] rfl rfl rfl rfl (Nat.le_of_ble_eq_true rfl) ⟨Nat.le_of_ble_eq_true rfl, Nat.le_of_ble_eq_true rfl⟩ ⟨Nat.zero_le _, Nat.zero_le _⟩ (fun r9 w9 hq9 => ?_)
    obtain ⟨rfl, rfl⟩ := hq9
    refine Rr 0 0 _ _ _ _ _ _ (Nat.zero_le _) (Nat.zero_le _) (dk DX6_ofCell_1 6 rfl) (.inr (.inl ⟨_, rfl, rfl, rfl, rfl⟩)) rfl ?_
    have hw : w = 5 := (eq_nI (a := w) (i := 5) (by omega) (by decide) hy rfl).mp t_5_5
    exact ⟨rfl, by rw [hw, ofI5], bo1, ot1, qu1, fr1, by1, fa1, fs1, hM1, rfl⟩
  refine st_tswOut C (tgt := 111) (dk DX6_ofCell_0 3 rfl) (tsw_out 6 (by decide) (by decide) (fun j hj => match j, hj with | 0, _ => t_5_0 | 1, _ => t_5_1 | 2, _ => t_5_2 | 3, _ => t_5_3 | 4, _ => t_5_4 | 5, _ => t_5_5)) (by decide) ?_
  refine st_aload_n C (dk DX6_ofCell_1 7 rfl) rfl ?_
  refine st_iload_n C (dk DX6_ofCell_1 8 rfl) rfl ?_
  refine st_cV C (k_X6_steps l G hok hM1 hx hc) mf_X6_steps mi_X6_steps ml_RX6_102 (dk DX6_ofCell_1 9 rfl) [0, 5, 6] rfl rfl rfl rfl (Nat.le_of_ble_eq_true rfl) rfl rfl ⟨Nat.le_of_ble_eq_true rfl, Nat.le_of_ble_eq_true rfl⟩ ⟨Nat.zero_le _, Nat.zero_le _⟩ (fun r9 w9 hq9 => ?_)
  obtain ⟨rfl, rfl⟩ := hq9
  refine Rr 0 0 _ _ _ _ _ _ (Nat.zero_le _) (Nat.zero_le _) (dk DX6_ofCell_1 10 rfl) (.inr (.inl ⟨_, rfl, rfl, rfl, rfl⟩)) rfl ?_
  have hw : w = 6 := by
    have : ¬ w = 0 := fun h => t_5_0 (by rw [hy, h]; rfl)
    have : ¬ w = 1 := fun h => t_5_1 (by rw [hy, h]; rfl)
    have : ¬ w = 2 := fun h => t_5_2 (by rw [hy, h]; rfl)
    have : ¬ w = 3 := fun h => t_5_3 (by rw [hy, h]; rfl)
    have : ¬ w = 4 := fun h => t_5_4 (by rw [hy, h]; rfl)
    have : ¬ w = 5 := fun h => t_5_5 (by rw [hy, h]; rfl)
    omega
  exact ⟨rfl, by rw [hw, ofI6], bo1, ot1, qu1, fr1, by1, fa1, fs1, hM1, rfl⟩
set_option maxHeartbeats 4000000 in
set_option maxRecDepth 100000 in
theorem k_X6_counted (l : Launch) (G : wG) {M : Nat} {A : Nat → Nat} {ke ty th ap ft bo ot il : Int32} {s : mS} {f : Nat → Int32} {qu fr by9 fa fs : Nat → Int32} {y : Int32} {k w : Nat} (hf : hd53 f s) (hok : mOk s) (hil : il = 0 ∨ (il = 1 ∧ MRel (fS s) qu fr by9 fa fs)) (hke : ke = nI k) (hy : y = nI w) (hw6 : w ≤ 6) : Con0 l G yX6_counted cX6_counted 2 (some .int) 7 [.ref M, .int y] [(M, ob 5 (mF A ke ty th ap ft bo ot il)), (A 0, aI G 53 f), (A 5, aI G 4624 qu), (A 6, aI G 4624 fr), (A 7, aI G 4624 by9), (A 8, aI G 4624 fa), (A 9, aI G 16 fs)] (fun r v9 => r = some (.int (coI s k w)) ∧ ∃ (bo9 ot9 : Int32) (qu9 fr9 by99 fa9 fs9 : Nat → Int32), MRel (fS s) qu9 fr9 by99 fa9 fs9 ∧ v9 = [(M, ob 5 (mF A ke ty th ap ft bo9 ot9 1)), (A 0, aI G 53 f), (A 5, aI G 4624 qu9), (A 6, aI G 4624 fr9), (A 7, aI G 4624 by99), (A 8, aI G 4624 fa9), (A 9, aI G 16 fs9)]) := by
  refine Con.mk (by decide +kernel) (Nat.le_of_ble_eq_true rfl) (fun P C Rr => ?_)
  have h0 : f (Int32.toNatClampNeg 0) = nI (s 0) := hf.at (j := 0) rfl (by decide)
  refine st_aload_n C (dk DX6_counted_0 0 rfl) rfl ?_
  refine st_cV C (k_X6_laysNow l G hf hok hil) mf_X6_laysNow mi_X6_laysNow ml_RX6_123 (dk DX6_counted_0 1 rfl) [0, 1, 2, 3, 4, 5, 6] rfl rfl rfl rfl (Nat.le_of_ble_eq_true rfl) rfl rfl ⟨Nat.le_of_ble_eq_true rfl, Nat.le_of_ble_eq_true rfl⟩ ⟨Nat.zero_le _, Nat.zero_le _⟩ (fun r9 w9 hq9 => ?_)
  obtain ⟨rfl, bo1, ot1, qu1, fr1, by1, fa1, fs1, hM1, rfl⟩ := hq9
  refine st_iload_n C (dk DX6_counted_0 2 rfl) rfl ?_
  by_cases t_5_0 : y = 0
  · refine st_tswIn C (off := 39) (tgt := 44) (dk DX6_counted_0 3 rfl) (by rw [t_5_0]; decide) (by rw [t_5_0]; decide) (by rw [t_5_0]; rfl) (by decide) ?_
    refine st_aload_n C (dk DX6_counted_0 4 rfl) rfl ?_
    refine st_cV C (k_X6_keys l G hf hok) mf_X6_keys mi_X6_keys ml_RX6_112 (dk DX6_counted_0 5 rfl) [0, 1] rfl rfl rfl rfl (Nat.le_of_ble_eq_true rfl) rfl rfl ⟨Nat.le_of_ble_eq_true rfl, Nat.le_of_ble_eq_true rfl⟩ ⟨Nat.zero_le _, Nat.zero_le _⟩ (fun r9 w9 hq9 => ?_)
    obtain ⟨rfl, rfl⟩ := hq9
    refine Rr 0 0 _ _ _ _ _ _ (Nat.zero_le _) (Nat.zero_le _) (dk DX6_counted_0 6 rfl) (.inr (.inl ⟨_, rfl, rfl, rfl, rfl⟩)) rfl ?_
    have hw : w = 0 := (eq_nI (a := w) (i := 0) (by omega) (by decide) hy rfl).mp t_5_0
    exact ⟨rfl, by rw [hw, coI0], bo1, ot1, qu1, fr1, by1, fa1, fs1, hM1, rfl⟩
  by_cases t_5_1 : y = 1
  · refine st_tswIn C (off := 44) (tgt := 49) (dk DX6_counted_0 3 rfl) (by rw [t_5_1]; decide) (by rw [t_5_1]; decide) (by rw [t_5_1]; rfl) (by decide) ?_
    refine st_aload_n C (dk DX6_counted_0 7 rfl) rfl ?_
    refine st_cV C (k_X6_doors l G hf hok) mf_X6_doors mi_X6_doors ml_RX6_152 (dk DX6_counted_0 8 rfl) [0, 1] rfl rfl rfl rfl (Nat.le_of_ble_eq_true rfl) rfl rfl ⟨Nat.le_of_ble_eq_true rfl, Nat.le_of_ble_eq_true rfl⟩ ⟨Nat.zero_le _, Nat.zero_le _⟩ (fun r9 w9 hq9 => ?_)
    obtain ⟨rfl, rfl⟩ := hq9
    refine Rr 0 0 _ _ _ _ _ _ (Nat.zero_le _) (Nat.zero_le _) (dk DX6_counted_0 9 rfl) (.inr (.inl ⟨_, rfl, rfl, rfl, rfl⟩)) rfl ?_
    have hw : w = 1 := (eq_nI (a := w) (i := 1) (by omega) (by decide) hy rfl).mp t_5_1
    exact ⟨rfl, by rw [hw, coI1], bo1, ot1, qu1, fr1, by1, fa1, fs1, hM1, rfl⟩
  by_cases t_5_2 : y = 2
  · refine st_tswIn C (off := 49) (tgt := 54) (dk DX6_counted_0 3 rfl) (by rw [t_5_2]; decide) (by rw [t_5_2]; decide) (by rw [t_5_2]; rfl) (by decide) ?_
    refine st_aload_n C (dk DX6_counted_0 10 rfl) rfl ?_
    refine st_cV C (k_X6_ladders l G hf hok) mf_X6_ladders mi_X6_ladders ml_RX6_155 (dk DX6_counted_0 11 rfl) [0, 1] rfl rfl rfl rfl (Nat.le_of_ble_eq_true rfl) rfl rfl ⟨Nat.le_of_ble_eq_true rfl, Nat.le_of_ble_eq_true rfl⟩ ⟨Nat.zero_le _, Nat.zero_le _⟩ (fun r9 w9 hq9 => ?_)
    obtain ⟨rfl, rfl⟩ := hq9
    refine Rr 0 0 _ _ _ _ _ _ (Nat.zero_le _) (Nat.zero_le _) (dk DX6_counted_0 12 rfl) (.inr (.inl ⟨_, rfl, rfl, rfl, rfl⟩)) rfl ?_
    have hw : w = 2 := (eq_nI (a := w) (i := 2) (by omega) (by decide) hy rfl).mp t_5_2
    exact ⟨rfl, by rw [hw, coI2], bo1, ot1, qu1, fr1, by1, fa1, fs1, hM1, rfl⟩
  by_cases t_5_3 : y = 3
  · refine st_tswIn C (off := 54) (tgt := 59) (dk DX6_counted_0 3 rfl) (by rw [t_5_3]; decide) (by rw [t_5_3]; decide) (by rw [t_5_3]; rfl) (by decide) ?_
    refine st_aload_n C (dk DX6_counted_0 13 rfl) rfl ?_
    refine st_cV C (k_X6_reachable l G hok hM1) mf_X6_reachable mi_X6_reachable ml_RX6_158 (dk DX6_counted_0 14 rfl) [0, 6] rfl rfl rfl rfl (Nat.le_of_ble_eq_true rfl) rfl rfl ⟨Nat.le_of_ble_eq_true rfl, Nat.le_of_ble_eq_true rfl⟩ ⟨Nat.zero_le _, Nat.zero_le _⟩ (fun r9 w9 hq9 => ?_)
    obtain ⟨rfl, rfl⟩ := hq9
    refine Rr 0 0 _ _ _ _ _ _ (Nat.zero_le _) (Nat.zero_le _) (dk DX6_counted_0 15 rfl) (.inr (.inl ⟨_, rfl, rfl, rfl, rfl⟩)) rfl ?_
    have hw : w = 3 := (eq_nI (a := w) (i := 3) (by omega) (by decide) hy rfl).mp t_5_3
    exact ⟨rfl, by rw [hw, coI3], bo1, ot1, qu1, fr1, by1, fa1, fs1, hM1, rfl⟩
  by_cases t_5_4 : y = 4
  · refine st_tswIn C (off := 59) (tgt := 64) (dk DX6_counted_0 3 rfl) (by rw [t_5_4]; decide) (by rw [t_5_4]; decide) (by rw [t_5_4]; rfl) (by decide) ?_
    refine st_aload_n C (dk DX6_counted_0 16 rfl) rfl ?_
    refine st_cV C (k_X6_longest l G hok hM1) mf_X6_longest mi_X6_longest ml_RX6_161 (dk DX6_counted_0 17 rfl) [0, 5, 6] rfl rfl rfl rfl (Nat.le_of_ble_eq_true rfl) rfl rfl ⟨Nat.le_of_ble_eq_true rfl, Nat.le_of_ble_eq_true rfl⟩ ⟨Nat.zero_le _, Nat.zero_le _⟩ (fun r9 w9 hq9 => ?_)
    obtain ⟨rfl, rfl⟩ := hq9
    refine Rr 0 0 _ _ _ _ _ _ (Nat.zero_le _) (Nat.zero_le _) (dk DX6_counted_0 18 rfl) (.inr (.inl ⟨_, rfl, rfl, rfl, rfl⟩)) rfl ?_
    have hw : w = 4 := (eq_nI (a := w) (i := 4) (by omega) (by decide) hy rfl).mp t_5_4
    exact ⟨rfl, by rw [hw, coI4], bo1, ot1, qu1, fr1, by1, fa1, fs1, hM1, rfl⟩
  by_cases t_5_5 : y = 5
  · refine st_tswIn C (off := 64) (tgt := 69) (dk DX6_counted_0 3 rfl) (by rw [t_5_5]; decide) (by rw [t_5_5]; decide) (by rw [t_5_5]; rfl) (by decide) ?_
    refine st_aload_n C (dk DX6_counted_0 19 rfl) rfl ?_
    refine st_get C fl_RX6_7 (dk DX6_counted_0 20 rfl) 0 rfl rfl ?_
    refine st_iconst C (v := 0) (dk DX6_counted_0 21 rfl) (by decide) ?_
    refine st_iald C (dk DX6_counted_0 22 rfl) 1 rfl (vp_nI (show (0 : Int32) = nI 0 from rfl) (by decide) (by decide)) ?_
    refine Rr 0 0 _ _ _ _ _ _ (Nat.zero_le _) (Nat.zero_le _) (dk DX6_counted_0 23 rfl) (.inr (.inl ⟨_, rfl, rfl, rfl, rfl⟩)) rfl ?_
    have hw : w = 5 := (eq_nI (a := w) (i := 5) (by omega) (by decide) hy rfl).mp t_5_5
    exact ⟨rfl, by rw [hw, h0, coI5], bo1, ot1, qu1, fr1, by1, fa1, fs1, hM1, rfl⟩
  refine st_tswOut C (tgt := 76) (dk DX6_counted_0 3 rfl) (tsw_out 6 (by decide) (by decide) (fun j hj => match j, hj with | 0, _ => t_5_0 | 1, _ => t_5_1 | 2, _ => t_5_2 | 3, _ => t_5_3 | 4, _ => t_5_4 | 5, _ => t_5_5)) (by decide) ?_
  refine st_aload_n C (dk DX6_counted_0 24 rfl) rfl ?_
  refine st_get C fl_RX6_52 (dk DX6_counted_0 25 rfl) 0 rfl rfl ?_
  refine Rr 0 0 _ _ _ _ _ _ (Nat.zero_le _) (Nat.zero_le _) (dk DX6_counted_0 26 rfl) (.inr (.inl ⟨_, rfl, rfl, rfl, rfl⟩)) rfl ?_
  have hw : w = 6 := by
    have : ¬ w = 0 := fun h => t_5_0 (by rw [hy, h]; rfl)
    have : ¬ w = 1 := fun h => t_5_1 (by rw [hy, h]; rfl)
    have : ¬ w = 2 := fun h => t_5_2 (by rw [hy, h]; rfl)
    have : ¬ w = 3 := fun h => t_5_3 (by rw [hy, h]; rfl)
    have : ¬ w = 4 := fun h => t_5_4 (by rw [hy, h]; rfl)
    have : ¬ w = 5 := fun h => t_5_5 (by rw [hy, h]; rfl)
    omega
  exact ⟨rfl, by rw [hw, hke, coI6], bo1, ot1, qu1, fr1, by1, fa1, fs1, hM1, rfl⟩
set_option maxHeartbeats 4000000 in
set_option maxRecDepth 100000 in
theorem k_X6_with (l : Launch) (G : wG) {M : Nat} {A : Nat → Nat} {ke ty th ap ft bo ot il : Int32} {s : mS} {f : Nat → Int32} {qu fr by9 fa fs : Nat → Int32} {f1 : Nat → Int32} {x y : Int32} {k v : Nat} (hf : hd53 f s) (hok : mOk (updS s k v)) (hx : x = nI k) (hk : k < 53) (hy : y = nI v) : Con0 l G yX6_with cX6_with 3 (some .int) 6 [.ref M, .int x, .int y] [(M, ob 5 (mF A ke ty th ap ft bo ot il)), (A 0, aI G 53 f), (A 1, aI G 53 f1), (A 5, aI G 4624 qu), (A 6, aI G 4624 fr), (A 7, aI G 4624 by9), (A 8, aI G 4624 fa), (A 9, aI G 16 fs)] (fun r v9 => r = some (.int (nI (cnt (fS (updS s k v)) 16))) ∧ ∃ (bo9 ot9 : Int32) (f19 qu9 fr9 by99 fa9 fs9 : Nat → Int32), MRel (fS (updS s k v)) qu9 fr9 by99 fa9 fs9 ∧ v9 = [(M, ob 5 (mF A ke ty th ap ft bo9 ot9 0)), (A 0, aI G 53 f), (A 1, aI G 53 f19), (A 5, aI G 4624 qu9), (A 6, aI G 4624 fr9), (A 7, aI G 4624 by99), (A 8, aI G 4624 fa9), (A 9, aI G 16 fs9)]) := by
  refine Con.mk (by decide +kernel) (Nat.le_of_ble_eq_true rfl) (fun P C Rr => ?_)
  refine st_aload_n C (dk DX6_with_0 0 rfl) rfl ?_
  refine st_get C fl_RX6_7 (dk DX6_with_0 1 rfl) 0 rfl rfl ?_
  refine st_iconst C (v := 0) (dk DX6_with_0 2 rfl) (by decide) ?_
  refine st_aload_n C (dk DX6_with_0 3 rfl) rfl ?_
  refine st_get C fl_RX6_13 (dk DX6_with_0 4 rfl) 0 rfl rfl ?_
  refine st_iconst C (v := 0) (dk DX6_with_0 5 rfl) (by decide) ?_
  refine st_cS C (k_X6_copies l G (fa := 0) (ta := 0) rfl rfl (by decide) (by decide) (by decide) (by decide)) mf_X6_copies ms_X6_copies ml_RX6_55 (dk DX6_with_0 6 rfl) [1, 2] rfl rfl rfl rfl (Nat.le_of_ble_eq_true rfl) ⟨Nat.le_of_ble_eq_true rfl, Nat.le_of_ble_eq_true rfl⟩ ⟨Nat.zero_le _, Nat.zero_le _⟩ (fun r9 w9 hq9 => ?_)
  obtain ⟨rfl, h10, hA10, hB10, rfl⟩ := hq9
  refine st_aload_n C (dk DX6_with_0 7 rfl) rfl ?_
  refine st_get C fl_RX6_13 (dk DX6_with_0 8 rfl) 0 rfl rfl ?_
  refine st_iload_n C (dk DX6_with_0 9 rfl) rfl ?_
  refine st_iload_n C (dk DX6_with_0 10 rfl) rfl ?_
  refine st_iast C (dk DX6_with_0 11 rfl) 2 rfl (vp_nI hx hk (by decide)) ?_
  have hf0 : hd53 h10 s := fun j hj => by have h9 := hA10 j hj; rw [Nat.zero_add] at h9; rw [h9]; exact hf j hj
  have hf1 : hd53 (upd h10 x.toNatClampNeg y) (updS s k v) := hf0.upd hx (by omega) hy
  refine st_aload_n C (dk DX6_with_0 12 rfl) rfl ?_
  refine st_aload_n C (dk DX6_with_0 13 rfl) rfl ?_
  refine st_get C fl_RX6_13 (dk DX6_with_0 14 rfl) 0 rfl rfl ?_
  refine st_cV C (k_X6_lays l G hf1 hok) mf_X6_lays mi_X6_lays ml_RX6_98 (dk DX6_with_0 15 rfl) [0, 3, 4, 5, 6, 7, 2] rfl rfl rfl rfl (Nat.le_of_ble_eq_true rfl) rfl rfl ⟨Nat.le_of_ble_eq_true rfl, Nat.le_of_ble_eq_true rfl⟩ ⟨Nat.zero_le _, Nat.zero_le _⟩ (fun r9 w9 hq9 => ?_)
  obtain ⟨rfl, qu25, fr25, by25, fa25, fs25, hM25, rfl⟩ := hq9
  refine st_aload_n C (dk DX6_with_0 16 rfl) rfl ?_
  refine st_iconst C (v := 0) (dk DX6_with_0 17 rfl) (by decide) ?_
  refine st_put C fl_RX6_48 fc_5 fw_5_17 (dk DX6_with_0 18 rfl) 0 rfl rfl rfl (Nat.le_of_ble_eq_true rfl) ?_
  refine st_aload_n C (dk DX6_with_0 19 rfl) rfl ?_
  refine st_cV C (k_X6_reachable l G hok hM25) mf_X6_reachable mi_X6_reachable ml_RX6_158 (dk DX6_with_0 20 rfl) [0, 7] rfl rfl rfl rfl (Nat.le_of_ble_eq_true rfl) rfl rfl ⟨Nat.le_of_ble_eq_true rfl, Nat.le_of_ble_eq_true rfl⟩ ⟨Nat.zero_le _, Nat.zero_le _⟩ (fun r9 w9 hq9 => ?_)
  obtain ⟨rfl, rfl⟩ := hq9
  exact Rr 0 0 _ _ _ _ _ _ (Nat.zero_le _) (Nat.zero_le _) (dk DX6_with_0 21 rfl) (.inr (.inl ⟨_, rfl, rfl, rfl, rfl⟩)) rfl ⟨rfl, ⟨rfl, _, _, _, _, _, _, _, _, hM25, rfl⟩⟩
end
section
/-! ranges of arguments -/
def isN (x : Int32) (n : Nat) : Prop := ∃ j, j ≤ n ∧ x = nI j
theorem rInR_t {x hi : Int32} {n : Nat} (hn : n < 2 ^ 31) (hh : hi = nI n) (h : rInR x 0 hi = 0) : ¬ isN x n := by
  rintro ⟨j, hj, rfl⟩
  rw [rInR_nI (by omega) hn hh, if_pos hj] at h
  exact absurd h (by decide)
theorem rInR_f {x hi : Int32} {n : Nat} (hn : n < 2 ^ 31) (hh : hi = nI n) (h : ¬ rInR x 0 hi = 0) : isN x n := by
  by_cases h0 : x < 0
  · exact absurd (rInR_neg h0) h
  · obtain ⟨j, hj, rfl⟩ := nI_of h0
    rw [rInR_nI hj hn hh] at h
    by_cases h1 : j ≤ n
    · exact ⟨j, h1, rfl⟩
    · rw [if_neg h1] at h; exact absurd rfl h
theorem rIn_t {x m : Int32} {n : Nat} (hn : n + 1 < 2 ^ 31) (hm : m = nI (n + 1)) (h : rIn x m = 0) : ¬ isN x n := by
  rintro ⟨j, hj, rfl⟩
  rw [rIn_nI (by omega) hn hm, if_pos (by omega)] at h
  exact absurd h (by decide)
theorem rIn_f {x m : Int32} {n : Nat} (hn : n + 1 < 2 ^ 31) (hm : m = nI (n + 1)) (h : ¬ rIn x m = 0) : isN x n := by
  by_cases h0 : x < 0
  · exact absurd (by unfold rIn; rw [if_pos h0]) h
  · obtain ⟨j, hj, rfl⟩ := nI_of h0
    rw [rIn_nI hj hn hm] at h
    by_cases h1 : j < n + 1
    · exact ⟨j, by omega, rfl⟩
    · rw [if_neg h1] at h; exact absurd rfl h
theorem rBowOk_t {x : Int32} (h : rBowOk x = 0) : ¬ isN x 5 := by
  rintro ⟨j, hj, rfl⟩
  unfold rBowOk at h
  rw [if_neg (nI_pos (by omega)), if_neg (fun h9 => by have := (lt_nI (a := 5) (i := j) (by decide) (by omega) rfl rfl).mp h9; omega)] at h
  exact absurd h (by decide)
theorem rBowOk_f {x : Int32} (h : ¬ rBowOk x = 0) : isN x 5 := by
  unfold rBowOk at h
  by_cases h0 : x < 0
  · rw [if_pos h0] at h; exact absurd rfl h
  · obtain ⟨j, hj, rfl⟩ := nI_of h0
    rw [if_neg h0] at h
    by_cases h1 : j ≤ 5
    · exact ⟨j, h1, rfl⟩
    · rw [if_pos (show 5 < nI j from (lt_nI (a := 5) (i := j) (by decide) hj rfl rfl).mpr (by omega))] at h; exact absurd rfl h
def isR (x : Int32) (a n : Nat) : Prop := ∃ j, a ≤ j ∧ j ≤ n ∧ x = nI j
theorem isR_of {x lo hi : Int32} {a n : Nat} (ha : a < 2 ^ 31) (hn : n < 2 ^ 31) (hl : lo = nI a) (hh : hi = nI n) (h1 : ¬ x < lo) (h2 : ¬ hi < x) : isR x a n := by
  subst hl; subst hh
  have h0 : ¬ x < 0 := by
    intro h
    apply h1
    rw [Int32.lt_iff_toInt_lt] at h ⊢
    rw [nI_toInt ha]
    have : (0 : Int32).toInt = 0 := by decide
    omega
  obtain ⟨j, hj, rfl⟩ := nI_of h0
  rw [nI_ltI hj ha] at h1
  rw [nI_ltI hn hj] at h2
  exact ⟨j, by omega, by omega, rfl⟩
theorem isR_lo {x lo : Int32} {a n : Nat} (ha : a < 2 ^ 31) (hn : n < 2 ^ 31) (hl : lo = nI a) (h : x < lo) : ¬ isR x a n := by
  rintro ⟨j, h1, h2, rfl⟩
  subst hl
  rw [nI_ltI (by omega) ha] at h
  omega
theorem isR_hi {x hi : Int32} {a n : Nat} (hn : n < 2 ^ 31) (hh : hi = nI n) (h : hi < x) : ¬ isR x a n := by
  rintro ⟨j, h1, h2, rfl⟩
  subst hh
  rw [nI_ltI hn (by omega)] at h
  omega
theorem rInRg_t {x lo hi : Int32} {a n : Nat} (ha : a < 2 ^ 31) (hn : n < 2 ^ 31) (hl : lo = nI a) (hh : hi = nI n) (h : rInR x lo hi = 0) : ¬ isR x a n := by
  unfold rInR at h
  split at h
  · rename_i h1; exact isR_lo ha hn hl h1
  · split at h
    · rename_i h1; exact isR_hi hn hh h1
    · exact absurd h (by decide)
theorem rInRg_f {x lo hi : Int32} {a n : Nat} (ha : a < 2 ^ 31) (hn : n < 2 ^ 31) (hl : lo = nI a) (hh : hi = nI n) (h : ¬ rInR x lo hi = 0) : isR x a n := by
  unfold rInR at h
  split at h
  · exact absurd rfl h
  · rename_i h1
    split at h
    · exact absurd rfl h
    · rename_i h2; exact isR_of ha hn hl hh h1 h2
theorem hd53_ups {f : Nat → Int32} {s : mS} (h : hd53 f s) {k w : Nat} (hk : k < 2 ^ 31) {v : Int32} (hv : v = nI w) : hd53 (upd f k v) (updS s k w) := by
  have := h.upd (k := k) (x := nI k) (v := v) rfl hk hv
  rwa [nI_clamp hk] at this
end
section
/-! the reference: the methods that change the state -/
set_option maxHeartbeats 4000000 in
set_option maxRecDepth 100000 in
theorem k_X6_door (l : Launch) (G : wG) {M : Nat} {A : Nat → Nat} {ke ty th ap ft bo ot il : Int32} {s : mS} {f0 f20 : Nat → Int32} {k : Nat} {p : Nat → mS} {x y : Int32} (hf : hd53 f0 s) (hke : ke = nI k) (hk : k ≤ 6) (hp : pastR f20 k p) : Con0 l G yX6_door cX6_door 3 (some .int) 2 [.ref M, .int x, .int y] [(M, ob 5 (mF A ke ty th ap ft bo ot il)), (A 2, aI G 318 f20), (A 0, aI G 53 f0)] (fun r w => (¬ isN x 14 ∧ r = some (.int 0) ∧ w = [(M, ob 5 (mF A ke ty 1 ap ft bo ot il)), (A 2, aI G 318 f20), (A 0, aI G 53 f0)]) ∨ (isN x 14 ∧ ¬ isN y 5 ∧ r = some (.int 0) ∧ w = [(M, ob 5 (mF A ke ty 2 ap ft bo ot il)), (A 2, aI G 318 f20), (A 0, aI G 53 f0)]) ∨ (∃ j i, j ≤ 14 ∧ i ≤ 5 ∧ x = nI j ∧ y = nI i ∧ r = some (.int (nI (s (22 + j)))) ∧ ∃ (f09 f29 : Nat → Int32), hd53 f09 (updS s (22 + j) i) ∧ pastR f29 (svK k) (svP s k p) ∧ w = [(M, ob 5 (mF A (nI (svK k)) ty 0 ap ft bo ot 0)), (A 2, aI G 318 f29), (A 0, aI G 53 f09)])) := by
  refine Con.mk (by decide +kernel) (Nat.le_of_ble_eq_true rfl) (fun P C Rr => ?_)
  refine st_aload_n C (dk DX6_door_0 0 rfl) rfl ?_
  refine st_iconst C (v := 0) (dk DX6_door_0 1 rfl) (by decide) ?_
  refine st_put C fl_RX6_40 fc_5 fw_5_6 (dk DX6_door_0 2 rfl) 0 rfl rfl rfl (Nat.le_of_ble_eq_true rfl) ?_
  refine st_iload_n C (dk DX6_door_0 3 rfl) rfl ?_
  refine st_iconst C (v := 0) (dk DX6_door_0 4 rfl) (by decide) ?_
  refine st_bipush C (v := 14) (dk DX6_door_0 5 rfl) (by decide) ?_
  refine st_cS C (k_X6_in l G) mf_X6_in ms_X6_in ml_RX6_44 (dk DX6_door_0 6 rfl) [] rfl rfl rfl rfl (Nat.le_of_ble_eq_true rfl) ⟨Nat.le_of_ble_eq_true rfl, Nat.le_of_ble_eq_true rfl⟩ ⟨Nat.zero_le _, Nat.zero_le _⟩ (fun r9 w9 hq9 => ?_)
  obtain ⟨rfl, rfl⟩ := hq9
  refine st_if_ne C (tgt := 21) (dk DX6_door_0 7 rfl) (by decide) (fun c_12 => ?_) (fun c_12 => ?_)
  · refine st_iload_n C (dk DX6_door_0 12 rfl) rfl ?_
    refine st_iconst C (v := 0) (dk DX6_door_0 13 rfl) (by decide) ?_
    refine st_iconst C (v := 5) (dk DX6_door_0 14 rfl) (by decide) ?_
    refine st_cS C (k_X6_in l G) mf_X6_in ms_X6_in ml_RX6_44 (dk DX6_door_0 15 rfl) [] rfl rfl rfl rfl (Nat.le_of_ble_eq_true rfl) ⟨Nat.le_of_ble_eq_true rfl, Nat.le_of_ble_eq_true rfl⟩ ⟨Nat.zero_le _, Nat.zero_le _⟩ (fun r9 w9 hq9 => ?_)
    obtain ⟨rfl, rfl⟩ := hq9
    refine st_if_ne C (tgt := 36) (dk DX6_door_0 16 rfl) (by decide) (fun c_27 => ?_) (fun c_27 => ?_)
    · obtain ⟨j, hj, rfl⟩ := rInR_f (n := 14) (by decide) rfl c_12
      obtain ⟨i, hi, rfl⟩ := rInR_f (n := 5) (by decide) rfl c_27
      have hfu : hd53 (upd f0 (22 + j) (nI i)) (updS s (22 + j) i) := by
        have := hf.upd (k := 22 + j) (x := nI (22 + j)) (v := nI i) rfl (by omega) rfl
        rwa [nI_clamp (by omega)] at this
      refine st_aload_n C (dk DX6_door_0 21 rfl) rfl ?_
      refine st_cV C (k_X6_saves l G hf hke hk hp) mf_X6_saves mi_X6_saves ml_RX6_105 (dk DX6_door_0 22 rfl) [0, 1, 2] rfl rfl rfl rfl (Nat.le_of_ble_eq_true rfl) rfl rfl ⟨Nat.le_of_ble_eq_true rfl, Nat.le_of_ble_eq_true rfl⟩ ⟨Nat.zero_le _, Nat.zero_le _⟩ (fun r9 w9 hq9 => ?_)
      obtain ⟨rfl, f237, hp37, rfl⟩ := hq9
      refine st_aload_n C (dk DX6_door_0 23 rfl) rfl ?_
      refine st_bipush C (v := 22) (dk DX6_door_0 24 rfl) (by decide) ?_
      refine st_iload_n C (dk DX6_door_0 25 rfl) rfl ?_
      refine st_iadd C (dk DX6_door_0 26 rfl) ?_
      refine st_iload_n C (dk DX6_door_0 27 rfl) rfl ?_
      refine st_cV C (k_X6_changes l G (k := 22 + j) (nI_add 22 j) (by omega)) mf_X6_changes mi_X6_changes ml_RX6_108 (dk DX6_door_0 28 rfl) [0, 2] rfl rfl rfl rfl (Nat.le_of_ble_eq_true rfl) rfl rfl ⟨Nat.le_of_ble_eq_true rfl, Nat.le_of_ble_eq_true rfl⟩ ⟨Nat.zero_le _, Nat.zero_le _⟩ (fun r9 w9 hq9 => ?_)
      obtain ⟨rfl, rfl⟩ := hq9
      exact Rr 0 0 _ _ _ _ _ _ (Nat.zero_le _) (Nat.zero_le _) (dk DX6_door_0 29 rfl) (.inr (.inl ⟨_, rfl, rfl, rfl, rfl⟩)) rfl ⟨rfl, Or.inr (Or.inr ⟨j, i, hj, hi, rfl, rfl, by rw [hf (22 + j) (by omega)], _, f237, hfu, hp37, rfl⟩)⟩
    · refine st_aload_n C (dk DX6_door_0 17 rfl) rfl ?_
      refine st_iconst C (v := 2) (dk DX6_door_0 18 rfl) (by decide) ?_
      refine st_cV C (k_X6_fails l G) mf_X6_fails mi_X6_fails ml_RX6_59 (dk DX6_door_0 19 rfl) [0] rfl rfl rfl rfl (Nat.le_of_ble_eq_true rfl) rfl rfl ⟨Nat.le_of_ble_eq_true rfl, Nat.le_of_ble_eq_true rfl⟩ ⟨Nat.zero_le _, Nat.zero_le _⟩ (fun r9 w9 hq9 => ?_)
      obtain ⟨rfl, rfl⟩ := hq9
      exact Rr 0 0 _ _ _ _ _ _ (Nat.zero_le _) (Nat.zero_le _) (dk DX6_door_0 20 rfl) (.inr (.inl ⟨_, rfl, rfl, rfl, rfl⟩)) rfl ⟨rfl, Or.inr (Or.inl ⟨rInR_f (n := 14) (by decide) rfl c_12, rInR_t (n := 5) (by decide) rfl c_27, rfl, rfl⟩)⟩
  · refine st_aload_n C (dk DX6_door_0 8 rfl) rfl ?_
    refine st_iconst C (v := 1) (dk DX6_door_0 9 rfl) (by decide) ?_
    refine st_cV C (k_X6_fails l G) mf_X6_fails mi_X6_fails ml_RX6_59 (dk DX6_door_0 10 rfl) [0] rfl rfl rfl rfl (Nat.le_of_ble_eq_true rfl) rfl rfl ⟨Nat.le_of_ble_eq_true rfl, Nat.le_of_ble_eq_true rfl⟩ ⟨Nat.zero_le _, Nat.zero_le _⟩ (fun r9 w9 hq9 => ?_)
    obtain ⟨rfl, rfl⟩ := hq9
    exact Rr 0 0 _ _ _ _ _ _ (Nat.zero_le _) (Nat.zero_le _) (dk DX6_door_0 11 rfl) (.inr (.inl ⟨_, rfl, rfl, rfl, rfl⟩)) rfl ⟨rfl, Or.inl ⟨rInR_t (n := 14) (by decide) rfl c_12, rfl, rfl⟩⟩
set_option maxHeartbeats 4000000 in
set_option maxRecDepth 100000 in
theorem k_X6_ladder (l : Launch) (G : wG) {M : Nat} {A : Nat → Nat} {ke ty th ap ft bo ot il : Int32} {s : mS} {f0 f20 : Nat → Int32} {k : Nat} {p : Nat → mS} {x y : Int32} (hf : hd53 f0 s) (hke : ke = nI k) (hk : k ≤ 6) (hp : pastR f20 k p) : Con0 l G yX6_ladder cX6_ladder 3 (some .int) 2 [.ref M, .int x, .int y] [(M, ob 5 (mF A ke ty th ap ft bo ot il)), (A 2, aI G 318 f20), (A 0, aI G 53 f0)] (fun r w => (¬ isN x 15 ∧ r = some (.int 0) ∧ w = [(M, ob 5 (mF A ke ty 1 ap ft bo ot il)), (A 2, aI G 318 f20), (A 0, aI G 53 f0)]) ∨ (∃ j, j ≤ 15 ∧ x = nI j ∧ r = some (.int (nI (s (37 + j)))) ∧ ∃ (f09 f29 : Nat → Int32), hd53 f09 (updS s (37 + j) (if y = 0 then 0 else 1)) ∧ pastR f29 (svK k) (svP s k p) ∧ w = [(M, ob 5 (mF A (nI (svK k)) ty 0 ap ft bo ot 0)), (A 2, aI G 318 f29), (A 0, aI G 53 f09)])) := by
  refine Con.mk (by decide +kernel) (Nat.le_of_ble_eq_true rfl) (fun P C Rr => ?_)
  refine st_aload_n C (dk DX6_ladder_0 0 rfl) rfl ?_
  refine st_iconst C (v := 0) (dk DX6_ladder_0 1 rfl) (by decide) ?_
  refine st_put C fl_RX6_40 fc_5 fw_5_6 (dk DX6_ladder_0 2 rfl) 0 rfl rfl rfl (Nat.le_of_ble_eq_true rfl) ?_
  refine st_iload_n C (dk DX6_ladder_0 3 rfl) rfl ?_
  refine st_cS C (k_X6_isCell l G) mf_X6_isCell ms_X6_isCell ml_RX6_63 (dk DX6_ladder_0 4 rfl) [] rfl rfl rfl rfl (Nat.le_of_ble_eq_true rfl) ⟨Nat.le_of_ble_eq_true rfl, Nat.le_of_ble_eq_true rfl⟩ ⟨Nat.zero_le _, Nat.zero_le _⟩ (fun r9 w9 hq9 => ?_)
  obtain ⟨rfl, rfl⟩ := hq9
  refine st_if_ne C (tgt := 18) (dk DX6_ladder_0 5 rfl) (by decide) (fun c_9 => ?_) (fun c_9 => ?_)
  · obtain ⟨j, hj, rfl⟩ := rInR_f (n := 15) (by decide) rfl c_9
    refine st_aload_n C (dk DX6_ladder_0 10 rfl) rfl ?_
    refine st_cV C (k_X6_saves l G hf hke hk hp) mf_X6_saves mi_X6_saves ml_RX6_105 (dk DX6_ladder_0 11 rfl) [0, 1, 2] rfl rfl rfl rfl (Nat.le_of_ble_eq_true rfl) rfl rfl ⟨Nat.le_of_ble_eq_true rfl, Nat.le_of_ble_eq_true rfl⟩ ⟨Nat.zero_le _, Nat.zero_le _⟩ (fun r9 w9 hq9 => ?_)
    obtain ⟨rfl, f219, hp19, rfl⟩ := hq9
    refine st_aload_n C (dk DX6_ladder_0 12 rfl) rfl ?_
    refine st_bipush C (v := 37) (dk DX6_ladder_0 13 rfl) (by decide) ?_
    refine st_iload_n C (dk DX6_ladder_0 14 rfl) rfl ?_
    refine st_iadd C (dk DX6_ladder_0 15 rfl) ?_
    refine st_iload_n C (dk DX6_ladder_0 16 rfl) rfl ?_
    refine st_if_eq C (tgt := 35) (dk DX6_ladder_0 17 rfl) (by decide) (fun c_28 => ?_) (fun c_28 => ?_)
    · refine st_iconst C (v := 0) (dk DX6_ladder_0 20 rfl) (by decide) ?_
      refine st_cV C (k_X6_changes l G (k := 37 + j) (nI_add 37 j) (by omega)) mf_X6_changes mi_X6_changes ml_RX6_108 (dk DX6_ladder_0 21 rfl) [0, 2] rfl rfl rfl rfl (Nat.le_of_ble_eq_true rfl) rfl rfl ⟨Nat.le_of_ble_eq_true rfl, Nat.le_of_ble_eq_true rfl⟩ ⟨Nat.zero_le _, Nat.zero_le _⟩ (fun r9 w9 hq9 => ?_)
      obtain ⟨rfl, rfl⟩ := hq9
      exact Rr 0 0 _ _ _ _ _ _ (Nat.zero_le _) (Nat.zero_le _) (dk DX6_ladder_0 22 rfl) (.inr (.inl ⟨_, rfl, rfl, rfl, rfl⟩)) rfl ⟨rfl, Or.inr ⟨j, hj, rfl, by rw [hf (37 + j) (by omega)], _, f219, hd53_ups hf (by omega) (by rw [if_pos c_28]; rfl), hp19, rfl⟩⟩
    · refine st_iconst C (v := 1) (dk DX6_ladder_0 18 rfl) (by decide) ?_
      refine st_goto C (tgt := 36) (dk DX6_ladder_0 19 rfl) (by decide) ?_
      refine st_cV C (k_X6_changes l G (k := 37 + j) (nI_add 37 j) (by omega)) mf_X6_changes mi_X6_changes ml_RX6_108 (dk DX6_ladder_0 21 rfl) [0, 2] rfl rfl rfl rfl (Nat.le_of_ble_eq_true rfl) rfl rfl ⟨Nat.le_of_ble_eq_true rfl, Nat.le_of_ble_eq_true rfl⟩ ⟨Nat.zero_le _, Nat.zero_le _⟩ (fun r9 w9 hq9 => ?_)
      obtain ⟨rfl, rfl⟩ := hq9
      exact Rr 0 0 _ _ _ _ _ _ (Nat.zero_le _) (Nat.zero_le _) (dk DX6_ladder_0 22 rfl) (.inr (.inl ⟨_, rfl, rfl, rfl, rfl⟩)) rfl ⟨rfl, Or.inr ⟨j, hj, rfl, by rw [hf (37 + j) (by omega)], _, f219, hd53_ups hf (by omega) (by rw [if_neg c_28]; rfl), hp19, rfl⟩⟩
  · refine st_aload_n C (dk DX6_ladder_0 6 rfl) rfl ?_
    refine st_iconst C (v := 1) (dk DX6_ladder_0 7 rfl) (by decide) ?_
    refine st_cV C (k_X6_fails l G) mf_X6_fails mi_X6_fails ml_RX6_59 (dk DX6_ladder_0 8 rfl) [0] rfl rfl rfl rfl (Nat.le_of_ble_eq_true rfl) rfl rfl ⟨Nat.le_of_ble_eq_true rfl, Nat.le_of_ble_eq_true rfl⟩ ⟨Nat.zero_le _, Nat.zero_le _⟩ (fun r9 w9 hq9 => ?_)
    obtain ⟨rfl, rfl⟩ := hq9
    exact Rr 0 0 _ _ _ _ _ _ (Nat.zero_le _) (Nat.zero_le _) (dk DX6_ladder_0 9 rfl) (.inr (.inl ⟨_, rfl, rfl, rfl, rfl⟩)) rfl ⟨rfl, Or.inl ⟨rInR_t (n := 15) (by decide) rfl c_9, rfl, rfl⟩⟩
set_option maxHeartbeats 4000000 in
set_option maxRecDepth 100000 in
theorem k_X6_fold (l : Launch) (G : wG) {M : Nat} {A : Nat → Nat} {ke ty th ap ft bo ot il : Int32} {s : mS} {f0 f20 : Nat → Int32} {k : Nat} {p : Nat → mS} {x : Int32} (hf : hd53 f0 s) (hke : ke = nI k) (hk : k ≤ 6) (hp : pastR f20 k p) : Con0 l G yX6_fold cX6_fold 2 (some .int) 2 [.ref M, .int x] [(M, ob 5 (mF A ke ty th ap ft bo ot il)), (A 2, aI G 318 f20), (A 0, aI G 53 f0)] (fun r w => (¬ isR x 2 8 ∧ r = some (.int 0) ∧ w = [(M, ob 5 (mF A ke ty 1 ap ft bo ot il)), (A 2, aI G 318 f20), (A 0, aI G 53 f0)]) ∨ (∃ j, 2 ≤ j ∧ j ≤ 8 ∧ x = nI j ∧ r = some (.int (nI (s 0))) ∧ ∃ (f09 f29 : Nat → Int32), hd53 f09 (updS s 0 j) ∧ pastR f29 (svK k) (svP s k p) ∧ w = [(M, ob 5 (mF A (nI (svK k)) ty 0 ap ft bo ot 0)), (A 2, aI G 318 f29), (A 0, aI G 53 f09)])) := by
  refine Con.mk (by decide +kernel) (Nat.le_of_ble_eq_true rfl) (fun P C Rr => ?_)
  refine st_aload_n C (dk DX6_fold_0 0 rfl) rfl ?_
  refine st_iconst C (v := 0) (dk DX6_fold_0 1 rfl) (by decide) ?_
  refine st_put C fl_RX6_40 fc_5 fw_5_6 (dk DX6_fold_0 2 rfl) 0 rfl rfl rfl (Nat.le_of_ble_eq_true rfl) ?_
  refine st_iload_n C (dk DX6_fold_0 3 rfl) rfl ?_
  refine st_iconst C (v := 2) (dk DX6_fold_0 4 rfl) (by decide) ?_
  refine st_bipush C (v := 8) (dk DX6_fold_0 5 rfl) (by decide) ?_
  refine st_cS C (k_X6_in l G) mf_X6_in ms_X6_in ml_RX6_44 (dk DX6_fold_0 6 rfl) [] rfl rfl rfl rfl (Nat.le_of_ble_eq_true rfl) ⟨Nat.le_of_ble_eq_true rfl, Nat.le_of_ble_eq_true rfl⟩ ⟨Nat.zero_le _, Nat.zero_le _⟩ (fun r9 w9 hq9 => ?_)
  obtain ⟨rfl, rfl⟩ := hq9
  refine st_if_ne C (tgt := 21) (dk DX6_fold_0 7 rfl) (by decide) (fun c_12 => ?_) (fun c_12 => ?_)
  · obtain ⟨j, hj, hj2, rfl⟩ := rInRg_f (a := 2) (n := 8) (by decide) (by decide) rfl rfl c_12
    refine st_aload_n C (dk DX6_fold_0 12 rfl) rfl ?_
    refine st_cV C (k_X6_saves l G hf hke hk hp) mf_X6_saves mi_X6_saves ml_RX6_105 (dk DX6_fold_0 13 rfl) [0, 1, 2] rfl rfl rfl rfl (Nat.le_of_ble_eq_true rfl) rfl rfl ⟨Nat.le_of_ble_eq_true rfl, Nat.le_of_ble_eq_true rfl⟩ ⟨Nat.zero_le _, Nat.zero_le _⟩ (fun r9 w9 hq9 => ?_)
    obtain ⟨rfl, f222, hp22, rfl⟩ := hq9
    refine st_aload_n C (dk DX6_fold_0 14 rfl) rfl ?_
    refine st_iconst C (v := 0) (dk DX6_fold_0 15 rfl) (by decide) ?_
    refine st_iload_n C (dk DX6_fold_0 16 rfl) rfl ?_
    refine st_cV C (k_X6_changes l G (k := 0) rfl (by omega)) mf_X6_changes mi_X6_changes ml_RX6_108 (dk DX6_fold_0 17 rfl) [0, 2] rfl rfl rfl rfl (Nat.le_of_ble_eq_true rfl) rfl rfl ⟨Nat.le_of_ble_eq_true rfl, Nat.le_of_ble_eq_true rfl⟩ ⟨Nat.zero_le _, Nat.zero_le _⟩ (fun r9 w9 hq9 => ?_)
    obtain ⟨rfl, rfl⟩ := hq9
    exact Rr 0 0 _ _ _ _ _ _ (Nat.zero_le _) (Nat.zero_le _) (dk DX6_fold_0 18 rfl) (.inr (.inl ⟨_, rfl, rfl, rfl, rfl⟩)) rfl ⟨rfl, Or.inr ⟨j, hj, hj2, rfl, by rw [hf 0 (by omega)], _, f222, hd53_ups hf (by omega) rfl, hp22, rfl⟩⟩
  · refine st_aload_n C (dk DX6_fold_0 8 rfl) rfl ?_
    refine st_iconst C (v := 1) (dk DX6_fold_0 9 rfl) (by decide) ?_
    refine st_cV C (k_X6_fails l G) mf_X6_fails mi_X6_fails ml_RX6_59 (dk DX6_fold_0 10 rfl) [0] rfl rfl rfl rfl (Nat.le_of_ble_eq_true rfl) rfl rfl ⟨Nat.le_of_ble_eq_true rfl, Nat.le_of_ble_eq_true rfl⟩ ⟨Nat.zero_le _, Nat.zero_le _⟩ (fun r9 w9 hq9 => ?_)
    obtain ⟨rfl, rfl⟩ := hq9
    exact Rr 0 0 _ _ _ _ _ _ (Nat.zero_le _) (Nat.zero_le _) (dk DX6_fold_0 11 rfl) (.inr (.inl ⟨_, rfl, rfl, rfl, rfl⟩)) rfl ⟨rfl, Or.inl ⟨rInRg_t (a := 2) (n := 8) (by decide) (by decide) rfl rfl c_12, rfl, rfl⟩⟩
set_option maxHeartbeats 4000000 in
set_option maxRecDepth 100000 in
theorem k_X6_stand (l : Launch) (G : wG) {M : Nat} {A : Nat → Nat} {ke ty th ap ft bo ot il : Int32} {s : mS} {f0 f20 : Nat → Int32} {k : Nat} {p : Nat → mS} {x : Int32} (hf : hd53 f0 s) (hke : ke = nI k) (hk : k ≤ 6) (hp : pastR f20 k p) : Con0 l G yX6_stand cX6_stand 2 (some .int) 2 [.ref M, .int x] [(M, ob 5 (mF A ke ty th ap ft bo ot il)), (A 2, aI G 318 f20), (A 0, aI G 53 f0)] (fun r w => (¬ isN x 15 ∧ r = some (.int 0) ∧ w = [(M, ob 5 (mF A ke ty 1 ap ft bo ot il)), (A 2, aI G 318 f20), (A 0, aI G 53 f0)]) ∨ (∃ j, j ≤ 15 ∧ x = nI j ∧ r = some (.int (nI (s 1))) ∧ ∃ (f09 f29 : Nat → Int32), hd53 f09 (updS s 1 j) ∧ pastR f29 (svK k) (svP s k p) ∧ w = [(M, ob 5 (mF A (nI (svK k)) ty 0 ap ft bo ot 0)), (A 2, aI G 318 f29), (A 0, aI G 53 f09)])) := by
  refine Con.mk (by decide +kernel) (Nat.le_of_ble_eq_true rfl) (fun P C Rr => ?_)
  refine st_aload_n C (dk DX6_stand_0 0 rfl) rfl ?_
  refine st_iconst C (v := 0) (dk DX6_stand_0 1 rfl) (by decide) ?_
  refine st_put C fl_RX6_40 fc_5 fw_5_6 (dk DX6_stand_0 2 rfl) 0 rfl rfl rfl (Nat.le_of_ble_eq_true rfl) ?_
  refine st_iload_n C (dk DX6_stand_0 3 rfl) rfl ?_
  refine st_cS C (k_X6_isCell l G) mf_X6_isCell ms_X6_isCell ml_RX6_63 (dk DX6_stand_0 4 rfl) [] rfl rfl rfl rfl (Nat.le_of_ble_eq_true rfl) ⟨Nat.le_of_ble_eq_true rfl, Nat.le_of_ble_eq_true rfl⟩ ⟨Nat.zero_le _, Nat.zero_le _⟩ (fun r9 w9 hq9 => ?_)
  obtain ⟨rfl, rfl⟩ := hq9
  refine st_if_ne C (tgt := 18) (dk DX6_stand_0 5 rfl) (by decide) (fun c_9 => ?_) (fun c_9 => ?_)
  · obtain ⟨j, hj, rfl⟩ := rInR_f (n := 15) (by decide) rfl c_9
    refine st_aload_n C (dk DX6_stand_0 10 rfl) rfl ?_
    refine st_cV C (k_X6_saves l G hf hke hk hp) mf_X6_saves mi_X6_saves ml_RX6_105 (dk DX6_stand_0 11 rfl) [0, 1, 2] rfl rfl rfl rfl (Nat.le_of_ble_eq_true rfl) rfl rfl ⟨Nat.le_of_ble_eq_true rfl, Nat.le_of_ble_eq_true rfl⟩ ⟨Nat.zero_le _, Nat.zero_le _⟩ (fun r9 w9 hq9 => ?_)
    obtain ⟨rfl, f219, hp19, rfl⟩ := hq9
    refine st_aload_n C (dk DX6_stand_0 12 rfl) rfl ?_
    refine st_iconst C (v := 1) (dk DX6_stand_0 13 rfl) (by decide) ?_
    refine st_iload_n C (dk DX6_stand_0 14 rfl) rfl ?_
    refine st_cV C (k_X6_changes l G (k := 1) rfl (by omega)) mf_X6_changes mi_X6_changes ml_RX6_108 (dk DX6_stand_0 15 rfl) [0, 2] rfl rfl rfl rfl (Nat.le_of_ble_eq_true rfl) rfl rfl ⟨Nat.le_of_ble_eq_true rfl, Nat.le_of_ble_eq_true rfl⟩ ⟨Nat.zero_le _, Nat.zero_le _⟩ (fun r9 w9 hq9 => ?_)
    obtain ⟨rfl, rfl⟩ := hq9
    exact Rr 0 0 _ _ _ _ _ _ (Nat.zero_le _) (Nat.zero_le _) (dk DX6_stand_0 16 rfl) (.inr (.inl ⟨_, rfl, rfl, rfl, rfl⟩)) rfl ⟨rfl, Or.inr ⟨j, hj, rfl, by rw [hf 1 (by omega)], _, f219, hd53_ups hf (by omega) rfl, hp19, rfl⟩⟩
  · refine st_aload_n C (dk DX6_stand_0 6 rfl) rfl ?_
    refine st_iconst C (v := 1) (dk DX6_stand_0 7 rfl) (by decide) ?_
    refine st_cV C (k_X6_fails l G) mf_X6_fails mi_X6_fails ml_RX6_59 (dk DX6_stand_0 8 rfl) [0] rfl rfl rfl rfl (Nat.le_of_ble_eq_true rfl) rfl rfl ⟨Nat.le_of_ble_eq_true rfl, Nat.le_of_ble_eq_true rfl⟩ ⟨Nat.zero_le _, Nat.zero_le _⟩ (fun r9 w9 hq9 => ?_)
    obtain ⟨rfl, rfl⟩ := hq9
    exact Rr 0 0 _ _ _ _ _ _ (Nat.zero_le _) (Nat.zero_le _) (dk DX6_stand_0 9 rfl) (.inr (.inl ⟨_, rfl, rfl, rfl, rfl⟩)) rfl ⟨rfl, Or.inl ⟨rInR_t (n := 15) (by decide) rfl c_9, rfl, rfl⟩⟩
set_option maxHeartbeats 4000000 in
set_option maxRecDepth 100000 in
theorem k_X6_key (l : Launch) (G : wG) {M : Nat} {A : Nat → Nat} {ke ty th ap ft bo ot il : Int32} {s : mS} {f0 f20 : Nat → Int32} {k : Nat} {p : Nat → mS} {x y : Int32} (hf : hd53 f0 s) (hke : ke = nI k) (hk : k ≤ 6) (hp : pastR f20 k p) (hok : mOk s) : Con0 l G yX6_key cX6_key 3 (some .int) 2 [.ref M, .int x, .int y] [(M, ob 5 (mF A ke ty th ap ft bo ot il)), (A 2, aI G 318 f20), (A 0, aI G 53 f0)] (fun r w => (¬ isN x 15 ∧ r = some (.int 0) ∧ w = [(M, ob 5 (mF A ke ty 1 ap ft bo ot il)), (A 2, aI G 318 f20), (A 0, aI G 53 f0)]) ∨ (isN x 15 ∧ ¬ isN y 5 ∧ r = some (.int 0) ∧ w = [(M, ob 5 (mF A ke ty 2 ap ft bo ot il)), (A 2, aI G 318 f20), (A 0, aI G 53 f0)]) ∨ (∃ j i, j ≤ 15 ∧ i ≤ 5 ∧ x = nI j ∧ y = nI i ∧ (0 < i ∧ s (6 + j) = 0 ∧ kcN s 16 = 2) ∧ r = some (.int 0) ∧ w = [(M, ob 5 (mF A ke ty 3 ap ft bo ot il)), (A 2, aI G 318 f20), (A 0, aI G 53 f0)]) ∨ (∃ j i, j ≤ 15 ∧ i ≤ 5 ∧ x = nI j ∧ y = nI i ∧ ¬ (0 < i ∧ s (6 + j) = 0 ∧ kcN s 16 = 2) ∧ r = some (.int (nI (s (6 + j)))) ∧ ∃ (f09 f29 : Nat → Int32), hd53 f09 (updS s (6 + j) i) ∧ pastR f29 (svK k) (svP s k p) ∧ w = [(M, ob 5 (mF A (nI (svK k)) ty 0 ap ft bo ot 0)), (A 2, aI G 318 f29), (A 0, aI G 53 f09)])) := by
  refine Con.mk (by decide +kernel) (Nat.le_of_ble_eq_true rfl) (fun P C Rr => ?_)
  refine st_aload_n C (dk DX6_key_0 0 rfl) rfl ?_
  refine st_iconst C (v := 0) (dk DX6_key_0 1 rfl) (by decide) ?_
  refine st_put C fl_RX6_40 fc_5 fw_5_6 (dk DX6_key_0 2 rfl) 0 rfl rfl rfl (Nat.le_of_ble_eq_true rfl) ?_
  refine st_iload_n C (dk DX6_key_0 3 rfl) rfl ?_
  refine st_cS C (k_X6_isCell l G) mf_X6_isCell ms_X6_isCell ml_RX6_63 (dk DX6_key_0 4 rfl) [] rfl rfl rfl rfl (Nat.le_of_ble_eq_true rfl) ⟨Nat.le_of_ble_eq_true rfl, Nat.le_of_ble_eq_true rfl⟩ ⟨Nat.zero_le _, Nat.zero_le _⟩ (fun r9 w9 hq9 => ?_)
  obtain ⟨rfl, rfl⟩ := hq9
  refine st_if_ne C (tgt := 18) (dk DX6_key_0 5 rfl) (by decide) (fun c_9 => ?_) (fun c_9 => ?_)
  · refine st_iload_n C (dk DX6_key_0 10 rfl) rfl ?_
    refine st_iconst C (v := 0) (dk DX6_key_0 11 rfl) (by decide) ?_
    refine st_iconst C (v := 5) (dk DX6_key_0 12 rfl) (by decide) ?_
    refine st_cS C (k_X6_in l G) mf_X6_in ms_X6_in ml_RX6_44 (dk DX6_key_0 13 rfl) [] rfl rfl rfl rfl (Nat.le_of_ble_eq_true rfl) ⟨Nat.le_of_ble_eq_true rfl, Nat.le_of_ble_eq_true rfl⟩ ⟨Nat.zero_le _, Nat.zero_le _⟩ (fun r9 w9 hq9 => ?_)
    obtain ⟨rfl, rfl⟩ := hq9
    refine st_if_ne C (tgt := 33) (dk DX6_key_0 14 rfl) (by decide) (fun c_24 => ?_) (fun c_24 => ?_)
    · obtain ⟨j, hj, rfl⟩ := rInR_f (n := 15) (by decide) rfl c_9
      obtain ⟨i, hi, rfl⟩ := rInR_f (n := 5) (by decide) rfl c_24
      have hv : f0 ((6 : Int32) + nI j).toNatClampNeg = nI (s (6 + j)) := hf.at (nadd 6 j rfl) (by omega)
      have h5 := hok.2.2.2.1 j (by omega)
      unfold kAt at h5
      rw [if_neg (by omega)] at h5
      have hkc := kcN_le s 16
      refine st_iload_n C (dk DX6_key_0 19 rfl) rfl ?_
      refine st_if_le C (tgt := 63) (dk DX6_key_0 20 rfl) (by decide) (fun c_34 => ?_) (fun c_34 => ?_)
      · refine st_aload_n C (dk DX6_key_0 36 rfl) rfl ?_
        refine st_cV C (k_X6_saves l G hf hke hk hp) mf_X6_saves mi_X6_saves ml_RX6_105 (dk DX6_key_0 37 rfl) [0, 1, 2] rfl rfl rfl rfl (Nat.le_of_ble_eq_true rfl) rfl rfl ⟨Nat.le_of_ble_eq_true rfl, Nat.le_of_ble_eq_true rfl⟩ ⟨Nat.zero_le _, Nat.zero_le _⟩ (fun r9 w9 hq9 => ?_)
        obtain ⟨rfl, f264, hp64, rfl⟩ := hq9
        refine st_aload_n C (dk DX6_key_0 38 rfl) rfl ?_
        refine st_bipush C (v := 6) (dk DX6_key_0 39 rfl) (by decide) ?_
        refine st_iload_n C (dk DX6_key_1 0 rfl) rfl ?_
        refine st_iadd C (dk DX6_key_1 1 rfl) ?_
        refine st_iload_n C (dk DX6_key_1 2 rfl) rfl ?_
        refine st_cV C (k_X6_changes l G (k := 6 + j) (nI_add 6 j) (by omega)) mf_X6_changes mi_X6_changes ml_RX6_108 (dk DX6_key_1 3 rfl) [0, 2] rfl rfl rfl rfl (Nat.le_of_ble_eq_true rfl) rfl rfl ⟨Nat.le_of_ble_eq_true rfl, Nat.le_of_ble_eq_true rfl⟩ ⟨Nat.zero_le _, Nat.zero_le _⟩ (fun r9 w9 hq9 => ?_)
        obtain ⟨rfl, rfl⟩ := hq9
        exact Rr 0 0 _ _ _ _ _ _ (Nat.zero_le _) (Nat.zero_le _) (dk DX6_key_1 4 rfl) (.inr (.inl ⟨_, rfl, rfl, rfl, rfl⟩)) rfl ⟨rfl, Or.inr (Or.inr (Or.inr ⟨j, i, hj, hi, rfl, rfl, fun h => absurd h.1 (by have := (le0_nI (by omega)).mp c_34; omega), by rw [hf (6 + j) (by omega)], _, f264, hd53_ups hf (by omega) rfl, hp64, rfl⟩))⟩
      · refine st_aload_n C (dk DX6_key_0 21 rfl) rfl ?_
        refine st_get C fl_RX6_7 (dk DX6_key_0 22 rfl) 0 rfl rfl ?_
        refine st_bipush C (v := 6) (dk DX6_key_0 23 rfl) (by decide) ?_
        refine st_iload_n C (dk DX6_key_0 24 rfl) rfl ?_
        refine st_iadd C (dk DX6_key_0 25 rfl) ?_
        refine st_iald C (dk DX6_key_0 26 rfl) 2 rfl (vpA (k := 6) rfl (by omega) (by decide)) ?_
        refine st_if_ne C (tgt := 63) (dk DX6_key_0 27 rfl) (by decide) (fun c_46 => ?_) (fun c_46 => ?_)
        · refine st_aload_n C (dk DX6_key_0 36 rfl) rfl ?_
          refine st_cV C (k_X6_saves l G hf hke hk hp) mf_X6_saves mi_X6_saves ml_RX6_105 (dk DX6_key_0 37 rfl) [0, 1, 2] rfl rfl rfl rfl (Nat.le_of_ble_eq_true rfl) rfl rfl ⟨Nat.le_of_ble_eq_true rfl, Nat.le_of_ble_eq_true rfl⟩ ⟨Nat.zero_le _, Nat.zero_le _⟩ (fun r9 w9 hq9 => ?_)
          obtain ⟨rfl, f264, hp64, rfl⟩ := hq9
          refine st_aload_n C (dk DX6_key_0 38 rfl) rfl ?_
          refine st_bipush C (v := 6) (dk DX6_key_0 39 rfl) (by decide) ?_
          refine st_iload_n C (dk DX6_key_1 0 rfl) rfl ?_
          refine st_iadd C (dk DX6_key_1 1 rfl) ?_
          refine st_iload_n C (dk DX6_key_1 2 rfl) rfl ?_
          refine st_cV C (k_X6_changes l G (k := 6 + j) (nI_add 6 j) (by omega)) mf_X6_changes mi_X6_changes ml_RX6_108 (dk DX6_key_1 3 rfl) [0, 2] rfl rfl rfl rfl (Nat.le_of_ble_eq_true rfl) rfl rfl ⟨Nat.le_of_ble_eq_true rfl, Nat.le_of_ble_eq_true rfl⟩ ⟨Nat.zero_le _, Nat.zero_le _⟩ (fun r9 w9 hq9 => ?_)
          obtain ⟨rfl, rfl⟩ := hq9
          exact Rr 0 0 _ _ _ _ _ _ (Nat.zero_le _) (Nat.zero_le _) (dk DX6_key_1 4 rfl) (.inr (.inl ⟨_, rfl, rfl, rfl, rfl⟩)) rfl ⟨rfl, Or.inr (Or.inr (Or.inr ⟨j, i, hj, hi, rfl, rfl, fun h => c_46 ((eq_nI (a := s (6 + j)) (i := 0) (by omega) (by decide) (by rw [hv]) rfl).mpr h.2.1), by rw [hf (6 + j) (by omega)], _, f264, hd53_ups hf (by omega) rfl, hp64, rfl⟩))⟩
        · refine st_aload_n C (dk DX6_key_0 28 rfl) rfl ?_
          refine st_cV C (k_X6_keys l G hf hok) mf_X6_keys mi_X6_keys ml_RX6_112 (dk DX6_key_0 29 rfl) [0, 2] rfl rfl rfl rfl (Nat.le_of_ble_eq_true rfl) rfl rfl ⟨Nat.le_of_ble_eq_true rfl, Nat.le_of_ble_eq_true rfl⟩ ⟨Nat.zero_le _, Nat.zero_le _⟩ (fun r9 w9 hq9 => ?_)
          obtain ⟨rfl, rfl⟩ := hq9
          refine st_iconst C (v := 2) (dk DX6_key_0 30 rfl) (by decide) ?_
          refine st_icmp_ne C (tgt := 63) (dk DX6_key_0 31 rfl) (by decide) (fun c_54 => ?_) (fun c_54 => ?_)
          · refine st_aload_n C (dk DX6_key_0 36 rfl) rfl ?_
            refine st_cV C (k_X6_saves l G hf hke hk hp) mf_X6_saves mi_X6_saves ml_RX6_105 (dk DX6_key_0 37 rfl) [0, 1, 2] rfl rfl rfl rfl (Nat.le_of_ble_eq_true rfl) rfl rfl ⟨Nat.le_of_ble_eq_true rfl, Nat.le_of_ble_eq_true rfl⟩ ⟨Nat.zero_le _, Nat.zero_le _⟩ (fun r9 w9 hq9 => ?_)
            obtain ⟨rfl, f264, hp64, rfl⟩ := hq9
            refine st_aload_n C (dk DX6_key_0 38 rfl) rfl ?_
            refine st_bipush C (v := 6) (dk DX6_key_0 39 rfl) (by decide) ?_
            refine st_iload_n C (dk DX6_key_1 0 rfl) rfl ?_
            refine st_iadd C (dk DX6_key_1 1 rfl) ?_
            refine st_iload_n C (dk DX6_key_1 2 rfl) rfl ?_
            refine st_cV C (k_X6_changes l G (k := 6 + j) (nI_add 6 j) (by omega)) mf_X6_changes mi_X6_changes ml_RX6_108 (dk DX6_key_1 3 rfl) [0, 2] rfl rfl rfl rfl (Nat.le_of_ble_eq_true rfl) rfl rfl ⟨Nat.le_of_ble_eq_true rfl, Nat.le_of_ble_eq_true rfl⟩ ⟨Nat.zero_le _, Nat.zero_le _⟩ (fun r9 w9 hq9 => ?_)
            obtain ⟨rfl, rfl⟩ := hq9
            exact Rr 0 0 _ _ _ _ _ _ (Nat.zero_le _) (Nat.zero_le _) (dk DX6_key_1 4 rfl) (.inr (.inl ⟨_, rfl, rfl, rfl, rfl⟩)) rfl ⟨rfl, Or.inr (Or.inr (Or.inr ⟨j, i, hj, hi, rfl, rfl, fun h => c_54 ((eq_nI (a := kcN s 16) (i := 2) (by omega) (by decide) rfl rfl).mpr h.2.2), by rw [hf (6 + j) (by omega)], _, f264, hd53_ups hf (by omega) rfl, hp64, rfl⟩))⟩
          · refine st_aload_n C (dk DX6_key_0 32 rfl) rfl ?_
            refine st_iconst C (v := 3) (dk DX6_key_0 33 rfl) (by decide) ?_
            refine st_cV C (k_X6_fails l G) mf_X6_fails mi_X6_fails ml_RX6_59 (dk DX6_key_0 34 rfl) [0] rfl rfl rfl rfl (Nat.le_of_ble_eq_true rfl) rfl rfl ⟨Nat.le_of_ble_eq_true rfl, Nat.le_of_ble_eq_true rfl⟩ ⟨Nat.zero_le _, Nat.zero_le _⟩ (fun r9 w9 hq9 => ?_)
            obtain ⟨rfl, rfl⟩ := hq9
            exact Rr 0 0 _ _ _ _ _ _ (Nat.zero_le _) (Nat.zero_le _) (dk DX6_key_0 35 rfl) (.inr (.inl ⟨_, rfl, rfl, rfl, rfl⟩)) rfl ⟨rfl, Or.inr (Or.inr (Or.inl ⟨j, i, hj, hi, rfl, rfl, ⟨(gt0_nI (by omega)).mp c_34, (eq_nI (a := s (6 + j)) (i := 0) (by omega) (by decide) (by rw [hv]) rfl).mp c_46, (eq_nI (a := kcN s 16) (i := 2) (by omega) (by decide) rfl rfl).mp c_54⟩, rfl, rfl⟩))⟩
    · refine st_aload_n C (dk DX6_key_0 15 rfl) rfl ?_
      refine st_iconst C (v := 2) (dk DX6_key_0 16 rfl) (by decide) ?_
      refine st_cV C (k_X6_fails l G) mf_X6_fails mi_X6_fails ml_RX6_59 (dk DX6_key_0 17 rfl) [0] rfl rfl rfl rfl (Nat.le_of_ble_eq_true rfl) rfl rfl ⟨Nat.le_of_ble_eq_true rfl, Nat.le_of_ble_eq_true rfl⟩ ⟨Nat.zero_le _, Nat.zero_le _⟩ (fun r9 w9 hq9 => ?_)
      obtain ⟨rfl, rfl⟩ := hq9
      exact Rr 0 0 _ _ _ _ _ _ (Nat.zero_le _) (Nat.zero_le _) (dk DX6_key_0 18 rfl) (.inr (.inl ⟨_, rfl, rfl, rfl, rfl⟩)) rfl ⟨rfl, Or.inr (Or.inl ⟨rInR_f (n := 15) (by decide) rfl c_9, rInR_t (n := 5) (by decide) rfl c_24, rfl, rfl⟩)⟩
  · refine st_aload_n C (dk DX6_key_0 6 rfl) rfl ?_
    refine st_iconst C (v := 1) (dk DX6_key_0 7 rfl) (by decide) ?_
    refine st_cV C (k_X6_fails l G) mf_X6_fails mi_X6_fails ml_RX6_59 (dk DX6_key_0 8 rfl) [0] rfl rfl rfl rfl (Nat.le_of_ble_eq_true rfl) rfl rfl ⟨Nat.le_of_ble_eq_true rfl, Nat.le_of_ble_eq_true rfl⟩ ⟨Nat.zero_le _, Nat.zero_le _⟩ (fun r9 w9 hq9 => ?_)
    obtain ⟨rfl, rfl⟩ := hq9
    exact Rr 0 0 _ _ _ _ _ _ (Nat.zero_le _) (Nat.zero_le _) (dk DX6_key_0 9 rfl) (.inr (.inl ⟨_, rfl, rfl, rfl, rfl⟩)) rfl ⟨rfl, Or.inl ⟨rInR_t (n := 15) (by decide) rfl c_9, rfl, rfl⟩⟩
end
