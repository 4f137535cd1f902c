section
-- ===== PART A: goes FIRST, ahead of the names: the tables' words, and 'selects' of the private methods out of them =====
/-- a private method of a class that the tables say can be made, by its rows of tables_1 -/
def lw_okq (q : MethodName × Nat) : Prop := (q.1.cls ≠ "java/lang/invoke/MethodHandle" ∧ q.1.cls ≠ "java/lang/invoke/VarHandle") ∧ Cond.instantiable q.1.cls q.2 ∈ tables_1 ∧ Cond.privateMethod q.1 ∈ tables_1 ∧ Cond.instanceMethod q.1 ∈ tables_1
theorem lw_p0 : lw_okq (⟨"LimpMirror", "refuse", "(I)I"⟩, 16) := ⟨⟨by decide +kernel, by decide +kernel⟩, List.mem_of_getElem? (i := 18) (by decide +kernel), List.mem_of_getElem? (i := 227) (by decide +kernel), List.mem_of_getElem? (i := 228) (by decide +kernel)⟩
theorem lw_p1 : lw_okq (⟨"LimpMirror$Room", "readItems", "(LLimpMirror$Cells;I)I"⟩, 5) := ⟨⟨by decide +kernel, by decide +kernel⟩, List.mem_of_getElem? (i := 48) (by decide +kernel), List.mem_of_getElem? (i := 326) (by decide +kernel), List.mem_of_getElem? (i := 327) (by decide +kernel)⟩
theorem lw_p2 : lw_okq (⟨"LimpMirror$Room", "readTerm", "(LLimpMirror$Cells;I)I"⟩, 5) := ⟨⟨by decide +kernel, by decide +kernel⟩, List.mem_of_getElem? (i := 48) (by decide +kernel), List.mem_of_getElem? (i := 330) (by decide +kernel), List.mem_of_getElem? (i := 331) (by decide +kernel)⟩
theorem lw_p3 : lw_okq (⟨"LimpMirror$Room", "readGlass", "(LLimpMirror$Cells;I)I"⟩, 5) := ⟨⟨by decide +kernel, by decide +kernel⟩, List.mem_of_getElem? (i := 48) (by decide +kernel), List.mem_of_getElem? (i := 334) (by decide +kernel), List.mem_of_getElem? (i := 335) (by decide +kernel)⟩
theorem lw_p4 : lw_okq (⟨"LimpMirror", "isGlass", "(I)Z"⟩, 16) := ⟨⟨by decide +kernel, by decide +kernel⟩, List.mem_of_getElem? (i := 18) (by decide +kernel), List.mem_of_getElem? (i := 359) (by decide +kernel), List.mem_of_getElem? (i := 360) (by decide +kernel)⟩
theorem lw_p5 : lw_okq (⟨"LimpMirror", "glassFact", "(II)I"⟩, 16) := ⟨⟨by decide +kernel, by decide +kernel⟩, List.mem_of_getElem? (i := 18) (by decide +kernel), List.mem_of_getElem? (i := 363) (by decide +kernel), List.mem_of_getElem? (i := 364) (by decide +kernel)⟩
theorem lw_p6 : lw_okq (⟨"LimpMirror", "paneOf", "(I)LLimpMirror$Pane;"⟩, 16) := ⟨⟨by decide +kernel, by decide +kernel⟩, List.mem_of_getElem? (i := 18) (by decide +kernel), List.mem_of_getElem? (i := 367) (by decide +kernel), List.mem_of_getElem? (i := 368) (by decide +kernel)⟩
theorem lw_p7 : lw_okq (⟨"LimpMirror", "noughtsAtDeeds", "(LLimpMirror$Pane;)I"⟩, 16) := ⟨⟨by decide +kernel, by decide +kernel⟩, List.mem_of_getElem? (i := 18) (by decide +kernel), List.mem_of_getElem? (i := 503) (by decide +kernel), List.mem_of_getElem? (i := 504) (by decide +kernel)⟩
theorem lw_p8 : lw_okq (⟨"LimpMirror", "doStep", "(II)I"⟩, 16) := ⟨⟨by decide +kernel, by decide +kernel⟩, List.mem_of_getElem? (i := 18) (by decide +kernel), List.mem_of_getElem? (i := 541) (by decide +kernel), List.mem_of_getElem? (i := 542) (by decide +kernel)⟩
theorem lw_p9 : lw_okq (⟨"LimpMirror$Deeds", "write", "(III)V"⟩, 2) := ⟨⟨by decide +kernel, by decide +kernel⟩, List.mem_of_getElem? (i := 30) (by decide +kernel), List.mem_of_getElem? (i := 549) (by decide +kernel), List.mem_of_getElem? (i := 550) (by decide +kernel)⟩
theorem lw_p10 : lw_okq (⟨"LimpMirror", "findSets", "(LLimpMirror$Pane;LLimpMirror$Cells;)Z"⟩, 16) := ⟨⟨by decide +kernel, by decide +kernel⟩, List.mem_of_getElem? (i := 18) (by decide +kernel), List.mem_of_getElem? (i := 640) (by decide +kernel), List.mem_of_getElem? (i := 641) (by decide +kernel)⟩
theorem lw_p11 : lw_okq (⟨"LimpMirror", "tell", "(JJ)V"⟩, 16) := ⟨⟨by decide +kernel, by decide +kernel⟩, List.mem_of_getElem? (i := 18) (by decide +kernel), List.mem_of_getElem? (i := 646) (by decide +kernel), List.mem_of_getElem? (i := 647) (by decide +kernel)⟩
theorem lw_p12 : lw_okq (⟨"LimpMirror", "lawsOf", "(LLimpMirror$Cells;LLimpMirror$Cells;)I"⟩, 16) := ⟨⟨by decide +kernel, by decide +kernel⟩, List.mem_of_getElem? (i := 18) (by decide +kernel), List.mem_of_getElem? (i := 668) (by decide +kernel), List.mem_of_getElem? (i := 669) (by decide +kernel)⟩
theorem lw_p13 : lw_okq (⟨"LimpMirror", "firstNotShown", "(LLimpMirror$Pane;LLimpMirror$Cells;LLimpMirror$Cells;)I"⟩, 16) := ⟨⟨by decide +kernel, by decide +kernel⟩, List.mem_of_getElem? (i := 18) (by decide +kernel), List.mem_of_getElem? (i := 672) (by decide +kernel), List.mem_of_getElem? (i := 673) (by decide +kernel)⟩
theorem lw_p14 : lw_okq (⟨"LimpMirror", "mostThatShowOneThing", "(II)I"⟩, 16) := ⟨⟨by decide +kernel, by decide +kernel⟩, List.mem_of_getElem? (i := 18) (by decide +kernel), List.mem_of_getElem? (i := 680) (by decide +kernel), List.mem_of_getElem? (i := 681) (by decide +kernel)⟩
theorem lw_p15 : lw_okq (⟨"LimpMirror$Chains", "weighStep", "(LLimpMirror$Room;LLimpMirror$Pane;III)V"⟩, 5) := ⟨⟨by decide +kernel, by decide +kernel⟩, List.mem_of_getElem? (i := 85) (by decide +kernel), List.mem_of_getElem? (i := 702) (by decide +kernel), List.mem_of_getElem? (i := 703) (by decide +kernel)⟩
def lw_privs_1 : List (MethodName × Nat) := [(⟨"LimpMirror", "refuse", "(I)I"⟩, 16), (⟨"LimpMirror$Room", "readItems", "(LLimpMirror$Cells;I)I"⟩, 5), (⟨"LimpMirror$Room", "readTerm", "(LLimpMirror$Cells;I)I"⟩, 5), (⟨"LimpMirror$Room", "readGlass", "(LLimpMirror$Cells;I)I"⟩, 5), (⟨"LimpMirror", "isGlass", "(I)Z"⟩, 16), (⟨"LimpMirror", "glassFact", "(II)I"⟩, 16), (⟨"LimpMirror", "paneOf", "(I)LLimpMirror$Pane;"⟩, 16), (⟨"LimpMirror", "noughtsAtDeeds", "(LLimpMirror$Pane;)I"⟩, 16), (⟨"LimpMirror", "doStep", "(II)I"⟩, 16), (⟨"LimpMirror$Deeds", "write", "(III)V"⟩, 2), (⟨"LimpMirror", "findSets", "(LLimpMirror$Pane;LLimpMirror$Cells;)Z"⟩, 16), (⟨"LimpMirror", "tell", "(JJ)V"⟩, 16), (⟨"LimpMirror", "lawsOf", "(LLimpMirror$Cells;LLimpMirror$Cells;)I"⟩, 16), (⟨"LimpMirror", "firstNotShown", "(LLimpMirror$Pane;LLimpMirror$Cells;LLimpMirror$Cells;)I"⟩, 16), (⟨"LimpMirror", "mostThatShowOneThing", "(II)I"⟩, 16), (⟨"LimpMirror$Chains", "weighStep", "(LLimpMirror$Room;LLimpMirror$Pane;III)V"⟩, 5)]
theorem lw_r1 : ∀ q ∈ lw_privs_1, lw_okq q := List.forall_mem_cons.mpr ⟨lw_p0, List.forall_mem_cons.mpr ⟨lw_p1, List.forall_mem_cons.mpr ⟨lw_p2, List.forall_mem_cons.mpr ⟨lw_p3, List.forall_mem_cons.mpr ⟨lw_p4, List.forall_mem_cons.mpr ⟨lw_p5, List.forall_mem_cons.mpr ⟨lw_p6, List.forall_mem_cons.mpr ⟨lw_p7, List.forall_mem_cons.mpr ⟨lw_p8, List.forall_mem_cons.mpr ⟨lw_p9, List.forall_mem_cons.mpr ⟨lw_p10, List.forall_mem_cons.mpr ⟨lw_p11, List.forall_mem_cons.mpr ⟨lw_p12, List.forall_mem_cons.mpr ⟨lw_p13, List.forall_mem_cons.mpr ⟨lw_p14, List.forall_mem_cons.mpr ⟨lw_p15, fun _ h => absurd h List.not_mem_nil⟩⟩⟩⟩⟩⟩⟩⟩⟩⟩⟩⟩⟩⟩⟩⟩
theorem lw_p16 : lw_okq (⟨"LimpMirror$Chains", "addChain", "(I)V"⟩, 5) := ⟨⟨by decide +kernel, by decide +kernel⟩, List.mem_of_getElem? (i := 85) (by decide +kernel), List.mem_of_getElem? (i := 714) (by decide +kernel), List.mem_of_getElem? (i := 715) (by decide +kernel)⟩
theorem lw_p17 : lw_okq (⟨"LimpMirror", "leastPick", "(II)I"⟩, 16) := ⟨⟨by decide +kernel, by decide +kernel⟩, List.mem_of_getElem? (i := 18) (by decide +kernel), List.mem_of_getElem? (i := 738) (by decide +kernel), List.mem_of_getElem? (i := 739) (by decide +kernel)⟩
theorem lw_p18 : lw_okq (⟨"LimpMirror", "isSafeBeforeAll", "(I)Z"⟩, 16) := ⟨⟨by decide +kernel, by decide +kernel⟩, List.mem_of_getElem? (i := 18) (by decide +kernel), List.mem_of_getElem? (i := 742) (by decide +kernel), List.mem_of_getElem? (i := 743) (by decide +kernel)⟩
theorem lw_p19 : lw_okq (⟨"LimpMirror", "breakingOfTwelve", "(LLimpMirror$Pane;LLimpMirror$Cells;II)I"⟩, 16) := ⟨⟨by decide +kernel, by decide +kernel⟩, List.mem_of_getElem? (i := 18) (by decide +kernel), List.mem_of_getElem? (i := 754) (by decide +kernel), List.mem_of_getElem? (i := 755) (by decide +kernel)⟩
theorem lw_p20 : lw_okq (⟨"LimpMirror", "glassesOf", "(I)I"⟩, 16) := ⟨⟨by decide +kernel, by decide +kernel⟩, List.mem_of_getElem? (i := 18) (by decide +kernel), List.mem_of_getElem? (i := 787) (by decide +kernel), List.mem_of_getElem? (i := 788) (by decide +kernel)⟩
theorem lw_p21 : lw_okq (⟨"LimpMirror", "keptOnes", "()I"⟩, 16) := ⟨⟨by decide +kernel, by decide +kernel⟩, List.mem_of_getElem? (i := 18) (by decide +kernel), List.mem_of_getElem? (i := 794) (by decide +kernel), List.mem_of_getElem? (i := 795) (by decide +kernel)⟩
theorem lw_p22 : lw_okq (⟨"LimpMirrorModel", "finds", "(I)I"⟩, 32) := ⟨⟨by decide +kernel, by decide +kernel⟩, List.mem_of_getElem? (i := 816) (by decide +kernel), List.mem_of_getElem? (i := 929) (by decide +kernel), List.mem_of_getElem? (i := 930) (by decide +kernel)⟩
theorem lw_p23 : lw_okq (⟨"LimpMirrorModel", "wrongAt", "(II)I"⟩, 32) := ⟨⟨by decide +kernel, by decide +kernel⟩, List.mem_of_getElem? (i := 816) (by decide +kernel), List.mem_of_getElem? (i := 937) (by decide +kernel), List.mem_of_getElem? (i := 938) (by decide +kernel)⟩
theorem lw_p24 : lw_okq (⟨"LimpMirrorModel", "tells", "(I)I"⟩, 32) := ⟨⟨by decide +kernel, by decide +kernel⟩, List.mem_of_getElem? (i := 816) (by decide +kernel), List.mem_of_getElem? (i := 941) (by decide +kernel), List.mem_of_getElem? (i := 942) (by decide +kernel)⟩
theorem lw_p25 : lw_okq (⟨"LimpMirrorModel", "isRoom", "(I)Z"⟩, 32) := ⟨⟨by decide +kernel, by decide +kernel⟩, List.mem_of_getElem? (i := 816) (by decide +kernel), List.mem_of_getElem? (i := 979) (by decide +kernel), List.mem_of_getElem? (i := 980) (by decide +kernel)⟩
theorem lw_p26 : lw_okq (⟨"LimpMirrorModel", "areHabits", "()Z"⟩, 32) := ⟨⟨by decide +kernel, by decide +kernel⟩, List.mem_of_getElem? (i := 816) (by decide +kernel), List.mem_of_getElem? (i := 983) (by decide +kernel), List.mem_of_getElem? (i := 984) (by decide +kernel)⟩
theorem lw_p27 : lw_okq (⟨"LimpMirrorModel", "skip", "()V"⟩, 32) := ⟨⟨by decide +kernel, by decide +kernel⟩, List.mem_of_getElem? (i := 816) (by decide +kernel), List.mem_of_getElem? (i := 987) (by decide +kernel), List.mem_of_getElem? (i := 988) (by decide +kernel)⟩
theorem lw_p28 : lw_okq (⟨"LimpMirrorModel", "letter", "()I"⟩, 32) := ⟨⟨by decide +kernel, by decide +kernel⟩, List.mem_of_getElem? (i := 816) (by decide +kernel), List.mem_of_getElem? (i := 991) (by decide +kernel), List.mem_of_getElem? (i := 992) (by decide +kernel)⟩
theorem lw_p29 : lw_okq (⟨"LimpMirrorModel", "figure", "(I)I"⟩, 32) := ⟨⟨by decide +kernel, by decide +kernel⟩, List.mem_of_getElem? (i := 816) (by decide +kernel), List.mem_of_getElem? (i := 995) (by decide +kernel), List.mem_of_getElem? (i := 996) (by decide +kernel)⟩
theorem lw_p30 : lw_okq (⟨"LimpMirrorModel", "isGlassItem", "()Z"⟩, 32) := ⟨⟨by decide +kernel, by decide +kernel⟩, List.mem_of_getElem? (i := 816) (by decide +kernel), List.mem_of_getElem? (i := 1002) (by decide +kernel), List.mem_of_getElem? (i := 1003) (by decide +kernel)⟩
theorem lw_p31 : lw_okq (⟨"LimpMirrorModel", "isTermItem", "()Z"⟩, 32) := ⟨⟨by decide +kernel, by decide +kernel⟩, List.mem_of_getElem? (i := 816) (by decide +kernel), List.mem_of_getElem? (i := 1006) (by decide +kernel), List.mem_of_getElem? (i := 1007) (by decide +kernel)⟩
def lw_privs_2 : List (MethodName × Nat) := [(⟨"LimpMirror$Chains", "addChain", "(I)V"⟩, 5), (⟨"LimpMirror", "leastPick", "(II)I"⟩, 16), (⟨"LimpMirror", "isSafeBeforeAll", "(I)Z"⟩, 16), (⟨"LimpMirror", "breakingOfTwelve", "(LLimpMirror$Pane;LLimpMirror$Cells;II)I"⟩, 16), (⟨"LimpMirror", "glassesOf", "(I)I"⟩, 16), (⟨"LimpMirror", "keptOnes", "()I"⟩, 16), (⟨"LimpMirrorModel", "finds", "(I)I"⟩, 32), (⟨"LimpMirrorModel", "wrongAt", "(II)I"⟩, 32), (⟨"LimpMirrorModel", "tells", "(I)I"⟩, 32), (⟨"LimpMirrorModel", "isRoom", "(I)Z"⟩, 32), (⟨"LimpMirrorModel", "areHabits", "()Z"⟩, 32), (⟨"LimpMirrorModel", "skip", "()V"⟩, 32), (⟨"LimpMirrorModel", "letter", "()I"⟩, 32), (⟨"LimpMirrorModel", "figure", "(I)I"⟩, 32), (⟨"LimpMirrorModel", "isGlassItem", "()Z"⟩, 32), (⟨"LimpMirrorModel", "isTermItem", "()Z"⟩, 32)]
theorem lw_r2 : ∀ q ∈ lw_privs_2, lw_okq q := List.forall_mem_cons.mpr ⟨lw_p16, List.forall_mem_cons.mpr ⟨lw_p17, List.forall_mem_cons.mpr ⟨lw_p18, List.forall_mem_cons.mpr ⟨lw_p19, List.forall_mem_cons.mpr ⟨lw_p20, List.forall_mem_cons.mpr ⟨lw_p21, List.forall_mem_cons.mpr ⟨lw_p22, List.forall_mem_cons.mpr ⟨lw_p23, List.forall_mem_cons.mpr ⟨lw_p24, List.forall_mem_cons.mpr ⟨lw_p25, List.forall_mem_cons.mpr ⟨lw_p26, List.forall_mem_cons.mpr ⟨lw_p27, List.forall_mem_cons.mpr ⟨lw_p28, List.forall_mem_cons.mpr ⟨lw_p29, List.forall_mem_cons.mpr ⟨lw_p30, List.forall_mem_cons.mpr ⟨lw_p31, fun _ h => absurd h List.not_mem_nil⟩⟩⟩⟩⟩⟩⟩⟩⟩⟩⟩⟩⟩⟩⟩⟩
theorem lw_p32 : lw_okq (⟨"LimpMirrorModel", "isGlass", "(I)Z"⟩, 32) := ⟨⟨by decide +kernel, by decide +kernel⟩, List.mem_of_getElem? (i := 816) (by decide +kernel), List.mem_of_getElem? (i := 1018) (by decide +kernel), List.mem_of_getElem? (i := 1019) (by decide +kernel)⟩
theorem lw_p33 : lw_okq (⟨"LimpMirrorModel", "brokenBy", "(I)I"⟩, 32) := ⟨⟨by decide +kernel, by decide +kernel⟩, List.mem_of_getElem? (i := 816) (by decide +kernel), List.mem_of_getElem? (i := 1022) (by decide +kernel), List.mem_of_getElem? (i := 1023) (by decide +kernel)⟩
theorem lw_p34 : lw_okq (⟨"LimpMirrorModel", "shownOf", "(I)I"⟩, 32) := ⟨⟨by decide +kernel, by decide +kernel⟩, List.mem_of_getElem? (i := 816) (by decide +kernel), List.mem_of_getElem? (i := 1026) (by decide +kernel), List.mem_of_getElem? (i := 1027) (by decide +kernel)⟩
theorem lw_p35 : lw_okq (⟨"LimpMirrorModel", "showsOf", "(I[II)I"⟩, 32) := ⟨⟨by decide +kernel, by decide +kernel⟩, List.mem_of_getElem? (i := 816) (by decide +kernel), List.mem_of_getElem? (i := 1030) (by decide +kernel), List.mem_of_getElem? (i := 1031) (by decide +kernel)⟩
theorem lw_p36 : lw_okq (⟨"LimpMirrorModel", "showsBy", "(II[II)I"⟩, 32) := ⟨⟨by decide +kernel, by decide +kernel⟩, List.mem_of_getElem? (i := 816) (by decide +kernel), List.mem_of_getElem? (i := 1034) (by decide +kernel), List.mem_of_getElem? (i := 1035) (by decide +kernel)⟩
theorem lw_p37 : lw_okq (⟨"LimpMirrorModel", "termBy", "(II)I"⟩, 32) := ⟨⟨by decide +kernel, by decide +kernel⟩, List.mem_of_getElem? (i := 816) (by decide +kernel), List.mem_of_getElem? (i := 1041) (by decide +kernel), List.mem_of_getElem? (i := 1042) (by decide +kernel)⟩
theorem lw_p38 : lw_okq (⟨"LimpMirrorModel", "doStep", "(II)I"⟩, 32) := ⟨⟨by decide +kernel, by decide +kernel⟩, List.mem_of_getElem? (i := 816) (by decide +kernel), List.mem_of_getElem? (i := 1067) (by decide +kernel), List.mem_of_getElem? (i := 1068) (by decide +kernel)⟩
theorem lw_p39 : lw_okq (⟨"LimpMirrorModel", "brokenMany", "()I"⟩, 32) := ⟨⟨by decide +kernel, by decide +kernel⟩, List.mem_of_getElem? (i := 816) (by decide +kernel), List.mem_of_getElem? (i := 1079) (by decide +kernel), List.mem_of_getElem? (i := 1080) (by decide +kernel)⟩
theorem lw_p40 : lw_okq (⟨"LimpMirrorModel", "takeOut", "(II[I)I"⟩, 32) := ⟨⟨by decide +kernel, by decide +kernel⟩, List.mem_of_getElem? (i := 816) (by decide +kernel), List.mem_of_getElem? (i := 1099) (by decide +kernel), List.mem_of_getElem? (i := 1100) (by decide +kernel)⟩
theorem lw_p41 : lw_okq (⟨"LimpMirrorModel", "layRow", "(II[I)I"⟩, 32) := ⟨⟨by decide +kernel, by decide +kernel⟩, List.mem_of_getElem? (i := 816) (by decide +kernel), List.mem_of_getElem? (i := 1103) (by decide +kernel), List.mem_of_getElem? (i := 1104) (by decide +kernel)⟩
theorem lw_p42 : lw_okq (⟨"LimpMirrorModel", "breaksAt", "(II)Z"⟩, 32) := ⟨⟨by decide +kernel, by decide +kernel⟩, List.mem_of_getElem? (i := 816) (by decide +kernel), List.mem_of_getElem? (i := 1111) (by decide +kernel), List.mem_of_getElem? (i := 1112) (by decide +kernel)⟩
theorem lw_p43 : lw_okq (⟨"LimpMirrorModel", "takeTwo", "(II)I"⟩, 32) := ⟨⟨by decide +kernel, by decide +kernel⟩, List.mem_of_getElem? (i := 816) (by decide +kernel), List.mem_of_getElem? (i := 1123) (by decide +kernel), List.mem_of_getElem? (i := 1124) (by decide +kernel)⟩
theorem lw_p44 : lw_okq (⟨"LimpMirrorModel", "layDoings", "(II)V"⟩, 32) := ⟨⟨by decide +kernel, by decide +kernel⟩, List.mem_of_getElem? (i := 816) (by decide +kernel), List.mem_of_getElem? (i := 1134) (by decide +kernel), List.mem_of_getElem? (i := 1135) (by decide +kernel)⟩
theorem lw_p45 : lw_okq (⟨"LimpMirrorModel", "shows", "(II)Z"⟩, 32) := ⟨⟨by decide +kernel, by decide +kernel⟩, List.mem_of_getElem? (i := 816) (by decide +kernel), List.mem_of_getElem? (i := 1138) (by decide +kernel), List.mem_of_getElem? (i := 1139) (by decide +kernel)⟩
theorem lw_p46 : lw_okq (⟨"LimpMirrorModel", "tellParts", "(JJ)V"⟩, 32) := ⟨⟨by decide +kernel, by decide +kernel⟩, List.mem_of_getElem? (i := 816) (by decide +kernel), List.mem_of_getElem? (i := 1142) (by decide +kernel), List.mem_of_getElem? (i := 1143) (by decide +kernel)⟩
theorem lw_p47 : lw_okq (⟨"LimpMirrorModel", "lawsOf", "(I)I"⟩, 32) := ⟨⟨by decide +kernel, by decide +kernel⟩, List.mem_of_getElem? (i := 816) (by decide +kernel), List.mem_of_getElem? (i := 1158) (by decide +kernel), List.mem_of_getElem? (i := 1159) (by decide +kernel)⟩
def lw_privs_3 : List (MethodName × Nat) := [(⟨"LimpMirrorModel", "isGlass", "(I)Z"⟩, 32), (⟨"LimpMirrorModel", "brokenBy", "(I)I"⟩, 32), (⟨"LimpMirrorModel", "shownOf", "(I)I"⟩, 32), (⟨"LimpMirrorModel", "showsOf", "(I[II)I"⟩, 32), (⟨"LimpMirrorModel", "showsBy", "(II[II)I"⟩, 32), (⟨"LimpMirrorModel", "termBy", "(II)I"⟩, 32), (⟨"LimpMirrorModel", "doStep", "(II)I"⟩, 32), (⟨"LimpMirrorModel", "brokenMany", "()I"⟩, 32), (⟨"LimpMirrorModel", "takeOut", "(II[I)I"⟩, 32), (⟨"LimpMirrorModel", "layRow", "(II[I)I"⟩, 32), (⟨"LimpMirrorModel", "breaksAt", "(II)Z"⟩, 32), (⟨"LimpMirrorModel", "takeTwo", "(II)I"⟩, 32), (⟨"LimpMirrorModel", "layDoings", "(II)V"⟩, 32), (⟨"LimpMirrorModel", "shows", "(II)Z"⟩, 32), (⟨"LimpMirrorModel", "tellParts", "(JJ)V"⟩, 32), (⟨"LimpMirrorModel", "lawsOf", "(I)I"⟩, 32)]
theorem lw_r3 : ∀ q ∈ lw_privs_3, lw_okq q := List.forall_mem_cons.mpr ⟨lw_p32, List.forall_mem_cons.mpr ⟨lw_p33, List.forall_mem_cons.mpr ⟨lw_p34, List.forall_mem_cons.mpr ⟨lw_p35, List.forall_mem_cons.mpr ⟨lw_p36, List.forall_mem_cons.mpr ⟨lw_p37, List.forall_mem_cons.mpr ⟨lw_p38, List.forall_mem_cons.mpr ⟨lw_p39, List.forall_mem_cons.mpr ⟨lw_p40, List.forall_mem_cons.mpr ⟨lw_p41, List.forall_mem_cons.mpr ⟨lw_p42, List.forall_mem_cons.mpr ⟨lw_p43, List.forall_mem_cons.mpr ⟨lw_p44, List.forall_mem_cons.mpr ⟨lw_p45, List.forall_mem_cons.mpr ⟨lw_p46, List.forall_mem_cons.mpr ⟨lw_p47, fun _ h => absurd h List.not_mem_nil⟩⟩⟩⟩⟩⟩⟩⟩⟩⟩⟩⟩⟩⟩⟩⟩
theorem lw_p48 : lw_okq (⟨"LimpMirrorModel", "breaksNone", "(II)Z"⟩, 32) := ⟨⟨by decide +kernel, by decide +kernel⟩, List.mem_of_getElem? (i := 816) (by decide +kernel), List.mem_of_getElem? (i := 1180) (by decide +kernel), List.mem_of_getElem? (i := 1181) (by decide +kernel)⟩
theorem lw_p49 : lw_okq (⟨"LimpMirrorModel", "gameBy", "(I)I"⟩, 32) := ⟨⟨by decide +kernel, by decide +kernel⟩, List.mem_of_getElem? (i := 816) (by decide +kernel), List.mem_of_getElem? (i := 1192) (by decide +kernel), List.mem_of_getElem? (i := 1193) (by decide +kernel)⟩
theorem lw_p50 : lw_okq (⟨"LimpMirrorModel", "isSafe", "(I)Z"⟩, 32) := ⟨⟨by decide +kernel, by decide +kernel⟩, List.mem_of_getElem? (i := 816) (by decide +kernel), List.mem_of_getElem? (i := 1196) (by decide +kernel), List.mem_of_getElem? (i := 1197) (by decide +kernel)⟩
theorem lw_p51 : lw_okq (⟨"LimpMirrorModel", "countOf", "(I)I"⟩, 32) := ⟨⟨by decide +kernel, by decide +kernel⟩, List.mem_of_getElem? (i := 816) (by decide +kernel), List.mem_of_getElem? (i := 1238) (by decide +kernel), List.mem_of_getElem? (i := 1239) (by decide +kernel)⟩
theorem lw_p52 : lw_okq (⟨"LimpMirrorModel", "kindsOf", "(I)I"⟩, 32) := ⟨⟨by decide +kernel, by decide +kernel⟩, List.mem_of_getElem? (i := 816) (by decide +kernel), List.mem_of_getElem? (i := 1242) (by decide +kernel), List.mem_of_getElem? (i := 1243) (by decide +kernel)⟩
theorem lw_p53 : lw_okq (⟨"LimpMirrorModel", "add", "(I)V"⟩, 32) := ⟨⟨by decide +kernel, by decide +kernel⟩, List.mem_of_getElem? (i := 816) (by decide +kernel), List.mem_of_getElem? (i := 1262) (by decide +kernel), List.mem_of_getElem? (i := 1263) (by decide +kernel)⟩
def lw_privs_4 : List (MethodName × Nat) := [(⟨"LimpMirrorModel", "breaksNone", "(II)Z"⟩, 32), (⟨"LimpMirrorModel", "gameBy", "(I)I"⟩, 32), (⟨"LimpMirrorModel", "isSafe", "(I)Z"⟩, 32), (⟨"LimpMirrorModel", "countOf", "(I)I"⟩, 32), (⟨"LimpMirrorModel", "kindsOf", "(I)I"⟩, 32), (⟨"LimpMirrorModel", "add", "(I)V"⟩, 32)]
theorem lw_r4 : ∀ q ∈ lw_privs_4, lw_okq q := List.forall_mem_cons.mpr ⟨lw_p48, List.forall_mem_cons.mpr ⟨lw_p49, List.forall_mem_cons.mpr ⟨lw_p50, List.forall_mem_cons.mpr ⟨lw_p51, List.forall_mem_cons.mpr ⟨lw_p52, List.forall_mem_cons.mpr ⟨lw_p53, fun _ h => absurd h List.not_mem_nil⟩⟩⟩⟩⟩⟩
def lw_privs : List (MethodName × Nat) := lw_privs_1 ++ (lw_privs_2 ++ (lw_privs_3 ++ (lw_privs_4)))
def lw_tbl : List Cond := k2_sels lw_privs ++ tables_1
theorem lw_privs_ok : ∀ q ∈ lw_privs, lw_okq q := by
  show ∀ q ∈ lw_privs_1 ++ (lw_privs_2 ++ (lw_privs_3 ++ (lw_privs_4))), lw_okq q
  exact List.forall_mem_append.mpr ⟨lw_r1, List.forall_mem_append.mpr ⟨lw_r2, List.forall_mem_append.mpr ⟨lw_r3, lw_r4⟩⟩⟩
def RX0 : String := "LimpMirror$Cells"
def TX0 : u_T := fun k => match k with
  | 0 => ("LimpMirror$Cells", "cells", "[I", true)
  | _ => ("LimpMirror$Cells", "size", "I", false)
def tyX0 : Nat → FieldType := fun k => match k with
  | 0 => .array .int
  | _ => .int
theorem nmX0 : ∀ a, a < 2 → ∀ b, b < 2 → a ≠ b → (TX0 a).2.1 ≠ (TX0 b).2.1 := by decide +kernel
theorem tyX0_ok : ∀ k, k < 2 → parseFieldDescriptor (TX0 k).2.2.1 = some (tyX0 k) := by decide +kernel
abbrev cX0_init : ByteArray := prog_2_method_1_code
def yX0_init : MethodName := ⟨RX0, "<init>", "(I)V"⟩
abbrev cX0_isMissing : ByteArray := prog_2_method_2_code
def yX0_isMissing : MethodName := ⟨RX0, "isMissing", "()Z"⟩
abbrev cX0_size : ByteArray := prog_2_method_3_code
def yX0_size : MethodName := ⟨RX0, "size", "()I"⟩
abbrev cX0_has : ByteArray := prog_2_method_4_code
def yX0_has : MethodName := ⟨RX0, "has", "(I)Z"⟩
abbrev cX0_hasPlaces : ByteArray := prog_2_method_5_code
def yX0_hasPlaces : MethodName := ⟨RX0, "hasPlaces", "(II)Z"⟩
abbrev cX0_get : ByteArray := prog_2_method_6_code
def yX0_get : MethodName := ⟨RX0, "get", "(I)I"⟩
abbrev cX0_set : ByteArray := prog_2_method_7_code
def yX0_set : MethodName := ⟨RX0, "set", "(II)V"⟩
abbrev cX0_open : ByteArray := prog_2_method_8_code
def yX0_open : MethodName := ⟨RX0, "open", "(II)V"⟩
abbrev cX0_drop : ByteArray := prog_2_method_9_code
def yX0_drop : MethodName := ⟨RX0, "drop", "()V"⟩
abbrev cX0_take : ByteArray := prog_2_method_10_code
def yX0_take : MethodName := ⟨RX0, "take", "(LLimpMirror$Cells;III)V"⟩
abbrev cX0_takeAll : ByteArray := prog_2_method_11_code
def yX0_takeAll : MethodName := ⟨RX0, "takeAll", "(LLimpMirror$Cells;)V"⟩
abbrev cX0_stepAt : ByteArray := prog_2_method_12_code
def yX0_stepAt : MethodName := ⟨RX0, "stepAt", "(I)I"⟩
def RX1 : String := "LimpMirror$Chains"
def TX1 : u_T := fun k => match k with
  | 0 => ("LimpMirror$Chains", "rowsFrom", "[I", true)
  | 1 => ("LimpMirror$Chains", "stillFrom", "[I", true)
  | 2 => ("LimpMirror$Chains", "rows", "I", false)
  | 3 => ("LimpMirror$Chains", "fewest", "I", false)
  | _ => ("LimpMirror$Chains", "firsts", "I", false)
def tyX1 : Nat → FieldType := fun k => match k with
  | 0 => .array .int
  | 1 => .array .int
  | 2 => .int
  | 3 => .int
  | _ => .int
theorem nmX1 : ∀ a, a < 5 → ∀ b, b < 5 → a ≠ b → (TX1 a).2.1 ≠ (TX1 b).2.1 := by decide +kernel
theorem tyX1_ok : ∀ k, k < 5 → parseFieldDescriptor (TX1 k).2.2.1 = some (tyX1 k) := by decide +kernel
abbrev cX1_init : ByteArray := prog_3_method_1_code
def yX1_init : MethodName := ⟨RX1, "<init>", "()V"⟩
abbrev cX1_rows : ByteArray := prog_3_method_2_code
def yX1_rows : MethodName := ⟨RX1, "rows", "()I"⟩
abbrev cX1_fewestStill : ByteArray := prog_3_method_3_code
def yX1_fewestStill : MethodName := ⟨RX1, "fewestStill", "()I"⟩
abbrev cX1_firstSteps : ByteArray := prog_3_method_4_code
def yX1_firstSteps : MethodName := ⟨RX1, "firstSteps", "()I"⟩
abbrev cX1_weigh : ByteArray := prog_3_method_5_code
def yX1_weigh : MethodName := ⟨RX1, "weigh", "(LLimpMirror$Room;LLimpMirror$Pane;I)V"⟩
abbrev cX1_isHead : ByteArray := prog_3_method_6_code
def yX1_isHead : MethodName := ⟨RX1, "isHead", "(LLimpMirror$Pane;I)Z"⟩
abbrev cX1_heirOf : ByteArray := prog_3_method_7_code
def yX1_heirOf : MethodName := ⟨RX1, "heirOf", "(LLimpMirror$Pane;II)I"⟩
abbrev cX1_weighStep : ByteArray := prog_3_method_8_code
def yX1_weighStep : MethodName := ⟨RX1, "weighStep", "(LLimpMirror$Room;LLimpMirror$Pane;III)V"⟩
abbrev cX1_shownAtHead : ByteArray := prog_3_method_9_code
def yX1_shownAtHead : MethodName := ⟨RX1, "shownAtHead", "(LLimpMirror$Room;LLimpMirror$Pane;II)I"⟩
abbrev cX1_addChain : ByteArray := prog_3_method_10_code
def yX1_addChain : MethodName := ⟨RX1, "addChain", "(I)V"⟩
def RX2 : String := "LimpMirror$Deeds"
def TX2 : u_T := fun k => match k with
  | 0 => ("LimpMirror$Deeds", "facts", "[I", true)
  | _ => ("LimpMirror$Deeds", "size", "I", false)
def tyX2 : Nat → FieldType := fun k => match k with
  | 0 => .array .int
  | _ => .int
theorem nmX2 : ∀ a, a < 2 → ∀ b, b < 2 → a ≠ b → (TX2 a).2.1 ≠ (TX2 b).2.1 := by decide +kernel
theorem tyX2_ok : ∀ k, k < 2 → parseFieldDescriptor (TX2 k).2.2.1 = some (tyX2 k) := by decide +kernel
abbrev cX2_init : ByteArray := prog_4_method_1_code
def yX2_init : MethodName := ⟨RX2, "<init>", "()V"⟩
abbrev cX2_size : ByteArray := prog_4_method_2_code
def yX2_size : MethodName := ⟨RX2, "size", "()I"⟩
abbrev cX2_isMissing : ByteArray := prog_4_method_3_code
def yX2_isMissing : MethodName := ⟨RX2, "isMissing", "()Z"⟩
abbrev cX2_drop : ByteArray := prog_4_method_4_code
def yX2_drop : MethodName := ⟨RX2, "drop", "()V"⟩
abbrev cX2_fact : ByteArray := prog_4_method_5_code
def yX2_fact : MethodName := ⟨RX2, "fact", "(II)I"⟩
abbrev cX2_write : ByteArray := prog_4_method_6_code
def yX2_write : MethodName := ⟨RX2, "write", "(III)V"⟩
abbrev cX2_add : ByteArray := prog_4_method_7_code
def yX2_add : MethodName := ⟨RX2, "add", "(II)V"⟩
abbrev cX2_see : ByteArray := prog_4_method_8_code
def yX2_see : MethodName := ⟨RX2, "see", "(III)V"⟩
abbrev cX2_cutTo : ByteArray := prog_4_method_9_code
def yX2_cutTo : MethodName := ⟨RX2, "cutTo", "(I)V"⟩
abbrev cX2_takeAll : ByteArray := prog_4_method_10_code
def yX2_takeAll : MethodName := ⟨RX2, "takeAll", "(LLimpMirror$Deeds;)V"⟩
abbrev cX2_howManyBefore : ByteArray := prog_4_method_11_code
def yX2_howManyBefore : MethodName := ⟨RX2, "howManyBefore", "(I)I"⟩
abbrev cX2_howManyBrokeBefore : ByteArray := prog_4_method_12_code
def yX2_howManyBrokeBefore : MethodName := ⟨RX2, "howManyBrokeBefore", "(I)I"⟩
abbrev cX2_howManyBroke : ByteArray := prog_4_method_13_code
def yX2_howManyBroke : MethodName := ⟨RX2, "howManyBroke", "(I)I"⟩
abbrev cX2_firstThatBroke : ByteArray := prog_4_method_14_code
def yX2_firstThatBroke : MethodName := ⟨RX2, "firstThatBroke", "()I"⟩
abbrev cX2_stepAt : ByteArray := prog_4_method_15_code
def yX2_stepAt : MethodName := ⟨RX2, "stepAt", "(I)I"⟩
def RX3 : String := "LimpMirror$Doings"
def TX3 : u_T := fun k => match k with
  | _ => ("", "", "", false)
def tyX3 : Nat → FieldType := fun k => match k with
  | _ => .int
theorem nmX3 : ∀ a, a < 0 → ∀ b, b < 0 → a ≠ b → (TX3 a).2.1 ≠ (TX3 b).2.1 := by decide +kernel
theorem tyX3_ok : ∀ k, k < 0 → parseFieldDescriptor (TX3 k).2.2.1 = some (tyX3 k) := by decide +kernel
abbrev cX3_init : ByteArray := prog_5_method_1_code
def yX3_init : MethodName := ⟨RX3, "<init>", "()V"⟩
def RX4 : String := "LimpMirror$Friend"
def TX4 : u_T := fun k => match k with
  | 0 => ("LimpMirror$Pane", "kind", "I", true)
  | _ => ("LimpMirror$Pane", "delay", "I", true)
def tyX4 : Nat → FieldType := fun k => match k with
  | 0 => .int
  | _ => .int
theorem nmX4 : ∀ a, a < 2 → ∀ b, b < 2 → a ≠ b → (TX4 a).2.1 ≠ (TX4 b).2.1 := by decide +kernel
theorem tyX4_ok : ∀ k, k < 2 → parseFieldDescriptor (TX4 k).2.2.1 = some (tyX4 k) := by decide +kernel
abbrev cX4_init : ByteArray := prog_6_method_1_code
def yX4_init : MethodName := ⟨RX4, "<init>", "(II)V"⟩
abbrev cX4_source : ByteArray := prog_6_method_2_code
def yX4_source : MethodName := ⟨RX4, "source", "(I)I"⟩
abbrev cX4_thinks : ByteArray := prog_6_method_3_code
def yX4_thinks : MethodName := ⟨RX4, "thinks", "(I)Z"⟩
def RX5 : String := "LimpMirror$Late"
def TX5 : u_T := fun k => match k with
  | 0 => ("LimpMirror$Pane", "kind", "I", true)
  | _ => ("LimpMirror$Pane", "delay", "I", true)
def tyX5 : Nat → FieldType := fun k => match k with
  | 0 => .int
  | _ => .int
theorem nmX5 : ∀ a, a < 2 → ∀ b, b < 2 → a ≠ b → (TX5 a).2.1 ≠ (TX5 b).2.1 := by decide +kernel
theorem tyX5_ok : ∀ k, k < 2 → parseFieldDescriptor (TX5 k).2.2.1 = some (tyX5 k) := by decide +kernel
abbrev cX5_init : ByteArray := prog_7_method_1_code
def yX5_init : MethodName := ⟨RX5, "<init>", "(II)V"⟩
abbrev cX5_source : ByteArray := prog_7_method_2_code
def yX5_source : MethodName := ⟨RX5, "source", "(I)I"⟩
abbrev cX5_isOf : ByteArray := prog_7_method_3_code
def yX5_isOf : MethodName := ⟨RX5, "isOf", "(I)Z"⟩
def RX6 : String := "LimpMirror$Limp"
def TX6 : u_T := fun k => match k with
  | 0 => ("LimpMirror$Pane", "kind", "I", true)
  | _ => ("LimpMirror$Pane", "delay", "I", true)
def tyX6 : Nat → FieldType := fun k => match k with
  | 0 => .int
  | _ => .int
theorem nmX6 : ∀ a, a < 2 → ∀ b, b < 2 → a ≠ b → (TX6 a).2.1 ≠ (TX6 b).2.1 := by decide +kernel
theorem tyX6_ok : ∀ k, k < 2 → parseFieldDescriptor (TX6 k).2.2.1 = some (tyX6 k) := by decide +kernel
abbrev cX6_init : ByteArray := prog_8_method_1_code
def yX6_init : MethodName := ⟨RX6, "<init>", "(II)V"⟩
abbrev cX6_source : ByteArray := prog_8_method_2_code
def yX6_source : MethodName := ⟨RX6, "source", "(I)I"⟩
abbrev cX6_placesToLimp : ByteArray := prog_8_method_3_code
def yX6_placesToLimp : MethodName := ⟨RX6, "placesToLimp", "(I)I"⟩
def RX7 : String := "LimpMirror$Pane"
def TX7 : u_T := fun k => match k with
  | 0 => ("LimpMirror$Pane", "kind", "I", true)
  | _ => ("LimpMirror$Pane", "delay", "I", true)
def tyX7 : Nat → FieldType := fun k => match k with
  | 0 => .int
  | _ => .int
theorem nmX7 : ∀ a, a < 2 → ∀ b, b < 2 → a ≠ b → (TX7 a).2.1 ≠ (TX7 b).2.1 := by decide +kernel
theorem tyX7_ok : ∀ k, k < 2 → parseFieldDescriptor (TX7 k).2.2.1 = some (tyX7 k) := by decide +kernel
abbrev cX7_init : ByteArray := prog_9_method_1_code
def yX7_init : MethodName := ⟨RX7, "<init>", "(II)V"⟩
abbrev cX7_kind : ByteArray := prog_9_method_2_code
def yX7_kind : MethodName := ⟨RX7, "kind", "()I"⟩
abbrev cX7_delay : ByteArray := prog_9_method_3_code
def yX7_delay : MethodName := ⟨RX7, "delay", "()I"⟩
abbrev cX7_isOf : ByteArray := prog_9_method_4_code
def yX7_isOf : MethodName := ⟨RX7, "isOf", "(I)Z"⟩
abbrev cX7_source : ByteArray := prog_9_method_5_code
def yX7_source : MethodName := ⟨RX7, "source", "(I)I"⟩
abbrev cX7_thinks : ByteArray := prog_9_method_6_code
def yX7_thinks : MethodName := ⟨RX7, "thinks", "(I)Z"⟩
abbrev cX7_isOdd : ByteArray := prog_9_method_7_code
def yX7_isOdd : MethodName := ⟨RX7, "isOdd", "(I)Z"⟩
def RX8 : String := "LimpMirror$Room"
def TX8 : u_T := fun k => match k with
  | 0 => ("LimpMirror$Room", "habits", "[I", true)
  | 1 => ("LimpMirror$Room", "glassLaws", "[I", true)
  | 2 => ("LimpMirror$Room", "glasses", "I", false)
  | 3 => ("LimpMirror$Room", "termSteps", "[I", true)
  | _ => ("LimpMirror$Room", "terms", "I", false)
def tyX8 : Nat → FieldType := fun k => match k with
  | 0 => .array .int
  | 1 => .array .int
  | 2 => .int
  | 3 => .array .int
  | _ => .int
theorem nmX8 : ∀ a, a < 5 → ∀ b, b < 5 → a ≠ b → (TX8 a).2.1 ≠ (TX8 b).2.1 := by decide +kernel
theorem tyX8_ok : ∀ k, k < 5 → parseFieldDescriptor (TX8 k).2.2.1 = some (tyX8 k) := by decide +kernel
abbrev cX8_init : ByteArray := prog_10_method_1_code
def yX8_init : MethodName := ⟨RX8, "<init>", "()V"⟩
abbrev cX8_glasses : ByteArray := prog_10_method_2_code
def yX8_glasses : MethodName := ⟨RX8, "glasses", "()I"⟩
abbrev cX8_terms : ByteArray := prog_10_method_3_code
def yX8_terms : MethodName := ⟨RX8, "terms", "()I"⟩
abbrev cX8_lawOf : ByteArray := prog_10_method_4_code
def yX8_lawOf : MethodName := ⟨RX8, "lawOf", "(I)I"⟩
abbrev cX8_termStep : ByteArray := prog_10_method_5_code
def yX8_termStep : MethodName := ⟨RX8, "termStep", "(II)I"⟩
abbrev cX8_thought : ByteArray := prog_10_method_6_code
def yX8_thought : MethodName := ⟨RX8, "thought", "(I)I"⟩
abbrev cX8_seen : ByteArray := prog_10_method_7_code
def yX8_seen : MethodName := ⟨RX8, "seen", "(LLimpMirror$Pane;II)I"⟩
abbrev cX8_shown : ByteArray := prog_10_method_8_code
def yX8_shown : MethodName := ⟨RX8, "shown", "(LLimpMirror$Pane;LLimpMirror$Doings;I)I"⟩
abbrev cX8_stepsSeenAs : ByteArray := prog_10_method_9_code
def yX8_stepsSeenAs : MethodName := ⟨RX8, "stepsSeenAs", "(LLimpMirror$Pane;II)I"⟩
abbrev cX8_firstBroken : ByteArray := prog_10_method_10_code
def yX8_firstBroken : MethodName := ⟨RX8, "firstBroken", "(II)I"⟩
abbrev cX8_isBroken : ByteArray := prog_10_method_11_code
def yX8_isBroken : MethodName := ⟨RX8, "isBroken", "(II)Z"⟩
abbrev cX8_read : ByteArray := prog_10_method_12_code
def yX8_read : MethodName := ⟨RX8, "read", "(LLimpMirror$Cells;)I"⟩
abbrev cX8_readItems : ByteArray := prog_10_method_13_code
def yX8_readItems : MethodName := ⟨RX8, "readItems", "(LLimpMirror$Cells;I)I"⟩
abbrev cX8_readGlass : ByteArray := prog_10_method_14_code
def yX8_readGlass : MethodName := ⟨RX8, "readGlass", "(LLimpMirror$Cells;I)I"⟩
abbrev cX8_readTerm : ByteArray := prog_10_method_15_code
def yX8_readTerm : MethodName := ⟨RX8, "readTerm", "(LLimpMirror$Cells;I)I"⟩
abbrev cX8_kindOf : ByteArray := prog_10_method_16_code
def yX8_kindOf : MethodName := ⟨RX8, "kindOf", "(I)I"⟩
abbrev cX8_afterBlanks : ByteArray := prog_10_method_17_code
def yX8_afterBlanks : MethodName := ⟨RX8, "afterBlanks", "(LLimpMirror$Cells;I)I"⟩
abbrev cX8_isFigure : ByteArray := prog_10_method_18_code
def yX8_isFigure : MethodName := ⟨RX8, "isFigure", "(LLimpMirror$Cells;II)Z"⟩
def RX9 : String := "LimpMirror$Thin"
def TX9 : u_T := fun k => match k with
  | 0 => ("LimpMirror$Pane", "kind", "I", true)
  | _ => ("LimpMirror$Pane", "delay", "I", true)
def tyX9 : Nat → FieldType := fun k => match k with
  | 0 => .int
  | _ => .int
theorem nmX9 : ∀ a, a < 2 → ∀ b, b < 2 → a ≠ b → (TX9 a).2.1 ≠ (TX9 b).2.1 := by decide +kernel
theorem tyX9_ok : ∀ k, k < 2 → parseFieldDescriptor (TX9 k).2.2.1 = some (tyX9 k) := by decide +kernel
abbrev cX9_init : ByteArray := prog_11_method_1_code
def yX9_init : MethodName := ⟨RX9, "<init>", "(II)V"⟩
abbrev cX9_source : ByteArray := prog_11_method_2_code
def yX9_source : MethodName := ⟨RX9, "source", "(I)I"⟩
abbrev cX9_isOf : ByteArray := prog_11_method_3_code
def yX9_isOf : MethodName := ⟨RX9, "isOf", "(I)Z"⟩
def RX10 : String := "LimpMirror$Thought"
def TX10 : u_T := fun k => match k with
  | 0 => ("LimpMirror$Pane", "kind", "I", true)
  | _ => ("LimpMirror$Pane", "delay", "I", true)
def tyX10 : Nat → FieldType := fun k => match k with
  | 0 => .int
  | _ => .int
theorem nmX10 : ∀ a, a < 2 → ∀ b, b < 2 → a ≠ b → (TX10 a).2.1 ≠ (TX10 b).2.1 := by decide +kernel
theorem tyX10_ok : ∀ k, k < 2 → parseFieldDescriptor (TX10 k).2.2.1 = some (tyX10 k) := by decide +kernel
abbrev cX10_init : ByteArray := prog_12_method_1_code
def yX10_init : MethodName := ⟨RX10, "<init>", "(II)V"⟩
abbrev cX10_thinks : ByteArray := prog_12_method_2_code
def yX10_thinks : MethodName := ⟨RX10, "thinks", "(I)Z"⟩
def RX11 : String := "LimpMirror"
def TX11 : u_T := fun k => match k with
  | 0 => ("LimpMirror", "rows", "[LLimpMirror$Cells;", true)
  | 1 => ("LimpMirror", "texts", "[LLimpMirror$Cells;", true)
  | 2 => ("LimpMirror", "panes", "[LLimpMirror$Pane;", true)
  | 3 => ("LimpMirror", "deeds", "LLimpMirror$Deeds;", true)
  | 4 => ("LimpMirror", "kept", "[LLimpMirror$Deeds;", true)
  | 5 => ("LimpMirror", "room", "LLimpMirror$Room;", false)
  | 6 => ("LimpMirror", "draft", "LLimpMirror$Room;", false)
  | 7 => ("LimpMirror", "trial", "LLimpMirror$Cells;", true)
  | 8 => ("LimpMirror", "sets", "[I", true)
  | 9 => ("LimpMirror", "tally", "[I", true)
  | 10 => ("LimpMirror", "chains", "LLimpMirror$Chains;", true)
  | 11 => ("LimpMirror", "told", "I", false)
  | 12 => ("LimpMirror", "over", "J", false)
  | 13 => ("LimpMirror", "under", "J", false)
  | 14 => ("LimpMirror", "latestFinding", "I", false)
  | _ => ("LimpMirror", "findingCounts", "[I", true)
def tyX11 : Nat → FieldType := fun k => match k with
  | 0 => .array (.object "LimpMirror$Cells")
  | 1 => .array (.object "LimpMirror$Cells")
  | 2 => .array (.object "LimpMirror$Pane")
  | 3 => .object "LimpMirror$Deeds"
  | 4 => .array (.object "LimpMirror$Deeds")
  | 5 => .object "LimpMirror$Room"
  | 6 => .object "LimpMirror$Room"
  | 7 => .object "LimpMirror$Cells"
  | 8 => .array .int
  | 9 => .array .int
  | 10 => .object "LimpMirror$Chains"
  | 11 => .int
  | 12 => .long
  | 13 => .long
  | 14 => .int
  | _ => .array .int
theorem nmX11 : ∀ a, a < 16 → ∀ b, b < 16 → a ≠ b → (TX11 a).2.1 ≠ (TX11 b).2.1 := by decide +kernel
theorem tyX11_ok : ∀ k, k < 16 → parseFieldDescriptor (TX11 k).2.2.1 = some (tyX11 k) := by decide +kernel
abbrev cX11_init : ByteArray := prog_1_method_1_code
def yX11_init : MethodName := ⟨RX11, "<init>", "()V"⟩
abbrev cX11_row : ByteArray := prog_1_method_2_code
def yX11_row : MethodName := ⟨RX11, "row", "(II)I"⟩
abbrev cX11_lay : ByteArray := prog_1_method_3_code
def yX11_lay : MethodName := ⟨RX11, "lay", "(III)I"⟩
abbrev cX11_at : ByteArray := prog_1_method_4_code
def yX11_at : MethodName := ⟨RX11, "at", "(II)I"⟩
abbrev cX11_tear : ByteArray := prog_1_method_5_code
def yX11_tear : MethodName := ⟨RX11, "tear", "(I)I"⟩
abbrev cX11_copy : ByteArray := prog_1_method_6_code
def yX11_copy : MethodName := ⟨RX11, "copy", "(IIIII)I"⟩
abbrev cX11_mean : ByteArray := prog_1_method_7_code
def yX11_mean : MethodName := ⟨RX11, "mean", "(I)I"⟩
abbrev cX11_text : ByteArray := prog_1_method_8_code
def yX11_text : MethodName := ⟨RX11, "text", "(II)I"⟩
abbrev cX11_put : ByteArray := prog_1_method_9_code
def yX11_put : MethodName := ⟨RX11, "put", "(III)I"⟩
abbrev cX11_fault : ByteArray := prog_1_method_10_code
def yX11_fault : MethodName := ⟨RX11, "fault", "(I)I"⟩
abbrev cX11_room : ByteArray := prog_1_method_11_code
def yX11_room : MethodName := ⟨RX11, "room", "(I)I"⟩
abbrev cX11_glass : ByteArray := prog_1_method_12_code
def yX11_glass : MethodName := ⟨RX11, "glass", "(II)I"⟩
abbrev cX11_mark : ByteArray := prog_1_method_13_code
def yX11_mark : MethodName := ⟨RX11, "mark", "(II)I"⟩
abbrev cX11_habit : ByteArray := prog_1_method_14_code
def yX11_habit : MethodName := ⟨RX11, "habit", "(I)I"⟩
abbrev cX11_term : ByteArray := prog_1_method_15_code
def yX11_term : MethodName := ⟨RX11, "term", "(II)I"⟩
abbrev cX11_step : ByteArray := prog_1_method_16_code
def yX11_step : MethodName := ⟨RX11, "step", "(II)I"⟩
abbrev cX11_deed : ByteArray := prog_1_method_17_code
def yX11_deed : MethodName := ⟨RX11, "deed", "(II)I"⟩
abbrev cX11_broken : ByteArray := prog_1_method_18_code
def yX11_broken : MethodName := ⟨RX11, "broken", "()I"⟩
abbrev cX11_undo : ByteArray := prog_1_method_19_code
def yX11_undo : MethodName := ⟨RX11, "undo", "(I)I"⟩
abbrev cX11_keep : ByteArray := prog_1_method_20_code
def yX11_keep : MethodName := ⟨RX11, "keep", "(I)I"⟩
abbrev cX11_on : ByteArray := prog_1_method_21_code
def yX11_on : MethodName := ⟨RX11, "on", "(I)I"⟩
abbrev cX11_show : ByteArray := prog_1_method_22_code
def yX11_show : MethodName := ⟨RX11, "show", "(III)I"⟩
abbrev cX11_breaks : ByteArray := prog_1_method_23_code
def yX11_breaks : MethodName := ⟨RX11, "breaks", "(II)I"⟩
abbrev cX11_alike : ByteArray := prog_1_method_24_code
def yX11_alike : MethodName := ⟨RX11, "alike", "(II)I"⟩
abbrev cX11_fit : ByteArray := prog_1_method_25_code
def yX11_fit : MethodName := ⟨RX11, "fit", "(II)I"⟩
abbrev cX11_ways : ByteArray := prog_1_method_26_code
def yX11_ways : MethodName := ⟨RX11, "ways", "(II)I"⟩
abbrev cX11_first : ByteArray := prog_1_method_27_code
def yX11_first : MethodName := ⟨RX11, "first", "(III)I"⟩
abbrev cX11_can : ByteArray := prog_1_method_28_code
def yX11_can : MethodName := ⟨RX11, "can", "(III)I"⟩
abbrev cX11_laws : ByteArray := prog_1_method_29_code
def yX11_laws : MethodName := ⟨RX11, "laws", "(II)I"⟩
abbrev cX11_next : ByteArray := prog_1_method_30_code
def yX11_next : MethodName := ⟨RX11, "next", "(II)I"⟩
abbrev cX11_he : ByteArray := prog_1_method_31_code
def yX11_he : MethodName := ⟨RX11, "he", "(III)I"⟩
abbrev cX11_keeps : ByteArray := prog_1_method_32_code
def yX11_keeps : MethodName := ⟨RX11, "keeps", "(II)I"⟩
abbrev cX11_still : ByteArray := prog_1_method_33_code
def yX11_still : MethodName := ⟨RX11, "still", "(II)I"⟩
abbrev cX11_game : ByteArray := prog_1_method_34_code
def yX11_game : MethodName := ⟨RX11, "game", "(I)I"⟩
abbrev cX11_picks : ByteArray := prog_1_method_35_code
def yX11_picks : MethodName := ⟨RX11, "picks", "(I)I"⟩
abbrev cX11_odds : ByteArray := prog_1_method_36_code
def yX11_odds : MethodName := ⟨RX11, "odds", "(III)I"⟩
abbrev cX11_mid : ByteArray := prog_1_method_37_code
def yX11_mid : MethodName := ⟨RX11, "mid", "(III)I"⟩
abbrev cX11_lots : ByteArray := prog_1_method_38_code
def yX11_lots : MethodName := ⟨RX11, "lots", "(II)I"⟩
abbrev cX11_asked : ByteArray := prog_1_method_39_code
def yX11_asked : MethodName := ⟨RX11, "asked", "()I"⟩
abbrev cX11_upper : ByteArray := prog_1_method_40_code
def yX11_upper : MethodName := ⟨RX11, "upper", "()J"⟩
abbrev cX11_lower : ByteArray := prog_1_method_41_code
def yX11_lower : MethodName := ⟨RX11, "lower", "()J"⟩
abbrev cX11_count : ByteArray := prog_1_method_42_code
def yX11_count : MethodName := ⟨RX11, "count", "(I)I"⟩
abbrev cX11_finding : ByteArray := prog_1_method_43_code
def yX11_finding : MethodName := ⟨RX11, "finding", "()I"⟩
abbrev cX11_findings : ByteArray := prog_1_method_44_code
def yX11_findings : MethodName := ⟨RX11, "findings", "(I)I"⟩
abbrev cX11_digest : ByteArray := prog_1_method_45_code
def yX11_digest : MethodName := ⟨RX11, "digest", "()J"⟩
abbrev cX11_refuse : ByteArray := prog_1_method_46_code
def yX11_refuse : MethodName := ⟨RX11, "refuse", "(I)I"⟩
abbrev cX11_isRow : ByteArray := prog_1_method_47_code
def yX11_isRow : MethodName := ⟨RX11, "isRow", "(I)Z"⟩
abbrev cX11_isText : ByteArray := prog_1_method_48_code
def yX11_isText : MethodName := ⟨RX11, "isText", "(I)Z"⟩
abbrev cX11_isKept : ByteArray := prog_1_method_49_code
def yX11_isKept : MethodName := ⟨RX11, "isKept", "(I)Z"⟩
abbrev cX11_isStep : ByteArray := prog_1_method_50_code
def yX11_isStep : MethodName := ⟨RX11, "isStep", "(I)Z"⟩
abbrev cX11_isGlass : ByteArray := prog_1_method_51_code
def yX11_isGlass : MethodName := ⟨RX11, "isGlass", "(I)Z"⟩
abbrev cX11_findingOfPlace : ByteArray := prog_1_method_52_code
def yX11_findingOfPlace : MethodName := ⟨RX11, "findingOfPlace", "(LLimpMirror$Cells;I)I"⟩
abbrev cX11_findingOfSteps : ByteArray := prog_1_method_53_code
def yX11_findingOfSteps : MethodName := ⟨RX11, "findingOfSteps", "(LLimpMirror$Cells;I)I"⟩
abbrev cX11_findingOfPair : ByteArray := prog_1_method_54_code
def yX11_findingOfPair : MethodName := ⟨RX11, "findingOfPair", "(LLimpMirror$Cells;LLimpMirror$Cells;I)I"⟩
abbrev cX11_newPane : ByteArray := prog_1_method_55_code
def yX11_newPane : MethodName := ⟨RX11, "newPane", "(II)LLimpMirror$Pane;"⟩
abbrev cX11_paneOf : ByteArray := prog_1_method_56_code
def yX11_paneOf : MethodName := ⟨RX11, "paneOf", "(I)LLimpMirror$Pane;"⟩
abbrev cX11_glassFact : ByteArray := prog_1_method_57_code
def yX11_glassFact : MethodName := ⟨RX11, "glassFact", "(II)I"⟩
abbrev cX11_noughtsAtDeeds : ByteArray := prog_1_method_58_code
def yX11_noughtsAtDeeds : MethodName := ⟨RX11, "noughtsAtDeeds", "(LLimpMirror$Pane;)I"⟩
abbrev cX11_doStep : ByteArray := prog_1_method_59_code
def yX11_doStep : MethodName := ⟨RX11, "doStep", "(II)I"⟩
abbrev cX11_glassesOf : ByteArray := prog_1_method_60_code
def yX11_glassesOf : MethodName := ⟨RX11, "glassesOf", "(I)I"⟩
abbrev cX11_keptOnes : ByteArray := prog_1_method_61_code
def yX11_keptOnes : MethodName := ⟨RX11, "keptOnes", "()I"⟩
abbrev cX11_howManyThere : ByteArray := prog_1_method_62_code
def yX11_howManyThere : MethodName := ⟨RX11, "howManyThere", "([LLimpMirror$Cells;)I"⟩
abbrev cX11_digestOf : ByteArray := prog_1_method_63_code
def yX11_digestOf : MethodName := ⟨RX11, "digestOf", "([LLimpMirror$Cells;J)J"⟩
abbrev cX11_findSets : ByteArray := prog_1_method_64_code
def yX11_findSets : MethodName := ⟨RX11, "findSets", "(LLimpMirror$Pane;LLimpMirror$Cells;)Z"⟩
abbrev cX11_leastOf : ByteArray := prog_1_method_65_code
def yX11_leastOf : MethodName := ⟨RX11, "leastOf", "(I)I"⟩
abbrev cX11_firstNotShown : ByteArray := prog_1_method_66_code
def yX11_firstNotShown : MethodName := ⟨RX11, "firstNotShown", "(LLimpMirror$Pane;LLimpMirror$Cells;LLimpMirror$Cells;)I"⟩
abbrev cX11_lawsOf : ByteArray := prog_1_method_67_code
def yX11_lawsOf : MethodName := ⟨RX11, "lawsOf", "(LLimpMirror$Cells;LLimpMirror$Cells;)I"⟩
abbrev cX11_mostThatShowOneThing : ByteArray := prog_1_method_68_code
def yX11_mostThatShowOneThing : MethodName := ⟨RX11, "mostThatShowOneThing", "(II)I"⟩
abbrev cX11_leastPick : ByteArray := prog_1_method_69_code
def yX11_leastPick : MethodName := ⟨RX11, "leastPick", "(II)I"⟩
abbrev cX11_isSafeBeforeAll : ByteArray := prog_1_method_70_code
def yX11_isSafeBeforeAll : MethodName := ⟨RX11, "isSafeBeforeAll", "(I)Z"⟩
abbrev cX11_breakingOfTwelve : ByteArray := prog_1_method_71_code
def yX11_breakingOfTwelve : MethodName := ⟨RX11, "breakingOfTwelve", "(LLimpMirror$Pane;LLimpMirror$Cells;II)I"⟩
abbrev cX11_tell : ByteArray := prog_1_method_72_code
def yX11_tell : MethodName := ⟨RX11, "tell", "(JJ)V"⟩
abbrev cX11_commonDivisor : ByteArray := prog_1_method_73_code
def yX11_commonDivisor : MethodName := ⟨RX11, "commonDivisor", "(JJ)J"⟩
def RX12 : String := "LimpMirrorModel"
def TX12 : u_T := fun k => match k with
  | 0 => ("LimpMirrorModel", "rowSize", "[I", true)
  | 1 => ("LimpMirrorModel", "rowAt", "[I", true)
  | 2 => ("LimpMirrorModel", "textSize", "[I", true)
  | 3 => ("LimpMirrorModel", "textAt", "[I", true)
  | 4 => ("LimpMirrorModel", "readHabit", "[I", true)
  | 5 => ("LimpMirrorModel", "readGlasses", "I", false)
  | 6 => ("LimpMirrorModel", "readGlass", "[I", true)
  | 7 => ("LimpMirrorModel", "readTerms", "I", false)
  | 8 => ("LimpMirrorModel", "readTerm", "[I", true)
  | 9 => ("LimpMirrorModel", "habits", "[I", true)
  | 10 => ("LimpMirrorModel", "glasses", "I", false)
  | 11 => ("LimpMirrorModel", "glassAt", "[I", true)
  | 12 => ("LimpMirrorModel", "terms", "I", false)
  | 13 => ("LimpMirrorModel", "termAt", "[I", true)
  | 14 => ("LimpMirrorModel", "deeds", "I", false)
  | 15 => ("LimpMirrorModel", "did", "[I", true)
  | 16 => ("LimpMirrorModel", "before", "[I", true)
  | 17 => ("LimpMirrorModel", "keptMany", "[I", true)
  | 18 => ("LimpMirrorModel", "keptDid", "[I", true)
  | 19 => ("LimpMirrorModel", "keptBefore", "[I", true)
  | 20 => ("LimpMirrorModel", "asked", "I", false)
  | 21 => ("LimpMirrorModel", "upper", "J", false)
  | 22 => ("LimpMirrorModel", "lower", "J", false)
  | 23 => ("LimpMirrorModel", "found", "I", false)
  | 24 => ("LimpMirrorModel", "times", "[I", true)
  | 25 => ("LimpMirrorModel", "doings", "[I", true)
  | 26 => ("LimpMirrorModel", "other", "[I", true)
  | 27 => ("LimpMirrorModel", "shown", "[I", true)
  | 28 => ("LimpMirrorModel", "position", "I", false)
  | 29 => ("LimpMirrorModel", "from", "I", false)
  | 30 => ("LimpMirrorModel", "size", "I", false)
  | _ => ("LimpMirrorModel", "mix", "J", false)
def tyX12 : Nat → FieldType := fun k => match k with
  | 0 => .array .int
  | 1 => .array .int
  | 2 => .array .int
  | 3 => .array .int
  | 4 => .array .int
  | 5 => .int
  | 6 => .array .int
  | 7 => .int
  | 8 => .array .int
  | 9 => .array .int
  | 10 => .int
  | 11 => .array .int
  | 12 => .int
  | 13 => .array .int
  | 14 => .int
  | 15 => .array .int
  | 16 => .array .int
  | 17 => .array .int
  | 18 => .array .int
  | 19 => .array .int
  | 20 => .int
  | 21 => .long
  | 22 => .long
  | 23 => .int
  | 24 => .array .int
  | 25 => .array .int
  | 26 => .array .int
  | 27 => .array .int
  | 28 => .int
  | 29 => .int
  | 30 => .int
  | _ => .long
theorem nmX12 : ∀ a, a < 32 → ∀ b, b < 32 → a ≠ b → (TX12 a).2.1 ≠ (TX12 b).2.1 := by decide +kernel
theorem tyX12_ok : ∀ k, k < 32 → parseFieldDescriptor (TX12 k).2.2.1 = some (tyX12 k) := by decide +kernel
abbrev cX12_init : ByteArray := prog_14_method_1_code
def yX12_init : MethodName := ⟨RX12, "<init>", "()V"⟩
abbrev cX12_in : ByteArray := prog_14_method_2_code
def yX12_in : MethodName := ⟨RX12, "in", "(III)Z"⟩
abbrev cX12_has : ByteArray := prog_14_method_3_code
def yX12_has : MethodName := ⟨RX12, "has", "(II)Z"⟩
abbrev cX12_finds : ByteArray := prog_14_method_4_code
def yX12_finds : MethodName := ⟨RX12, "finds", "(I)I"⟩
abbrev cX12_tells : ByteArray := prog_14_method_5_code
def yX12_tells : MethodName := ⟨RX12, "tells", "(I)I"⟩
abbrev cX12_tellParts : ByteArray := prog_14_method_6_code
def yX12_tellParts : MethodName := ⟨RX12, "tellParts", "(JJ)V"⟩
abbrev cX12_isRow : ByteArray := prog_14_method_7_code
def yX12_isRow : MethodName := ⟨RX12, "isRow", "(I)Z"⟩
abbrev cX12_isText : ByteArray := prog_14_method_8_code
def yX12_isText : MethodName := ⟨RX12, "isText", "(I)Z"⟩
abbrev cX12_row : ByteArray := prog_14_method_9_code
def yX12_row : MethodName := ⟨RX12, "row", "(II)I"⟩
abbrev cX12_wrongAt : ByteArray := prog_14_method_10_code
def yX12_wrongAt : MethodName := ⟨RX12, "wrongAt", "(II)I"⟩
abbrev cX12_lay : ByteArray := prog_14_method_11_code
def yX12_lay : MethodName := ⟨RX12, "lay", "(III)I"⟩
abbrev cX12_at : ByteArray := prog_14_method_12_code
def yX12_at : MethodName := ⟨RX12, "at", "(II)I"⟩
abbrev cX12_tear : ByteArray := prog_14_method_13_code
def yX12_tear : MethodName := ⟨RX12, "tear", "(I)I"⟩
abbrev cX12_isPart : ByteArray := prog_14_method_14_code
def yX12_isPart : MethodName := ⟨RX12, "isPart", "(III)Z"⟩
abbrev cX12_copy : ByteArray := prog_14_method_15_code
def yX12_copy : MethodName := ⟨RX12, "copy", "(IIIII)I"⟩
abbrev cX12_mean : ByteArray := prog_14_method_16_code
def yX12_mean : MethodName := ⟨RX12, "mean", "(I)I"⟩
abbrev cX12_text : ByteArray := prog_14_method_17_code
def yX12_text : MethodName := ⟨RX12, "text", "(II)I"⟩
abbrev cX12_put : ByteArray := prog_14_method_18_code
def yX12_put : MethodName := ⟨RX12, "put", "(III)I"⟩
abbrev cX12_letter : ByteArray := prog_14_method_19_code
def yX12_letter : MethodName := ⟨RX12, "letter", "()I"⟩
abbrev cX12_skip : ByteArray := prog_14_method_20_code
def yX12_skip : MethodName := ⟨RX12, "skip", "()V"⟩
abbrev cX12_figure : ByteArray := prog_14_method_21_code
def yX12_figure : MethodName := ⟨RX12, "figure", "(I)I"⟩
abbrev cX12_kindBy : ByteArray := prog_14_method_22_code
def yX12_kindBy : MethodName := ⟨RX12, "kindBy", "(I)I"⟩
abbrev cX12_areHabits : ByteArray := prog_14_method_23_code
def yX12_areHabits : MethodName := ⟨RX12, "areHabits", "()Z"⟩
abbrev cX12_isGlassItem : ByteArray := prog_14_method_24_code
def yX12_isGlassItem : MethodName := ⟨RX12, "isGlassItem", "()Z"⟩
abbrev cX12_isTermItem : ByteArray := prog_14_method_25_code
def yX12_isTermItem : MethodName := ⟨RX12, "isTermItem", "()Z"⟩
abbrev cX12_isRoom : ByteArray := prog_14_method_26_code
def yX12_isRoom : MethodName := ⟨RX12, "isRoom", "(I)Z"⟩
abbrev cX12_fault : ByteArray := prog_14_method_27_code
def yX12_fault : MethodName := ⟨RX12, "fault", "(I)I"⟩
abbrev cX12_room : ByteArray := prog_14_method_28_code
def yX12_room : MethodName := ⟨RX12, "room", "(I)I"⟩
abbrev cX12_isGlass : ByteArray := prog_14_method_29_code
def yX12_isGlass : MethodName := ⟨RX12, "isGlass", "(I)Z"⟩
abbrev cX12_isStep : ByteArray := prog_14_method_30_code
def yX12_isStep : MethodName := ⟨RX12, "isStep", "(I)Z"⟩
abbrev cX12_mirrored : ByteArray := prog_14_method_31_code
def yX12_mirrored : MethodName := ⟨RX12, "mirrored", "(I)I"⟩
abbrev cX12_showsBy : ByteArray := prog_14_method_32_code
def yX12_showsBy : MethodName := ⟨RX12, "showsBy", "(II[II)I"⟩
abbrev cX12_showsOf : ByteArray := prog_14_method_33_code
def yX12_showsOf : MethodName := ⟨RX12, "showsOf", "(I[II)I"⟩
abbrev cX12_termBy : ByteArray := prog_14_method_34_code
def yX12_termBy : MethodName := ⟨RX12, "termBy", "(II)I"⟩
abbrev cX12_shownOf : ByteArray := prog_14_method_35_code
def yX12_shownOf : MethodName := ⟨RX12, "shownOf", "(I)I"⟩
abbrev cX12_brokenBy : ByteArray := prog_14_method_36_code
def yX12_brokenBy : MethodName := ⟨RX12, "brokenBy", "(I)I"⟩
abbrev cX12_isOf : ByteArray := prog_14_method_37_code
def yX12_isOf : MethodName := ⟨RX12, "isOf", "(II)Z"⟩
abbrev cX12_glass : ByteArray := prog_14_method_38_code
def yX12_glass : MethodName := ⟨RX12, "glass", "(II)I"⟩
abbrev cX12_mark : ByteArray := prog_14_method_39_code
def yX12_mark : MethodName := ⟨RX12, "mark", "(II)I"⟩
abbrev cX12_habit : ByteArray := prog_14_method_40_code
def yX12_habit : MethodName := ⟨RX12, "habit", "(I)I"⟩
abbrev cX12_term : ByteArray := prog_14_method_41_code
def yX12_term : MethodName := ⟨RX12, "term", "(II)I"⟩
abbrev cX12_doStep : ByteArray := prog_14_method_42_code
def yX12_doStep : MethodName := ⟨RX12, "doStep", "(II)I"⟩
abbrev cX12_step : ByteArray := prog_14_method_43_code
def yX12_step : MethodName := ⟨RX12, "step", "(II)I"⟩
abbrev cX12_deed : ByteArray := prog_14_method_44_code
def yX12_deed : MethodName := ⟨RX12, "deed", "(II)I"⟩
abbrev cX12_brokenMany : ByteArray := prog_14_method_45_code
def yX12_brokenMany : MethodName := ⟨RX12, "brokenMany", "()I"⟩
abbrev cX12_broken : ByteArray := prog_14_method_46_code
def yX12_broken : MethodName := ⟨RX12, "broken", "()I"⟩
abbrev cX12_undo : ByteArray := prog_14_method_47_code
def yX12_undo : MethodName := ⟨RX12, "undo", "(I)I"⟩
abbrev cX12_keep : ByteArray := prog_14_method_48_code
def yX12_keep : MethodName := ⟨RX12, "keep", "(I)I"⟩
abbrev cX12_on : ByteArray := prog_14_method_49_code
def yX12_on : MethodName := ⟨RX12, "on", "(I)I"⟩
abbrev cX12_takeOut : ByteArray := prog_14_method_50_code
def yX12_takeOut : MethodName := ⟨RX12, "takeOut", "(II[I)I"⟩
abbrev cX12_takeTwo : ByteArray := prog_14_method_51_code
def yX12_takeTwo : MethodName := ⟨RX12, "takeTwo", "(II)I"⟩
abbrev cX12_layRow : ByteArray := prog_14_method_52_code
def yX12_layRow : MethodName := ⟨RX12, "layRow", "(II[I)I"⟩
abbrev cX12_show : ByteArray := prog_14_method_53_code
def yX12_show : MethodName := ⟨RX12, "show", "(III)I"⟩
abbrev cX12_breaksAt : ByteArray := prog_14_method_54_code
def yX12_breaksAt : MethodName := ⟨RX12, "breaksAt", "(II)Z"⟩
abbrev cX12_breaks : ByteArray := prog_14_method_55_code
def yX12_breaks : MethodName := ⟨RX12, "breaks", "(II)I"⟩
abbrev cX12_alike : ByteArray := prog_14_method_56_code
def yX12_alike : MethodName := ⟨RX12, "alike", "(II)I"⟩
abbrev cX12_fit : ByteArray := prog_14_method_57_code
def yX12_fit : MethodName := ⟨RX12, "fit", "(II)I"⟩
abbrev cX12_rowsOf : ByteArray := prog_14_method_58_code
def yX12_rowsOf : MethodName := ⟨RX12, "rowsOf", "(I)I"⟩
abbrev cX12_layDoings : ByteArray := prog_14_method_59_code
def yX12_layDoings : MethodName := ⟨RX12, "layDoings", "(II)V"⟩
abbrev cX12_shows : ByteArray := prog_14_method_60_code
def yX12_shows : MethodName := ⟨RX12, "shows", "(II)Z"⟩
abbrev cX12_ways : ByteArray := prog_14_method_61_code
def yX12_ways : MethodName := ⟨RX12, "ways", "(II)I"⟩
abbrev cX12_first : ByteArray := prog_14_method_62_code
def yX12_first : MethodName := ⟨RX12, "first", "(III)I"⟩
abbrev cX12_can : ByteArray := prog_14_method_63_code
def yX12_can : MethodName := ⟨RX12, "can", "(III)I"⟩
abbrev cX12_lawsOf : ByteArray := prog_14_method_64_code
def yX12_lawsOf : MethodName := ⟨RX12, "lawsOf", "(I)I"⟩
abbrev cX12_laws : ByteArray := prog_14_method_65_code
def yX12_laws : MethodName := ⟨RX12, "laws", "(II)I"⟩
abbrev cX12_bits : ByteArray := prog_14_method_66_code
def yX12_bits : MethodName := ⟨RX12, "bits", "(I)I"⟩
abbrev cX12_next : ByteArray := prog_14_method_67_code
def yX12_next : MethodName := ⟨RX12, "next", "(II)I"⟩
abbrev cX12_he : ByteArray := prog_14_method_68_code
def yX12_he : MethodName := ⟨RX12, "he", "(III)I"⟩
abbrev cX12_breaksNone : ByteArray := prog_14_method_69_code
def yX12_breaksNone : MethodName := ⟨RX12, "breaksNone", "(II)Z"⟩
abbrev cX12_keeps : ByteArray := prog_14_method_70_code
def yX12_keeps : MethodName := ⟨RX12, "keeps", "(II)I"⟩
abbrev cX12_still : ByteArray := prog_14_method_71_code
def yX12_still : MethodName := ⟨RX12, "still", "(II)I"⟩
abbrev cX12_isSafe : ByteArray := prog_14_method_72_code
def yX12_isSafe : MethodName := ⟨RX12, "isSafe", "(I)Z"⟩
abbrev cX12_gameBy : ByteArray := prog_14_method_73_code
def yX12_gameBy : MethodName := ⟨RX12, "gameBy", "(I)I"⟩
abbrev cX12_game : ByteArray := prog_14_method_74_code
def yX12_game : MethodName := ⟨RX12, "game", "(I)I"⟩
abbrev cX12_picks : ByteArray := prog_14_method_75_code
def yX12_picks : MethodName := ⟨RX12, "picks", "(I)I"⟩
abbrev cX12_odds : ByteArray := prog_14_method_76_code
def yX12_odds : MethodName := ⟨RX12, "odds", "(III)I"⟩
abbrev cX12_mid : ByteArray := prog_14_method_77_code
def yX12_mid : MethodName := ⟨RX12, "mid", "(III)I"⟩
abbrev cX12_lots : ByteArray := prog_14_method_78_code
def yX12_lots : MethodName := ⟨RX12, "lots", "(II)I"⟩
abbrev cX12_asked : ByteArray := prog_14_method_79_code
def yX12_asked : MethodName := ⟨RX12, "asked", "()I"⟩
abbrev cX12_upper : ByteArray := prog_14_method_80_code
def yX12_upper : MethodName := ⟨RX12, "upper", "()J"⟩
abbrev cX12_lower : ByteArray := prog_14_method_81_code
def yX12_lower : MethodName := ⟨RX12, "lower", "()J"⟩
abbrev cX12_kindsOf : ByteArray := prog_14_method_82_code
def yX12_kindsOf : MethodName := ⟨RX12, "kindsOf", "(I)I"⟩
abbrev cX12_thereOf : ByteArray := prog_14_method_83_code
def yX12_thereOf : MethodName := ⟨RX12, "thereOf", "([II)I"⟩
abbrev cX12_countOf : ByteArray := prog_14_method_84_code
def yX12_countOf : MethodName := ⟨RX12, "countOf", "(I)I"⟩
abbrev cX12_count : ByteArray := prog_14_method_85_code
def yX12_count : MethodName := ⟨RX12, "count", "(I)I"⟩
abbrev cX12_finding : ByteArray := prog_14_method_86_code
def yX12_finding : MethodName := ⟨RX12, "finding", "()I"⟩
abbrev cX12_findings : ByteArray := prog_14_method_87_code
def yX12_findings : MethodName := ⟨RX12, "findings", "(I)I"⟩
abbrev cX12_add : ByteArray := prog_14_method_88_code
def yX12_add : MethodName := ⟨RX12, "add", "(I)V"⟩
abbrev cX12_digest : ByteArray := prog_14_method_89_code
def yX12_digest : MethodName := ⟨RX12, "digest", "()J"⟩
def RJ6 : String := "java/lang/Integer"
def RJ9 : String := "java/lang/Math"
def RJ10 : String := "java/lang/System"
def RL : String := "LimpMirrorLaw"
abbrev cL_law : ByteArray := code
def yL_law : MethodName := ⟨RL, "law", "([I)Z"⟩
abbrev vwCl : List vw_C := [(RX0, TX0, 2), (RX1, TX1, 5), (RX2, TX2, 2), (RX4, TX4, 2), (RX5, TX5, 2), (RX6, TX6, 2), (RX7, TX7, 2), (RX8, TX8, 5), (RX9, TX9, 2), (RX10, TX10, 2), (RX11, TX11, 16), (RX12, TX12, 32)]
end
section
/-! A PURE MACHINE for the printed instructions: cells by their numbers, ints that may be unknown within bounds. -/
abbrev xC : Type := Nat × List Value
abbrev xM : Type := List xC
abbrev xL : Type := List (Nat × Value)
abbrev xO : Type := Option Value × xM × Nat × Nat
abbrev xI : Type := List (List (Nat × Instr × Nat))
/-- the length of an instruction (a switch's stands in its row) -/
def xe_len (i : Instr) (l : Nat) : Nat := match i with
  | .tableswitch _ _ _ _ => l
  | .bipush _ | .iload _ | .aload _ | .lload _ | .istore _ | .astore _ | .lstore _ | .ldc _ | .newarray _ => 2
  | .sipush _ | .ldc2_w _ | .getfield _ | .putfield _ | .getstatic _ | .goto _ | .if_icmp _ _ | .ifCond _ _ | .iinc _ _ | .invokespecial _ | .invokestatic _ | .invokevirtual _ | .new _ | .anewarray _ => 3
  | _ => 1
def xe_lk (tb : xI) (pc : Nat) : Option (Instr × Nat) := match tb[pc / 16]? with
  | none => none
  | some b => match b.find? (fun q => q.1 == pc) with
    | none => none
    | some q => some q.2
def xe_ok (cc : ByteArray) (tb : xI) : Bool := tb.all fun b => b.all fun q => decide (decode cc q.1 = .ok (q.2.1, xe_len q.2.1 q.2.2))
theorem xe_ok_lk {cc : ByteArray} {tb : xI} (h : xe_ok cc tb = true) {pc : Nat} {i : Instr} {l : Nat} (hl : xe_lk tb pc = some (i, l)) : decode cc pc = .ok (i, xe_len i l) := by
  unfold xe_lk at hl
  split at hl
  · cases hl
  · rename_i b hb
    split at hl
    · cases hl
    · rename_i q hq
      have hq2 : q.2 = (i, l) := Option.some.inj hl
      have h1 := List.all_eq_true.mp h b (List.mem_of_getElem? hb)
      have h2 := List.all_eq_true.mp h1 q (List.mem_of_find?_eq_some hq)
      have h3 : q.1 = pc := by simpa using List.find?_some hq
      rw [← h3]
      have h4 := of_decide_eq_true h2
      rw [hq2] at h4
      exact h4
/-- values as the machine has them: a cell's number from B on, an unknown int, an unknown int made long, the script -/
def xe_cv (b B : Nat) (xs : Nat → Int32) : Value → Value
  | .int v => .int v
  | .long v => .long v
  | .null => .null
  | .ref k => .ref (B + k)
  | .float j => .int (xs j.toNat)
  | .double j => .long (xs j.toNat).toInt64
  | .retAddr _ => .ref b
theorem xe_cat (b B : Nat) (xs : Nat → Int32) (v : Value) : (xe_cv b B xs v).category = v.category := by cases v <;> rfl
def xe_in (iv : List (Int32 × Int32)) (xs : Nat → Int32) : Prop := ∀ (j : Nat) (q : Int32 × Int32), iv[j]? = some q → q.1 ≤ xs j ∧ xs j ≤ q.2
/-- a < b, by the bounds where one is unknown -/
def xe_lt (iv : List (Int32 × Int32)) (x y : Value) : Option Bool := match x, y with
  | .int a, .int b => some (decide (a < b))
  | .float j, .int b => match iv[j.toNat]? with
    | some q => if q.2 < b then some true else if b ≤ q.1 then some false else none
    | none => none
  | .int a, .float j => match iv[j.toNat]? with
    | some q => if a < q.1 then some true else if q.2 ≤ a then some false else none
    | none => none
  | _, _ => none
def xe_eq (iv : List (Int32 × Int32)) (x y : Value) : Option Bool := match x, y with
  | .int a, .int b => some (decide (a = b))
  | .float j, .int b => match iv[j.toNat]? with
    | some q => if q.2 < b then some false else if b < q.1 then some false else none
    | none => none
  | .int a, .float j => match iv[j.toNat]? with
    | some q => if a < q.1 then some false else if q.2 < a then some false else none
    | none => none
  | _, _ => none
def xe_cmp (iv : List (Int32 × Int32)) (k : ClassFile.Cond) (x y : Value) : Option Bool := match k with
  | .eq => xe_eq iv x y
  | .ne => match xe_eq iv x y with
    | some b => some (!b)
    | none => none
  | .lt => xe_lt iv x y
  | .ge => match xe_lt iv x y with
    | some b => some (!b)
    | none => none
  | .gt => xe_lt iv y x
  | .le => match xe_lt iv y x with
    | some b => some (!b)
    | none => none
def xe_holds (k : ClassFile.Cond) (x y : Int32) : Bool := match k with
  | .eq => decide (x = y)
  | .ne => decide (¬ x = y)
  | .lt => decide (x < y)
  | .ge => decide (y ≤ x)
  | .gt => decide (y < x)
  | .le => decide (x ≤ y)
section
variable {iv : List (Int32 × Int32)} {xs : Nat → Int32} {b B : Nat}
theorem xe_lt_ok (hi : xe_in iv xs) {x y : Value} {r : Bool} (h : xe_lt iv x y = some r) : ∃ a c, xe_cv b B xs x = .int a ∧ xe_cv b B xs y = .int c ∧ decide (a < c) = r := by
  unfold xe_lt at h
  split at h
  · cases h
    exact ⟨_, _, rfl, rfl, rfl⟩
  · split at h
    · rename_i j c q hq
      have h1 := hi _ q hq
      refine ⟨_, _, rfl, rfl, ?_⟩
      rw [Int32.le_iff_toInt_le, Int32.le_iff_toInt_le] at h1
      split at h
      · rename_i h2
        cases h
        rw [Int32.lt_iff_toInt_lt] at h2
        exact decide_eq_true (Int32.lt_iff_toInt_lt.mpr (by omega))
      · split at h
        · rename_i h2 h3
          cases h
          rw [Int32.le_iff_toInt_le] at h3
          exact decide_eq_false (fun h4 => by rw [Int32.lt_iff_toInt_lt] at h4; omega)
        · cases h
    · cases h
  · split at h
    · rename_i c j q hq
      have h1 := hi _ q hq
      refine ⟨_, _, rfl, rfl, ?_⟩
      rw [Int32.le_iff_toInt_le, Int32.le_iff_toInt_le] at h1
      split at h
      · rename_i h2
        cases h
        rw [Int32.lt_iff_toInt_lt] at h2
        exact decide_eq_true (Int32.lt_iff_toInt_lt.mpr (by omega))
      · split at h
        · rename_i h2 h3
          cases h
          rw [Int32.le_iff_toInt_le] at h3
          exact decide_eq_false (fun h4 => by rw [Int32.lt_iff_toInt_lt] at h4; omega)
        · cases h
    · cases h
  · cases h
theorem xe_eq_ok (hi : xe_in iv xs) {x y : Value} {r : Bool} (h : xe_eq iv x y = some r) : ∃ a c, xe_cv b B xs x = .int a ∧ xe_cv b B xs y = .int c ∧ decide (a = c) = r := by
  unfold xe_eq at h
  split at h
  · cases h
    exact ⟨_, _, rfl, rfl, rfl⟩
  · split at h
    · rename_i j c q hq
      have h1 := hi _ q hq
      refine ⟨_, _, rfl, rfl, ?_⟩
      rw [Int32.le_iff_toInt_le, Int32.le_iff_toInt_le] at h1
      split at h
      · rename_i h2
        cases h
        rw [Int32.lt_iff_toInt_lt] at h2
        exact decide_eq_false (fun h4 => by rw [← Int32.toInt_inj] at h4; omega)
      · split at h
        · rename_i h2 h3
          cases h
          rw [Int32.lt_iff_toInt_lt] at h3
          exact decide_eq_false (fun h4 => by rw [← Int32.toInt_inj] at h4; omega)
        · cases h
    · cases h
  · split at h
    · rename_i c j q hq
      have h1 := hi _ q hq
      refine ⟨_, _, rfl, rfl, ?_⟩
      rw [Int32.le_iff_toInt_le, Int32.le_iff_toInt_le] at h1
      split at h
      · rename_i h2
        cases h
        rw [Int32.lt_iff_toInt_lt] at h2
        exact decide_eq_false (fun h4 => by rw [← Int32.toInt_inj] at h4; omega)
      · split at h
        · rename_i h2 h3
          cases h
          rw [Int32.lt_iff_toInt_lt] at h3
          exact decide_eq_false (fun h4 => by rw [← Int32.toInt_inj] at h4; omega)
        · cases h
    · cases h
  · cases h
theorem xe_cmp_ok (hi : xe_in iv xs) {k : ClassFile.Cond} {x y : Value} {r : Bool} (h : xe_cmp iv k x y = some r) : ∃ a c, xe_cv b B xs x = .int a ∧ xe_cv b B xs y = .int c ∧ xe_holds k a c = r := by
  unfold xe_cmp at h
  cases k with
  | eq => exact xe_eq_ok hi h
  | ne =>
    dsimp only at h
    split at h
    · rename_i r' hr
      cases h
      obtain ⟨a, c, h1, h2, h3⟩ := xe_eq_ok (b := b) (B := B) hi hr
      exact ⟨a, c, h1, h2, by rw [← h3]; unfold xe_holds; by_cases q : a = c <;> simp [q]⟩
    · cases h
  | lt => exact xe_lt_ok hi h
  | ge =>
    dsimp only at h
    split at h
    · rename_i r' hr
      cases h
      obtain ⟨a, c, h1, h2, h3⟩ := xe_lt_ok (b := b) (B := B) hi hr
      exact ⟨a, c, h1, h2, by rw [← h3]; unfold xe_holds; by_cases q : a < c <;> simp [q, Int32.not_lt.mp, Int32.not_le.mpr]⟩
    · cases h
  | gt =>
    obtain ⟨a, c, h1, h2, h3⟩ := xe_lt_ok (b := b) (B := B) hi h
    exact ⟨c, a, h2, h1, h3⟩
  | le =>
    dsimp only at h
    split at h
    · rename_i r' hr
      cases h
      obtain ⟨a, c, h1, h2, h3⟩ := xe_lt_ok (b := b) (B := B) hi hr
      exact ⟨c, a, h2, h1, by rw [← h3]; unfold xe_holds; by_cases q : a < c <;> simp [q, Int32.not_lt.mp, Int32.not_le.mpr]⟩
    · cases h
end
end
section
/-! the words that are kept, by their places -/
def xWC : List (List Cond) := [k2_sels lw_privs, tables_1_1, tables_1_2, tables_1_3, tables_1_4, tables_1_5, tables_1_6]
def xw (q : Nat) : Option Cond := match xWC[q / 1000]? with
  | some r => r[q % 1000]?
  | none => none
def xWS : List Cond := lw_tbl.filter goodWord
theorem xWC_in : ∀ r ∈ xWC, ∀ w ∈ r, w ∈ lw_tbl := List.forall_mem_cons.mpr ⟨fun w h => List.mem_append_left _ h, List.forall_mem_cons.mpr ⟨fun w h => List.mem_append_right _ (List.mem_append_left _ h), List.forall_mem_cons.mpr ⟨fun w h => List.mem_append_right _ (List.mem_append_right _ (List.mem_append_left _ h)), List.forall_mem_cons.mpr ⟨fun w h => List.mem_append_right _ (List.mem_append_right _ (List.mem_append_right _ (List.mem_append_left _ h))), List.forall_mem_cons.mpr ⟨fun w h => List.mem_append_right _ (List.mem_append_right _ (List.mem_append_right _ (List.mem_append_right _ (List.mem_append_left _ h)))), List.forall_mem_cons.mpr ⟨fun w h => List.mem_append_right _ (List.mem_append_right _ (List.mem_append_right _ (List.mem_append_right _ (List.mem_append_right _ (List.mem_append_left _ h))))), List.forall_mem_cons.mpr ⟨fun w h => List.mem_append_right _ (List.mem_append_right _ (List.mem_append_right _ (List.mem_append_right _ (List.mem_append_right _ (List.mem_append_right _ (h)))))), fun _ h => absurd h List.not_mem_nil⟩⟩⟩⟩⟩⟩⟩
theorem xw_in {q : Nat} {w : Cond} (h : xw q = some w) : w ∈ lw_tbl := by
  unfold xw at h
  split at h
  · rename_i r hr
    exact xWC_in r (List.mem_of_getElem? hr) w (List.mem_of_getElem? h)
  · cases h
theorem xw_mem {q : Nat} {w : Cond} (h : xw q = some w) (hg : goodWord w = true) : w ∈ xWS := List.mem_filter.mpr ⟨xw_in h, hg⟩
theorem xWS_good {c : Cond} (hc : c ∈ xWS) : GoodIn xWS (c :: xWS) := fun w h => by
  have h1 : w ∈ xWS := (List.mem_cons.mp h).elim (fun e => e ▸ hc) id
  exact ⟨h1, good_of_word (List.mem_filter.mp h1).2⟩
theorem mw_0 : Cond.fieldLink RX11 11 "LimpMirror" "rows" "[LLimpMirror$Cells;" ∈ xWS := xw_mem (q := 1170) rfl rfl
theorem mw_1 : Cond.fieldLink RX11 15 "LimpMirror" "texts" "[LLimpMirror$Cells;" ∈ xWS := xw_mem (q := 1171) rfl rfl
theorem mw_2 : Cond.fieldLink RX11 20 "LimpMirror" "panes" "[LLimpMirror$Pane;" ∈ xWS := xw_mem (q := 1172) rfl rfl
theorem mw_3 : Cond.fieldLink RX11 27 "LimpMirror" "deeds" "LLimpMirror$Deeds;" ∈ xWS := xw_mem (q := 1173) rfl rfl
theorem mw_4 : Cond.fieldLink RX11 31 "LimpMirror" "kept" "[LLimpMirror$Deeds;" ∈ xWS := xw_mem (q := 1174) rfl rfl
theorem mw_5 : Cond.fieldLink RX11 38 "LimpMirror" "room" "LLimpMirror$Room;" ∈ xWS := xw_mem (q := 1175) rfl rfl
theorem mw_6 : Cond.fieldLink RX11 42 "LimpMirror" "draft" "LLimpMirror$Room;" ∈ xWS := xw_mem (q := 1176) rfl rfl
theorem mw_7 : Cond.fieldLink RX11 48 "LimpMirror" "trial" "LLimpMirror$Cells;" ∈ xWS := xw_mem (q := 1177) rfl rfl
theorem mw_8 : Cond.fieldLink RX11 52 "LimpMirror" "sets" "[I" ∈ xWS := xw_mem (q := 1178) rfl rfl
theorem mw_9 : Cond.fieldLink RX11 56 "LimpMirror" "tally" "[I" ∈ xWS := xw_mem (q := 1179) rfl rfl
theorem mw_10 : Cond.fieldLink RX11 62 "LimpMirror" "chains" "LLimpMirror$Chains;" ∈ xWS := xw_mem (q := 1180) rfl rfl
theorem mw_11 : Cond.fieldLink RX11 66 "LimpMirror" "told" "I" ∈ xWS := xw_mem (q := 1181) rfl rfl
theorem mw_12 : Cond.fieldLink RX11 70 "LimpMirror" "over" "J" ∈ xWS := xw_mem (q := 1182) rfl rfl
theorem mw_13 : Cond.fieldLink RX11 74 "LimpMirror" "under" "J" ∈ xWS := xw_mem (q := 1183) rfl rfl
theorem mw_14 : Cond.fieldLink RX11 77 "LimpMirror" "latestFinding" "I" ∈ xWS := xw_mem (q := 1184) rfl rfl
theorem mw_15 : Cond.fieldLink RX11 80 "LimpMirror" "findingCounts" "[I" ∈ xWS := xw_mem (q := 1185) rfl rfl
theorem mw_16 : Cond.fieldLink RX2 11 "LimpMirror$Deeds" "facts" "[I" ∈ xWS := xw_mem (q := 1038) rfl rfl
theorem mw_17 : Cond.fieldLink RX2 15 "LimpMirror$Deeds" "size" "I" ∈ xWS := xw_mem (q := 1039) rfl rfl
theorem mw_18 : Cond.fieldLink RX8 9 "LimpMirror$Room" "habits" "[I" ∈ xWS := xw_mem (q := 1053) rfl rfl
theorem mw_19 : Cond.fieldLink RX8 15 "LimpMirror$Room" "glassLaws" "[I" ∈ xWS := xw_mem (q := 1054) rfl rfl
theorem mw_20 : Cond.fieldLink RX8 18 "LimpMirror$Room" "glasses" "I" ∈ xWS := xw_mem (q := 1055) rfl rfl
theorem mw_21 : Cond.fieldLink RX8 22 "LimpMirror$Room" "termSteps" "[I" ∈ xWS := xw_mem (q := 1056) rfl rfl
theorem mw_22 : Cond.fieldLink RX8 25 "LimpMirror$Room" "terms" "I" ∈ xWS := xw_mem (q := 1057) rfl rfl
theorem mw_23 : Cond.fieldLink RX0 9 "LimpMirror$Cells" "size" "I" ∈ xWS := xw_mem (q := 1078) rfl rfl
theorem mw_24 : Cond.fieldLink RX0 21 "LimpMirror$Cells" "cells" "[I" ∈ xWS := xw_mem (q := 1077) rfl rfl
theorem mw_25 : Cond.fieldLink RX1 9 "LimpMirror$Chains" "rowsFrom" "[I" ∈ xWS := xw_mem (q := 1090) rfl rfl
theorem mw_26 : Cond.fieldLink RX1 15 "LimpMirror$Chains" "stillFrom" "[I" ∈ xWS := xw_mem (q := 1091) rfl rfl
theorem mw_27 : Cond.fieldLink RX1 18 "LimpMirror$Chains" "rows" "I" ∈ xWS := xw_mem (q := 1092) rfl rfl
theorem mw_28 : Cond.fieldLink RX1 22 "LimpMirror$Chains" "fewest" "I" ∈ xWS := xw_mem (q := 1093) rfl rfl
theorem mw_29 : Cond.fieldLink RX1 25 "LimpMirror$Chains" "firsts" "I" ∈ xWS := xw_mem (q := 1094) rfl rfl
theorem mw_30 : Cond.fieldLink RX7 9 "LimpMirror$Pane" "kind" "I" ∈ xWS := xw_mem (q := 1118) rfl rfl
theorem mw_31 : Cond.fieldLink RX7 15 "LimpMirror$Pane" "delay" "I" ∈ xWS := xw_mem (q := 1119) rfl rfl
theorem mw_32 : Cond.fieldLink RX12 7 "LimpMirrorModel" "rowSize" "[I" ∈ xWS := xw_mem (q := 4101) rfl rfl
theorem mw_33 : Cond.fieldLink RX12 13 "LimpMirrorModel" "rowAt" "[I" ∈ xWS := xw_mem (q := 4102) rfl rfl
theorem mw_34 : Cond.fieldLink RX12 16 "LimpMirrorModel" "textSize" "[I" ∈ xWS := xw_mem (q := 4103) rfl rfl
theorem mw_35 : Cond.fieldLink RX12 19 "LimpMirrorModel" "textAt" "[I" ∈ xWS := xw_mem (q := 4104) rfl rfl
theorem mw_36 : Cond.fieldLink RX12 22 "LimpMirrorModel" "readHabit" "[I" ∈ xWS := xw_mem (q := 4105) rfl rfl
theorem mw_37 : Cond.fieldLink RX12 25 "LimpMirrorModel" "readGlass" "[I" ∈ xWS := xw_mem (q := 4107) rfl rfl
theorem mw_38 : Cond.fieldLink RX12 28 "LimpMirrorModel" "readTerm" "[I" ∈ xWS := xw_mem (q := 4109) rfl rfl
theorem mw_39 : Cond.fieldLink RX12 31 "LimpMirrorModel" "habits" "[I" ∈ xWS := xw_mem (q := 4110) rfl rfl
theorem mw_40 : Cond.fieldLink RX12 34 "LimpMirrorModel" "glassAt" "[I" ∈ xWS := xw_mem (q := 4112) rfl rfl
theorem mw_41 : Cond.fieldLink RX12 37 "LimpMirrorModel" "termAt" "[I" ∈ xWS := xw_mem (q := 4114) rfl rfl
theorem mw_42 : Cond.fieldLink RX12 40 "LimpMirrorModel" "did" "[I" ∈ xWS := xw_mem (q := 4116) rfl rfl
theorem mw_43 : Cond.fieldLink RX12 43 "LimpMirrorModel" "before" "[I" ∈ xWS := xw_mem (q := 4117) rfl rfl
theorem mw_44 : Cond.fieldLink RX12 46 "LimpMirrorModel" "keptMany" "[I" ∈ xWS := xw_mem (q := 4118) rfl rfl
theorem mw_45 : Cond.fieldLink RX12 49 "LimpMirrorModel" "keptDid" "[I" ∈ xWS := xw_mem (q := 4119) rfl rfl
theorem mw_46 : Cond.fieldLink RX12 52 "LimpMirrorModel" "keptBefore" "[I" ∈ xWS := xw_mem (q := 4120) rfl rfl
theorem mw_47 : Cond.fieldLink RX12 55 "LimpMirrorModel" "lower" "J" ∈ xWS := xw_mem (q := 4123) rfl rfl
theorem mw_48 : Cond.fieldLink RX12 59 "LimpMirrorModel" "times" "[I" ∈ xWS := xw_mem (q := 4125) rfl rfl
theorem mw_49 : Cond.fieldLink RX12 62 "LimpMirrorModel" "doings" "[I" ∈ xWS := xw_mem (q := 4126) rfl rfl
theorem mw_50 : Cond.fieldLink RX12 65 "LimpMirrorModel" "other" "[I" ∈ xWS := xw_mem (q := 4127) rfl rfl
theorem mw_51 : Cond.fieldLink RX12 68 "LimpMirrorModel" "shown" "[I" ∈ xWS := xw_mem (q := 4128) rfl rfl
theorem mw_52 : Cond.fieldLink RX12 71 "LimpMirrorModel" "found" "I" ∈ xWS := xw_mem (q := 4124) rfl rfl
theorem mw_53 : Cond.fieldLink RX12 75 "LimpMirrorModel" "asked" "I" ∈ xWS := xw_mem (q := 4121) rfl rfl
theorem mw_54 : Cond.fieldLink RX12 106 "LimpMirrorModel" "position" "I" ∈ xWS := xw_mem (q := 4129) rfl rfl
theorem mw_55 : Cond.fieldLink RX12 112 "LimpMirrorModel" "from" "I" ∈ xWS := xw_mem (q := 4130) rfl rfl
theorem mw_56 : Cond.fieldLink RX12 109 "LimpMirrorModel" "size" "I" ∈ xWS := xw_mem (q := 4131) rfl rfl
theorem mw_57 : Cond.fieldLink RX12 125 "LimpMirrorModel" "readGlasses" "I" ∈ xWS := xw_mem (q := 4106) rfl rfl
theorem mw_58 : Cond.fieldLink RX12 128 "LimpMirrorModel" "readTerms" "I" ∈ xWS := xw_mem (q := 4108) rfl rfl
theorem mw_59 : Cond.fieldLink RX12 147 "LimpMirrorModel" "glasses" "I" ∈ xWS := xw_mem (q := 4111) rfl rfl
theorem mw_60 : Cond.fieldLink RX12 150 "LimpMirrorModel" "terms" "I" ∈ xWS := xw_mem (q := 4113) rfl rfl
theorem mw_61 : Cond.fieldLink RX12 153 "LimpMirrorModel" "deeds" "I" ∈ xWS := xw_mem (q := 4115) rfl rfl
theorem mw_62 : Cond.fieldLink RX12 78 "LimpMirrorModel" "upper" "J" ∈ xWS := xw_mem (q := 4122) rfl rfl
theorem mw_63 : Cond.fieldLink RX12 260 "LimpMirrorModel" "mix" "J" ∈ xWS := xw_mem (q := 4132) rfl rfl
theorem mw_64 : Cond.code yX0_init cX0_init 2 none ∈ xWS := xw_mem (q := 1072) rfl rfl
theorem mw_65 : Cond.initialized RX0 ∈ xWS := xw_mem (q := 1005) rfl rfl
theorem mw_66 : Cond.code yX0_isMissing cX0_isMissing 1 (some .boolean) ∈ xWS := xw_mem (q := 2007) rfl rfl
theorem mw_67 : Cond.code yX0_size cX0_size 1 (some .int) ∈ xWS := xw_mem (q := 2056) rfl rfl
theorem mw_68 : Cond.code yX0_open cX0_open 4 none ∈ xWS := xw_mem (q := 1233) rfl rfl
theorem mw_69 : Cond.code yX1_init cX1_init 1 none ∈ xWS := xw_mem (q := 1088) rfl rfl
theorem mw_70 : Cond.initialized RX1 ∈ xWS := xw_mem (q := 1007) rfl rfl
theorem mw_71 : Cond.code yX2_init cX2_init 1 none ∈ xWS := xw_mem (q := 1033) rfl rfl
theorem mw_72 : Cond.initialized RX2 ∈ xWS := xw_mem (q := 1003) rfl rfl
theorem mw_73 : Cond.code yX2_size cX2_size 1 (some .int) ∈ xWS := xw_mem (q := 2173) rfl rfl
theorem mw_74 : Cond.code yX2_isMissing cX2_isMissing 1 (some .boolean) ∈ xWS := xw_mem (q := 3121) rfl rfl
theorem mw_75 : Cond.code yX2_drop cX2_drop 1 none ∈ xWS := xw_mem (q := 1169) rfl rfl
theorem mw_76 : Cond.code yX2_cutTo cX2_cutTo 2 none ∈ xWS := xw_mem (q := 2109) rfl rfl
theorem mw_77 : Cond.code yX2_howManyBroke cX2_howManyBroke 4 (some .int) ∈ xWS := xw_mem (q := 3097) rfl rfl
theorem mw_78 : Cond.code yX2_firstThatBroke cX2_firstThatBroke 2 (some .int) ∈ xWS := xw_mem (q := 3093) rfl rfl
theorem mw_79 : Cond.code yX3_init cX3_init 1 none ∈ xWS := xw_mem (q := 1036) rfl rfl
theorem mw_80 : Cond.initialized RX3 ∈ xWS := xw_mem (q := 1002) rfl rfl
theorem mw_81 : Cond.code yX4_init cX4_init 3 none ∈ xWS := xw_mem (q := 1156) rfl rfl
theorem mw_82 : Cond.initialized RX4 ∈ xWS := xw_mem (q := 1013) rfl rfl
theorem mw_83 : Cond.code yX5_init cX5_init 3 none ∈ xWS := xw_mem (q := 1113) rfl rfl
theorem mw_84 : Cond.initialized RX5 ∈ xWS := xw_mem (q := 1009) rfl rfl
theorem mw_85 : Cond.code yX6_init cX6_init 3 none ∈ xWS := xw_mem (q := 1147) rfl rfl
theorem mw_86 : Cond.initialized RX6 ∈ xWS := xw_mem (q := 1012) rfl rfl
theorem mw_87 : Cond.code yX7_init cX7_init 3 none ∈ xWS := xw_mem (q := 1116) rfl rfl
theorem mw_88 : Cond.initialized RX7 ∈ xWS := xw_mem (q := 1008) rfl rfl
theorem mw_89 : Cond.code yX8_init cX8_init 1 none ∈ xWS := xw_mem (q := 1051) rfl rfl
theorem mw_90 : Cond.initialized RX8 ∈ xWS := xw_mem (q := 1004) rfl rfl
theorem mw_91 : Cond.code yX8_glasses cX8_glasses 1 (some .int) ∈ xWS := xw_mem (q := 2113) rfl rfl
theorem mw_92 : Cond.code yX8_terms cX8_terms 1 (some .int) ∈ xWS := xw_mem (q := 3051) rfl rfl
theorem mw_93 : Cond.code yX8_thought cX8_thought 2 (some .int) ∈ xWS := xw_mem (q := 3018) rfl rfl
theorem mw_94 : Cond.code yX9_init cX9_init 3 none ∈ xWS := xw_mem (q := 1129) rfl rfl
theorem mw_95 : Cond.initialized RX9 ∈ xWS := xw_mem (q := 1010) rfl rfl
theorem mw_96 : Cond.code yX10_init cX10_init 3 none ∈ xWS := xw_mem (q := 1138) rfl rfl
theorem mw_97 : Cond.initialized RX10 ∈ xWS := xw_mem (q := 1011) rfl rfl
theorem mw_98 : Cond.code yX11_init cX11_init 2 none ∈ xWS := xw_mem (q := 1021) rfl rfl
theorem mw_99 : Cond.initialized RX11 ∈ xWS := xw_mem (q := 1001) rfl rfl
theorem mw_100 : Cond.code yX11_row cX11_row 3 (some .int) ∈ xWS := xw_mem (q := 1222) rfl rfl
theorem mw_101 : Cond.code yX11_lay cX11_lay 5 (some .int) ∈ xWS := xw_mem (q := 2000) rfl rfl
theorem mw_102 : Cond.code yX11_at cX11_at 4 (some .int) ∈ xWS := xw_mem (q := 2024) rfl rfl
theorem mw_103 : Cond.code yX11_tear cX11_tear 2 (some .int) ∈ xWS := xw_mem (q := 2028) rfl rfl
theorem mw_104 : Cond.code yX11_copy cX11_copy 6 (some .int) ∈ xWS := xw_mem (q := 2036) rfl rfl
theorem mw_105 : Cond.code yX11_mean cX11_mean 7 (some .int) ∈ xWS := xw_mem (q := 2052) rfl rfl
theorem mw_106 : Cond.code yX11_text cX11_text 3 (some .int) ∈ xWS := xw_mem (q := 2060) rfl rfl
theorem mw_107 : Cond.code yX11_put cX11_put 6 (some .int) ∈ xWS := xw_mem (q := 2067) rfl rfl
theorem mw_108 : Cond.code yX11_fault cX11_fault 2 (some .int) ∈ xWS := xw_mem (q := 2071) rfl rfl
theorem mw_109 : Cond.code yX11_room cX11_room 4 (some .int) ∈ xWS := xw_mem (q := 2105) rfl rfl
theorem mw_110 : Cond.code yX11_glass cX11_glass 3 (some .int) ∈ xWS := xw_mem (q := 2117) rfl rfl
theorem mw_111 : Cond.code yX11_mark cX11_mark 5 (some .int) ∈ xWS := xw_mem (q := 2169) rfl rfl
theorem mw_112 : Cond.code yX11_habit cX11_habit 2 (some .int) ∈ xWS := xw_mem (q := 3041) rfl rfl
theorem mw_113 : Cond.code yX11_term cX11_term 3 (some .int) ∈ xWS := xw_mem (q := 3047) rfl rfl
theorem mw_114 : Cond.code yX11_step cX11_step 3 (some .int) ∈ xWS := xw_mem (q := 3059) rfl rfl
theorem mw_115 : Cond.code yX11_deed cX11_deed 3 (some .int) ∈ xWS := xw_mem (q := 3084) rfl rfl
theorem mw_116 : Cond.code yX11_broken cX11_broken 1 (some .int) ∈ xWS := xw_mem (q := 3089) rfl rfl
theorem mw_117 : Cond.code yX11_undo cX11_undo 3 (some .int) ∈ xWS := xw_mem (q := 3101) rfl rfl
theorem mw_118 : Cond.code yX11_keep cX11_keep 2 (some .int) ∈ xWS := xw_mem (q := 3105) rfl rfl
theorem mw_119 : Cond.code yX11_on cX11_on 2 (some .int) ∈ xWS := xw_mem (q := 3117) rfl rfl
theorem mw_120 : Cond.code yX11_show cX11_show 8 (some .int) ∈ xWS := xw_mem (q := 3125) rfl rfl
theorem mw_121 : Cond.code yX11_breaks cX11_breaks 8 (some .int) ∈ xWS := xw_mem (q := 3138) rfl rfl
theorem mw_122 : Cond.code yX11_alike cX11_alike 7 (some .int) ∈ xWS := xw_mem (q := 3147) rfl rfl
theorem mw_123 : Cond.code yX11_fit cX11_fit 7 (some .int) ∈ xWS := xw_mem (q := 3151) rfl rfl
theorem mw_124 : Cond.code yX11_ways cX11_ways 7 (some .int) ∈ xWS := xw_mem (q := 3158) rfl rfl
theorem mw_125 : Cond.code yX11_first cX11_first 7 (some .int) ∈ xWS := xw_mem (q := 3175) rfl rfl
theorem mw_126 : Cond.code yX11_can cX11_can 5 (some .int) ∈ xWS := xw_mem (q := 3182) rfl rfl
theorem mw_127 : Cond.code yX11_laws cX11_laws 4 (some .int) ∈ xWS := xw_mem (q := 3186) rfl rfl
theorem mw_128 : Cond.code yX11_next cX11_next 10 (some .int) ∈ xWS := xw_mem (q := 3198) rfl rfl
theorem mw_129 : Cond.code yX11_he cX11_he 7 (some .int) ∈ xWS := xw_mem (q := 3207) rfl rfl
theorem mw_130 : Cond.code yX11_keeps cX11_keeps 3 (some .int) ∈ xWS := xw_mem (q := 3211) rfl rfl
theorem mw_131 : Cond.code yX11_still cX11_still 3 (some .int) ∈ xWS := xw_mem (q := 4008) rfl rfl
theorem mw_132 : Cond.code yX11_game cX11_game 2 (some .int) ∈ xWS := xw_mem (q := 4016) rfl rfl
theorem mw_133 : Cond.code yX11_picks cX11_picks 2 (some .int) ∈ xWS := xw_mem (q := 4028) rfl rfl
theorem mw_134 : Cond.code yX11_odds cX11_odds 10 (some .int) ∈ xWS := xw_mem (q := 4032) rfl rfl
theorem mw_135 : Cond.code yX11_mid cX11_mid 8 (some .int) ∈ xWS := xw_mem (q := 4041) rfl rfl
theorem mw_136 : Cond.code yX11_lots cX11_lots 8 (some .int) ∈ xWS := xw_mem (q := 4045) rfl rfl
theorem mw_137 : Cond.code yX11_asked cX11_asked 1 (some .int) ∈ xWS := xw_mem (q := 4053) rfl rfl
theorem mw_138 : Cond.code yX11_upper cX11_upper 1 (some .long) ∈ xWS := xw_mem (q := 4057) rfl rfl
theorem mw_139 : Cond.code yX11_lower cX11_lower 1 (some .long) ∈ xWS := xw_mem (q := 4061) rfl rfl
theorem mw_140 : Cond.code yX11_count cX11_count 2 (some .int) ∈ xWS := xw_mem (q := 4065) rfl rfl
theorem mw_141 : Cond.code yX11_finding cX11_finding 1 (some .int) ∈ xWS := xw_mem (q := 4080) rfl rfl
theorem mw_142 : Cond.code yX11_findings cX11_findings 2 (some .int) ∈ xWS := xw_mem (q := 4084) rfl rfl
theorem mw_143 : Cond.code yX11_digest cX11_digest 5 (some .long) ∈ xWS := xw_mem (q := 4088) rfl rfl
theorem mw_144 : Cond.code yX11_refuse cX11_refuse 2 (some .int) ∈ xWS := xw_mem (q := 1229) rfl rfl
theorem mw_145 : Cond.code yX11_isRow cX11_isRow 1 (some .boolean) ∈ xWS := xw_mem (q := 1225) rfl rfl
theorem mw_146 : Cond.code yX11_isText cX11_isText 1 (some .boolean) ∈ xWS := xw_mem (q := 2063) rfl rfl
theorem mw_147 : Cond.code yX11_isKept cX11_isKept 1 (some .boolean) ∈ xWS := xw_mem (q := 3108) rfl rfl
theorem mw_148 : Cond.code yX11_isStep cX11_isStep 1 (some .boolean) ∈ xWS := xw_mem (q := 3021) rfl rfl
theorem mw_149 : Cond.code yX11_isGlass cX11_isGlass 2 (some .boolean) ∈ xWS := xw_mem (q := 2121) rfl rfl
theorem mw_150 : Cond.code yX11_findingOfPlace cX11_findingOfPlace 2 (some .int) ∈ xWS := xw_mem (q := 2003) rfl rfl
theorem mw_151 : Cond.code yX11_findingOfSteps cX11_findingOfSteps 3 (some .int) ∈ xWS := xw_mem (q := 3128) rfl rfl
theorem mw_152 : Cond.code yX11_findingOfPair cX11_findingOfPair 4 (some .int) ∈ xWS := xw_mem (q := 3154) rfl rfl
theorem mw_153 : Cond.code yX11_newPane cX11_newPane 2 (some (.object "LimpMirror$Pane")) ∈ xWS := xw_mem (q := 1108) rfl rfl
theorem mw_154 : Cond.code yX11_glassesOf cX11_glassesOf 4 (some .int) ∈ xWS := xw_mem (q := 4069) rfl rfl
theorem mw_155 : Cond.code yX11_keptOnes cX11_keptOnes 3 (some .int) ∈ xWS := xw_mem (q := 4076) rfl rfl
theorem mw_156 : Cond.code yX11_howManyThere cX11_howManyThere 3 (some .int) ∈ xWS := xw_mem (q := 4072) rfl rfl
theorem mw_157 : Cond.code yX11_digestOf cX11_digestOf 7 (some .long) ∈ xWS := xw_mem (q := 4094) rfl rfl
theorem mw_158 : Cond.code yX12_init cX12_init 2 none ∈ xWS := xw_mem (q := 4099) rfl rfl
theorem mw_159 : Cond.initialized RX12 ∈ xWS := xw_mem (q := 1014) rfl rfl
theorem mw_160 : Cond.code yX12_in cX12_in 3 (some .boolean) ∈ xWS := xw_mem (q := 4207) rfl rfl
theorem mw_161 : Cond.code yX12_finds cX12_finds 2 (some .int) ∈ xWS := xw_mem (q := 4211) rfl rfl
theorem mw_162 : Cond.code yX12_isRow cX12_isRow 1 (some .boolean) ∈ xWS := xw_mem (q := 4204) rfl rfl
theorem mw_163 : Cond.code yX12_isText cX12_isText 1 (some .boolean) ∈ xWS := xw_mem (q := 5009) rfl rfl
theorem mw_164 : Cond.code yX12_row cX12_row 4 (some .int) ∈ xWS := xw_mem (q := 4201) rfl rfl
theorem mw_165 : Cond.code yX12_wrongAt cX12_wrongAt 3 (some .int) ∈ xWS := xw_mem (q := 4219) rfl rfl
theorem mw_166 : Cond.code yX12_lay cX12_lay 6 (some .int) ∈ xWS := xw_mem (q := 4215) rfl rfl
theorem mw_167 : Cond.code yX12_at cX12_at 4 (some .int) ∈ xWS := xw_mem (q := 4227) rfl rfl
theorem mw_168 : Cond.code yX12_tear cX12_tear 2 (some .int) ∈ xWS := xw_mem (q := 4231) rfl rfl
theorem mw_169 : Cond.code yX12_copy cX12_copy 9 (some .int) ∈ xWS := xw_mem (q := 4235) rfl rfl
theorem mw_170 : Cond.code yX12_mean cX12_mean 5 (some .int) ∈ xWS := xw_mem (q := 5002) rfl rfl
theorem mw_171 : Cond.code yX12_text cX12_text 4 (some .int) ∈ xWS := xw_mem (q := 5006) rfl rfl
theorem mw_172 : Cond.code yX12_put cX12_put 5 (some .int) ∈ xWS := xw_mem (q := 5013) rfl rfl
theorem mw_173 : Cond.code yX12_fault cX12_fault 2 (some .int) ∈ xWS := xw_mem (q := 5017) rfl rfl
theorem mw_174 : Cond.code yX12_room cX12_room 3 (some .int) ∈ xWS := xw_mem (q := 5052) rfl rfl
theorem mw_175 : Cond.code yX12_isGlass cX12_isGlass 2 (some .boolean) ∈ xWS := xw_mem (q := 5060) rfl rfl
theorem mw_176 : Cond.code yX12_isStep cX12_isStep 1 (some .boolean) ∈ xWS := xw_mem (q := 5097) rfl rfl
theorem mw_177 : Cond.code yX12_glass cX12_glass 5 (some .int) ∈ xWS := xw_mem (q := 5056) rfl rfl
theorem mw_178 : Cond.code yX12_mark cX12_mark 5 (some .int) ∈ xWS := xw_mem (q := 5087) rfl rfl
theorem mw_179 : Cond.code yX12_habit cX12_habit 2 (some .int) ∈ xWS := xw_mem (q := 5094) rfl rfl
theorem mw_180 : Cond.code yX12_term cX12_term 3 (some .int) ∈ xWS := xw_mem (q := 5101) rfl rfl
theorem mw_181 : Cond.code yX12_step cX12_step 3 (some .int) ∈ xWS := xw_mem (q := 5105) rfl rfl
theorem mw_182 : Cond.code yX12_deed cX12_deed 3 (some .int) ∈ xWS := xw_mem (q := 5113) rfl rfl
theorem mw_183 : Cond.code yX12_brokenMany cX12_brokenMany 3 (some .int) ∈ xWS := xw_mem (q := 5121) rfl rfl
theorem mw_184 : Cond.code yX12_broken cX12_broken 3 (some .int) ∈ xWS := xw_mem (q := 5117) rfl rfl
theorem mw_185 : Cond.code yX12_undo cX12_undo 3 (some .int) ∈ xWS := xw_mem (q := 5125) rfl rfl
theorem mw_186 : Cond.code yX12_keep cX12_keep 3 (some .int) ∈ xWS := xw_mem (q := 5129) rfl rfl
theorem mw_187 : Cond.code yX12_on cX12_on 3 (some .int) ∈ xWS := xw_mem (q := 5133) rfl rfl
theorem mw_188 : Cond.code yX12_takeOut cX12_takeOut 6 (some .int) ∈ xWS := xw_mem (q := 5141) rfl rfl
theorem mw_189 : Cond.code yX12_takeTwo cX12_takeTwo 4 (some .int) ∈ xWS := xw_mem (q := 5165) rfl rfl
theorem mw_190 : Cond.code yX12_show cX12_show 7 (some .int) ∈ xWS := xw_mem (q := 5137) rfl rfl
theorem mw_191 : Cond.code yX12_breaks cX12_breaks 8 (some .int) ∈ xWS := xw_mem (q := 5149) rfl rfl
theorem mw_192 : Cond.code yX12_alike cX12_alike 6 (some .int) ∈ xWS := xw_mem (q := 5157) rfl rfl
theorem mw_193 : Cond.code yX12_fit cX12_fit 7 (some .int) ∈ xWS := xw_mem (q := 5161) rfl rfl
theorem mw_194 : Cond.code yX12_ways cX12_ways 7 (some .int) ∈ xWS := xw_mem (q := 5169) rfl rfl
theorem mw_195 : Cond.code yX12_first cX12_first 7 (some .int) ∈ xWS := xw_mem (q := 5188) rfl rfl
theorem mw_196 : Cond.code yX12_can cX12_can 8 (some .int) ∈ xWS := xw_mem (q := 5192) rfl rfl
theorem mw_197 : Cond.code yX12_laws cX12_laws 4 (some .int) ∈ xWS := xw_mem (q := 5196) rfl rfl
theorem mw_198 : Cond.code yX12_next cX12_next 13 (some .int) ∈ xWS := xw_mem (q := 5204) rfl rfl
theorem mw_199 : Cond.code yX12_he cX12_he 9 (some .int) ∈ xWS := xw_mem (q := 5214) rfl rfl
theorem mw_200 : Cond.code yX12_keeps cX12_keeps 6 (some .int) ∈ xWS := xw_mem (q := 5218) rfl rfl
theorem mw_201 : Cond.code yX12_still cX12_still 7 (some .int) ∈ xWS := xw_mem (q := 5226) rfl rfl
theorem mw_202 : Cond.code yX12_game cX12_game 2 (some .int) ∈ xWS := xw_mem (q := 5230) rfl rfl
theorem mw_203 : Cond.code yX12_picks cX12_picks 2 (some .int) ∈ xWS := xw_mem (q := 6002) rfl rfl
theorem mw_204 : Cond.code yX12_odds cX12_odds 10 (some .int) ∈ xWS := xw_mem (q := 6006) rfl rfl
theorem mw_205 : Cond.code yX12_mid cX12_mid 8 (some .int) ∈ xWS := xw_mem (q := 6011) rfl rfl
theorem mw_206 : Cond.code yX12_lots cX12_lots 7 (some .int) ∈ xWS := xw_mem (q := 6015) rfl rfl
theorem mw_207 : Cond.code yX12_asked cX12_asked 1 (some .int) ∈ xWS := xw_mem (q := 6024) rfl rfl
theorem mw_208 : Cond.code yX12_upper cX12_upper 1 (some .long) ∈ xWS := xw_mem (q := 6028) rfl rfl
theorem mw_209 : Cond.code yX12_lower cX12_lower 1 (some .long) ∈ xWS := xw_mem (q := 6032) rfl rfl
theorem mw_210 : Cond.code yX12_kindsOf cX12_kindsOf 4 (some .int) ∈ xWS := xw_mem (q := 6044) rfl rfl
theorem mw_211 : Cond.code yX12_thereOf cX12_thereOf 4 (some .int) ∈ xWS := xw_mem (q := 6047) rfl rfl
theorem mw_212 : Cond.code yX12_countOf cX12_countOf 2 (some .int) ∈ xWS := xw_mem (q := 6040) rfl rfl
theorem mw_213 : Cond.code yX12_count cX12_count 2 (some .int) ∈ xWS := xw_mem (q := 6036) rfl rfl
theorem mw_214 : Cond.code yX12_finding cX12_finding 1 (some .int) ∈ xWS := xw_mem (q := 6051) rfl rfl
theorem mw_215 : Cond.code yX12_findings cX12_findings 2 (some .int) ∈ xWS := xw_mem (q := 6055) rfl rfl
theorem mw_216 : Cond.code yX12_add cX12_add 2 none ∈ xWS := xw_mem (q := 6064) rfl rfl
theorem mw_217 : Cond.code yX12_digest cX12_digest 5 (some .long) ∈ xWS := xw_mem (q := 6059) rfl rfl
theorem mw_218 : Cond.instanceMethod yX3_init ∈ xWS := xw_mem (q := 1035) rfl rfl
theorem mw_219 : Cond.methodLink RX0 15 Lib.Math.max.name ∈ xWS := xw_mem (q := 1074) rfl rfl
theorem mw_220 : Cond.static Lib.Math.max.name ∈ xWS := xw_mem (q := 1075) rfl rfl
theorem mw_221 : Cond.initialized "java/lang/Math" ∈ xWS := xw_mem (q := 1006) rfl rfl
theorem mw_222 : Cond.code Lib.Math.max.name Lib.Math.max.code 2 (some .int) ∈ xWS := xw_mem (q := 1076) rfl rfl
theorem mw_223 : Cond.methodLink RX0 29 Lib.Math.min.name ∈ xWS := xw_mem (q := 1234) rfl rfl
theorem mw_224 : Cond.static Lib.Math.min.name ∈ xWS := xw_mem (q := 1235) rfl rfl
theorem mw_225 : Cond.code Lib.Math.min.name Lib.Math.min.code 2 (some .int) ∈ xWS := xw_mem (q := 1236) rfl rfl
theorem mw_226 : Cond.methodLink RX1 3 objectInit ∈ xWS := xw_mem (q := 1089) rfl rfl
theorem mw_227 : Cond.instanceMethod objectInit ∈ xWS := xw_mem (q := 1023) rfl rfl
theorem mw_228 : Cond.code objectInit ⟨#[0xb1]⟩ 1 none ∈ xWS := xw_mem (q := 1024) rfl rfl
theorem mw_229 : Cond.methodLink RX3 1 objectInit ∈ xWS := xw_mem (q := 1037) rfl rfl
theorem mw_230 : Cond.methodLink RX4 1 yX9_init ∈ xWS := xw_mem (q := 1157) rfl rfl
theorem mw_231 : Cond.instanceMethod yX9_init ∈ xWS := xw_mem (q := 1128) rfl rfl
theorem mw_232 : Cond.methodLink RX5 3 yX7_init ∈ xWS := xw_mem (q := 1114) rfl rfl
theorem mw_233 : Cond.instanceMethod yX7_init ∈ xWS := xw_mem (q := 1115) rfl rfl
theorem mw_234 : Cond.methodLink RX6 3 yX5_init ∈ xWS := xw_mem (q := 1148) rfl rfl
theorem mw_235 : Cond.instanceMethod yX5_init ∈ xWS := xw_mem (q := 1112) rfl rfl
theorem mw_236 : Cond.methodLink RX7 3 objectInit ∈ xWS := xw_mem (q := 1117) rfl rfl
theorem mw_237 : Cond.methodLink RX8 3 objectInit ∈ xWS := xw_mem (q := 1052) rfl rfl
theorem mw_238 : Cond.static yX11_isStep ∈ xWS := xw_mem (q := 3020) rfl rfl
theorem mw_239 : Cond.methodLink RX9 3 yX7_init ∈ xWS := xw_mem (q := 1130) rfl rfl
theorem mw_240 : Cond.methodLink RX10 1 yX7_init ∈ xWS := xw_mem (q := 1139) rfl rfl
theorem mw_241 : Cond.methodLink RX11 1 objectInit ∈ xWS := xw_mem (q := 1022) rfl rfl
theorem mw_242 : Cond.instanceMethod yX2_init ∈ xWS := xw_mem (q := 1032) rfl rfl
theorem mw_243 : Cond.instanceMethod yX8_init ∈ xWS := xw_mem (q := 1050) rfl rfl
theorem mw_244 : Cond.methodLink RX11 45 yX0_init ∈ xWS := xw_mem (q := 1070) rfl rfl
theorem mw_245 : Cond.instanceMethod yX0_init ∈ xWS := xw_mem (q := 1071) rfl rfl
theorem mw_246 : Cond.instanceMethod yX1_init ∈ xWS := xw_mem (q := 1087) rfl rfl
theorem mw_247 : Cond.methodLink RX11 83 yX11_newPane ∈ xWS := xw_mem (q := 1106) rfl rfl
theorem mw_248 : Cond.static yX11_newPane ∈ xWS := xw_mem (q := 1107) rfl rfl
theorem mw_249 : Cond.methodLink RX11 87 yX2_drop ∈ xWS := xw_mem (q := 1166) rfl rfl
theorem mw_250 : Cond.instanceMethod yX2_drop ∈ xWS := xw_mem (q := 1167) rfl rfl
theorem mw_251 : Cond.selects RX2 yX2_drop yX2_drop ∈ xWS := xw_mem (q := 1168) rfl rfl
theorem mw_252 : Cond.methodLink RX11 90 yX11_isRow ∈ xWS := xw_mem (q := 1223) rfl rfl
theorem mw_253 : Cond.static yX11_isRow ∈ xWS := xw_mem (q := 1224) rfl rfl
theorem mw_254 : Cond.methodLink RX11 94 yX11_refuse ∈ xWS := xw_mem (q := 1226) rfl rfl
theorem mw_255 : Cond.instanceMethod yX11_refuse ∈ xWS := xw_mem (q := 1228) rfl rfl
theorem mw_256 : Cond.selects RX11 yX11_refuse yX11_refuse ∈ xWS := xw_mem (q := 0) rfl rfl
theorem mw_257 : Cond.methodLink RX11 98 yX0_open ∈ xWS := xw_mem (q := 1230) rfl rfl
theorem mw_258 : Cond.instanceMethod yX0_open ∈ xWS := xw_mem (q := 1231) rfl rfl
theorem mw_259 : Cond.selects RX0 yX0_open yX0_open ∈ xWS := xw_mem (q := 1232) rfl rfl
theorem mw_260 : Cond.methodLink RX11 102 yX11_findingOfPlace ∈ xWS := xw_mem (q := 2001) rfl rfl
theorem mw_261 : Cond.static yX11_findingOfPlace ∈ xWS := xw_mem (q := 2002) rfl rfl
theorem mw_262 : Cond.methodLink RX11 112 yX0_isMissing ∈ xWS := xw_mem (q := 2004) rfl rfl
theorem mw_263 : Cond.instanceMethod yX0_isMissing ∈ xWS := xw_mem (q := 2005) rfl rfl
theorem mw_264 : Cond.selects RX0 yX0_isMissing yX0_isMissing ∈ xWS := xw_mem (q := 2006) rfl rfl
theorem mw_265 : Cond.methodLink RX11 125 yX0_size ∈ xWS := xw_mem (q := 2053) rfl rfl
theorem mw_266 : Cond.instanceMethod yX0_size ∈ xWS := xw_mem (q := 2054) rfl rfl
theorem mw_267 : Cond.selects RX0 yX0_size yX0_size ∈ xWS := xw_mem (q := 2055) rfl rfl
theorem mw_268 : Cond.methodLink RX11 129 yX11_isText ∈ xWS := xw_mem (q := 2061) rfl rfl
theorem mw_269 : Cond.static yX11_isText ∈ xWS := xw_mem (q := 2062) rfl rfl
theorem mw_270 : Cond.methodLink RX11 136 yX2_cutTo ∈ xWS := xw_mem (q := 2106) rfl rfl
theorem mw_271 : Cond.instanceMethod yX2_cutTo ∈ xWS := xw_mem (q := 2107) rfl rfl
theorem mw_272 : Cond.selects RX2 yX2_cutTo yX2_cutTo ∈ xWS := xw_mem (q := 2108) rfl rfl
theorem mw_273 : Cond.methodLink RX11 139 yX8_glasses ∈ xWS := xw_mem (q := 2110) rfl rfl
theorem mw_274 : Cond.instanceMethod yX8_glasses ∈ xWS := xw_mem (q := 2111) rfl rfl
theorem mw_275 : Cond.selects RX8 yX8_glasses yX8_glasses ∈ xWS := xw_mem (q := 2112) rfl rfl
theorem mw_276 : Cond.methodLink RX11 142 yX11_isGlass ∈ xWS := xw_mem (q := 2118) rfl rfl
theorem mw_277 : Cond.instanceMethod yX11_isGlass ∈ xWS := xw_mem (q := 2120) rfl rfl
theorem mw_278 : Cond.selects RX11 yX11_isGlass yX11_isGlass ∈ xWS := xw_mem (q := 4) rfl rfl
theorem mw_279 : Cond.methodLink RX11 153 yX2_size ∈ xWS := xw_mem (q := 2170) rfl rfl
theorem mw_280 : Cond.instanceMethod yX2_size ∈ xWS := xw_mem (q := 2171) rfl rfl
theorem mw_281 : Cond.selects RX2 yX2_size yX2_size ∈ xWS := xw_mem (q := 2172) rfl rfl
theorem mw_282 : Cond.methodLink RX11 185 yX11_isStep ∈ xWS := xw_mem (q := 3042) rfl rfl
theorem mw_283 : Cond.methodLink RX11 188 yX8_thought ∈ xWS := xw_mem (q := 3043) rfl rfl
theorem mw_284 : Cond.instanceMethod yX8_thought ∈ xWS := xw_mem (q := 3016) rfl rfl
theorem mw_285 : Cond.selects RX8 yX8_thought yX8_thought ∈ xWS := xw_mem (q := 3017) rfl rfl
theorem mw_286 : Cond.methodLink RX11 191 yX8_terms ∈ xWS := xw_mem (q := 3048) rfl rfl
theorem mw_287 : Cond.instanceMethod yX8_terms ∈ xWS := xw_mem (q := 3049) rfl rfl
theorem mw_288 : Cond.selects RX8 yX8_terms yX8_terms ∈ xWS := xw_mem (q := 3050) rfl rfl
theorem mw_289 : Cond.methodLink RX11 203 yX2_firstThatBroke ∈ xWS := xw_mem (q := 3090) rfl rfl
theorem mw_290 : Cond.instanceMethod yX2_firstThatBroke ∈ xWS := xw_mem (q := 3091) rfl rfl
theorem mw_291 : Cond.selects RX2 yX2_firstThatBroke yX2_firstThatBroke ∈ xWS := xw_mem (q := 3092) rfl rfl
theorem mw_292 : Cond.methodLink RX11 206 yX2_howManyBroke ∈ xWS := xw_mem (q := 3094) rfl rfl
theorem mw_293 : Cond.instanceMethod yX2_howManyBroke ∈ xWS := xw_mem (q := 3095) rfl rfl
theorem mw_294 : Cond.selects RX2 yX2_howManyBroke yX2_howManyBroke ∈ xWS := xw_mem (q := 3096) rfl rfl
theorem mw_295 : Cond.methodLink RX11 209 yX11_isKept ∈ xWS := xw_mem (q := 3106) rfl rfl
theorem mw_296 : Cond.static yX11_isKept ∈ xWS := xw_mem (q := 3107) rfl rfl
theorem mw_297 : Cond.methodLink RX11 216 yX2_isMissing ∈ xWS := xw_mem (q := 3118) rfl rfl
theorem mw_298 : Cond.instanceMethod yX2_isMissing ∈ xWS := xw_mem (q := 3119) rfl rfl
theorem mw_299 : Cond.selects RX2 yX2_isMissing yX2_isMissing ∈ xWS := xw_mem (q := 3120) rfl rfl
theorem mw_300 : Cond.methodLink RX11 217 yX11_findingOfSteps ∈ xWS := xw_mem (q := 3126) rfl rfl
theorem mw_301 : Cond.static yX11_findingOfSteps ∈ xWS := xw_mem (q := 3127) rfl rfl
theorem mw_302 : Cond.methodLink RX11 226 yX11_findingOfPair ∈ xWS := xw_mem (q := 3152) rfl rfl
theorem mw_303 : Cond.static yX11_findingOfPair ∈ xWS := xw_mem (q := 3153) rfl rfl
theorem mw_304 : Cond.methodLink RX11 255 Lib.Math.min.name ∈ xWS := xw_mem (q := 3163) rfl rfl
theorem mw_305 : Cond.methodLink RX11 289 yX11_glassesOf ∈ xWS := xw_mem (q := 4066) rfl rfl
theorem mw_306 : Cond.instanceMethod yX11_glassesOf ∈ xWS := xw_mem (q := 4068) rfl rfl
theorem mw_307 : Cond.selects RX11 yX11_glassesOf yX11_glassesOf ∈ xWS := xw_mem (q := 20) rfl rfl
theorem mw_308 : Cond.methodLink RX11 292 yX11_howManyThere ∈ xWS := xw_mem (q := 4070) rfl rfl
theorem mw_309 : Cond.static yX11_howManyThere ∈ xWS := xw_mem (q := 4071) rfl rfl
theorem mw_310 : Cond.methodLink RX11 296 yX11_keptOnes ∈ xWS := xw_mem (q := 4073) rfl rfl
theorem mw_311 : Cond.instanceMethod yX11_keptOnes ∈ xWS := xw_mem (q := 4075) rfl rfl
theorem mw_312 : Cond.selects RX11 yX11_keptOnes yX11_keptOnes ∈ xWS := xw_mem (q := 21) rfl rfl
theorem mw_313 : Cond.methodLink RX11 303 yX11_count ∈ xWS := xw_mem (q := 4091) rfl rfl
theorem mw_314 : Cond.instanceMethod yX11_count ∈ xWS := xw_mem (q := 4063) rfl rfl
theorem mw_315 : Cond.selects RX11 yX11_count yX11_count ∈ xWS := xw_mem (q := 4064) rfl rfl
theorem mw_316 : Cond.methodLink RX11 306 yX11_digestOf ∈ xWS := xw_mem (q := 4092) rfl rfl
theorem mw_317 : Cond.static yX11_digestOf ∈ xWS := xw_mem (q := 4093) rfl rfl
theorem mw_318 : Cond.methodLink RX11 312 yX5_init ∈ xWS := xw_mem (q := 1111) rfl rfl
theorem mw_319 : Cond.methodLink RX11 316 yX9_init ∈ xWS := xw_mem (q := 1127) rfl rfl
theorem mw_320 : Cond.methodLink RX11 319 yX10_init ∈ xWS := xw_mem (q := 1136) rfl rfl
theorem mw_321 : Cond.instanceMethod yX10_init ∈ xWS := xw_mem (q := 1137) rfl rfl
theorem mw_322 : Cond.methodLink RX11 320 yX6_init ∈ xWS := xw_mem (q := 1145) rfl rfl
theorem mw_323 : Cond.instanceMethod yX6_init ∈ xWS := xw_mem (q := 1146) rfl rfl
theorem mw_324 : Cond.methodLink RX11 323 yX4_init ∈ xWS := xw_mem (q := 1154) rfl rfl
theorem mw_325 : Cond.instanceMethod yX4_init ∈ xWS := xw_mem (q := 1155) rfl rfl
theorem mw_326 : Cond.methodLink RX11 324 yX7_init ∈ xWS := xw_mem (q := 1162) rfl rfl
theorem mw_327 : Cond.methodLink RX12 1 objectInit ∈ xWS := xw_mem (q := 4100) rfl rfl
theorem mw_328 : Cond.methodLink RX12 81 yX12_in ∈ xWS := xw_mem (q := 4205) rfl rfl
theorem mw_329 : Cond.static yX12_in ∈ xWS := xw_mem (q := 4206) rfl rfl
theorem mw_330 : Cond.methodLink RX12 85 yX12_isRow ∈ xWS := xw_mem (q := 4202) rfl rfl
theorem mw_331 : Cond.static yX12_isRow ∈ xWS := xw_mem (q := 4203) rfl rfl
theorem mw_332 : Cond.methodLink RX12 89 yX12_finds ∈ xWS := xw_mem (q := 4208) rfl rfl
theorem mw_333 : Cond.instanceMethod yX12_finds ∈ xWS := xw_mem (q := 4210) rfl rfl
theorem mw_334 : Cond.selects RX12 yX12_finds yX12_finds ∈ xWS := xw_mem (q := 22) rfl rfl
theorem mw_335 : Cond.methodLink RX12 93 yX12_wrongAt ∈ xWS := xw_mem (q := 4216) rfl rfl
theorem mw_336 : Cond.instanceMethod yX12_wrongAt ∈ xWS := xw_mem (q := 4218) rfl rfl
theorem mw_337 : Cond.selects RX12 yX12_wrongAt yX12_wrongAt ∈ xWS := xw_mem (q := 23) rfl rfl
theorem mw_338 : Cond.methodLink RX12 103 yX12_isText ∈ xWS := xw_mem (q := 5007) rfl rfl
theorem mw_339 : Cond.static yX12_isText ∈ xWS := xw_mem (q := 5008) rfl rfl
theorem mw_340 : Cond.methodLink RX12 173 yX12_isGlass ∈ xWS := xw_mem (q := 5057) rfl rfl
theorem mw_341 : Cond.instanceMethod yX12_isGlass ∈ xWS := xw_mem (q := 5059) rfl rfl
theorem mw_342 : Cond.selects RX12 yX12_isGlass yX12_isGlass ∈ xWS := xw_mem (q := 32) rfl rfl
theorem mw_343 : Cond.methodLink RX12 183 yX12_isStep ∈ xWS := xw_mem (q := 5095) rfl rfl
theorem mw_344 : Cond.static yX12_isStep ∈ xWS := xw_mem (q := 5096) rfl rfl
theorem mw_345 : Cond.methodLink RX12 189 yX12_brokenMany ∈ xWS := xw_mem (q := 5118) rfl rfl
theorem mw_346 : Cond.instanceMethod yX12_brokenMany ∈ xWS := xw_mem (q := 5120) rfl rfl
theorem mw_347 : Cond.selects RX12 yX12_brokenMany yX12_brokenMany ∈ xWS := xw_mem (q := 39) rfl rfl
theorem mw_348 : Cond.methodLink RX12 192 yX12_takeOut ∈ xWS := xw_mem (q := 5138) rfl rfl
theorem mw_349 : Cond.instanceMethod yX12_takeOut ∈ xWS := xw_mem (q := 5140) rfl rfl
theorem mw_350 : Cond.selects RX12 yX12_takeOut yX12_takeOut ∈ xWS := xw_mem (q := 40) rfl rfl
theorem mw_351 : Cond.methodLink RX12 202 yX12_takeTwo ∈ xWS := xw_mem (q := 5162) rfl rfl
theorem mw_352 : Cond.instanceMethod yX12_takeTwo ∈ xWS := xw_mem (q := 5164) rfl rfl
theorem mw_353 : Cond.selects RX12 yX12_takeTwo yX12_takeTwo ∈ xWS := xw_mem (q := 43) rfl rfl
theorem mw_354 : Cond.methodLink RX12 248 yX12_kindsOf ∈ xWS := xw_mem (q := 6041) rfl rfl
theorem mw_355 : Cond.instanceMethod yX12_kindsOf ∈ xWS := xw_mem (q := 6043) rfl rfl
theorem mw_356 : Cond.selects RX12 yX12_kindsOf yX12_kindsOf ∈ xWS := xw_mem (q := 52) rfl rfl
theorem mw_357 : Cond.methodLink RX12 251 yX12_thereOf ∈ xWS := xw_mem (q := 6045) rfl rfl
theorem mw_358 : Cond.static yX12_thereOf ∈ xWS := xw_mem (q := 6046) rfl rfl
theorem mw_359 : Cond.methodLink RX12 255 yX12_countOf ∈ xWS := xw_mem (q := 6037) rfl rfl
theorem mw_360 : Cond.instanceMethod yX12_countOf ∈ xWS := xw_mem (q := 6039) rfl rfl
theorem mw_361 : Cond.selects RX12 yX12_countOf yX12_countOf ∈ xWS := xw_mem (q := 51) rfl rfl
theorem mw_362 : Cond.methodLink RX12 265 yX12_add ∈ xWS := xw_mem (q := 6061) rfl rfl
theorem mw_363 : Cond.instanceMethod yX12_add ∈ xWS := xw_mem (q := 6063) rfl rfl
theorem mw_364 : Cond.selects RX12 yX12_add yX12_add ∈ xWS := xw_mem (q := 53) rfl rfl
theorem mw_365 : Cond.methodLink RL 9 yX11_init ∈ xWS := xw_mem (q := 1019) rfl rfl
theorem mw_366 : Cond.instanceMethod yX11_init ∈ xWS := xw_mem (q := 1020) rfl rfl
theorem mw_367 : Cond.methodLink RL 12 yX12_init ∈ xWS := xw_mem (q := 4097) rfl rfl
theorem mw_368 : Cond.instanceMethod yX12_init ∈ xWS := xw_mem (q := 4098) rfl rfl
theorem mw_369 : Cond.methodLink RL 13 yX11_row ∈ xWS := xw_mem (q := 1219) rfl rfl
theorem mw_370 : Cond.instanceMethod yX11_row ∈ xWS := xw_mem (q := 1220) rfl rfl
theorem mw_371 : Cond.selects RX11 yX11_row yX11_row ∈ xWS := xw_mem (q := 1221) rfl rfl
theorem mw_372 : Cond.methodLink RL 17 yX12_row ∈ xWS := xw_mem (q := 4198) rfl rfl
theorem mw_373 : Cond.instanceMethod yX12_row ∈ xWS := xw_mem (q := 4199) rfl rfl
theorem mw_374 : Cond.selects RX12 yX12_row yX12_row ∈ xWS := xw_mem (q := 4200) rfl rfl
theorem mw_375 : Cond.methodLink RL 18 yX11_lay ∈ xWS := xw_mem (q := 1237) rfl rfl
theorem mw_376 : Cond.instanceMethod yX11_lay ∈ xWS := xw_mem (q := 1238) rfl rfl
theorem mw_377 : Cond.selects RX11 yX11_lay yX11_lay ∈ xWS := xw_mem (q := 1239) rfl rfl
theorem mw_378 : Cond.methodLink RL 22 yX12_lay ∈ xWS := xw_mem (q := 4212) rfl rfl
theorem mw_379 : Cond.instanceMethod yX12_lay ∈ xWS := xw_mem (q := 4213) rfl rfl
theorem mw_380 : Cond.selects RX12 yX12_lay yX12_lay ∈ xWS := xw_mem (q := 4214) rfl rfl
theorem mw_381 : Cond.methodLink RL 23 yX11_at ∈ xWS := xw_mem (q := 2021) rfl rfl
theorem mw_382 : Cond.instanceMethod yX11_at ∈ xWS := xw_mem (q := 2022) rfl rfl
theorem mw_383 : Cond.selects RX11 yX11_at yX11_at ∈ xWS := xw_mem (q := 2023) rfl rfl
theorem mw_384 : Cond.methodLink RL 26 yX12_at ∈ xWS := xw_mem (q := 4224) rfl rfl
theorem mw_385 : Cond.instanceMethod yX12_at ∈ xWS := xw_mem (q := 4225) rfl rfl
theorem mw_386 : Cond.selects RX12 yX12_at yX12_at ∈ xWS := xw_mem (q := 4226) rfl rfl
theorem mw_387 : Cond.methodLink RL 27 yX11_tear ∈ xWS := xw_mem (q := 2025) rfl rfl
theorem mw_388 : Cond.instanceMethod yX11_tear ∈ xWS := xw_mem (q := 2026) rfl rfl
theorem mw_389 : Cond.selects RX11 yX11_tear yX11_tear ∈ xWS := xw_mem (q := 2027) rfl rfl
theorem mw_390 : Cond.methodLink RL 31 yX12_tear ∈ xWS := xw_mem (q := 4228) rfl rfl
theorem mw_391 : Cond.instanceMethod yX12_tear ∈ xWS := xw_mem (q := 4229) rfl rfl
theorem mw_392 : Cond.selects RX12 yX12_tear yX12_tear ∈ xWS := xw_mem (q := 4230) rfl rfl
theorem mw_393 : Cond.methodLink RL 32 yX11_copy ∈ xWS := xw_mem (q := 2033) rfl rfl
theorem mw_394 : Cond.instanceMethod yX11_copy ∈ xWS := xw_mem (q := 2034) rfl rfl
theorem mw_395 : Cond.selects RX11 yX11_copy yX11_copy ∈ xWS := xw_mem (q := 2035) rfl rfl
theorem mw_396 : Cond.methodLink RL 36 yX12_copy ∈ xWS := xw_mem (q := 4232) rfl rfl
theorem mw_397 : Cond.instanceMethod yX12_copy ∈ xWS := xw_mem (q := 4233) rfl rfl
theorem mw_398 : Cond.selects RX12 yX12_copy yX12_copy ∈ xWS := xw_mem (q := 4234) rfl rfl
theorem mw_399 : Cond.methodLink RL 37 yX11_mean ∈ xWS := xw_mem (q := 2049) rfl rfl
theorem mw_400 : Cond.instanceMethod yX11_mean ∈ xWS := xw_mem (q := 2050) rfl rfl
theorem mw_401 : Cond.selects RX11 yX11_mean yX11_mean ∈ xWS := xw_mem (q := 2051) rfl rfl
theorem mw_402 : Cond.methodLink RL 40 yX12_mean ∈ xWS := xw_mem (q := 4239) rfl rfl
theorem mw_403 : Cond.instanceMethod yX12_mean ∈ xWS := xw_mem (q := 5000) rfl rfl
theorem mw_404 : Cond.selects RX12 yX12_mean yX12_mean ∈ xWS := xw_mem (q := 5001) rfl rfl
theorem mw_405 : Cond.methodLink RL 41 yX11_text ∈ xWS := xw_mem (q := 2057) rfl rfl
theorem mw_406 : Cond.instanceMethod yX11_text ∈ xWS := xw_mem (q := 2058) rfl rfl
theorem mw_407 : Cond.selects RX11 yX11_text yX11_text ∈ xWS := xw_mem (q := 2059) rfl rfl
theorem mw_408 : Cond.methodLink RL 44 yX12_text ∈ xWS := xw_mem (q := 5003) rfl rfl
theorem mw_409 : Cond.instanceMethod yX12_text ∈ xWS := xw_mem (q := 5004) rfl rfl
theorem mw_410 : Cond.selects RX12 yX12_text yX12_text ∈ xWS := xw_mem (q := 5005) rfl rfl
theorem mw_411 : Cond.methodLink RL 45 yX11_put ∈ xWS := xw_mem (q := 2064) rfl rfl
theorem mw_412 : Cond.instanceMethod yX11_put ∈ xWS := xw_mem (q := 2065) rfl rfl
theorem mw_413 : Cond.selects RX11 yX11_put yX11_put ∈ xWS := xw_mem (q := 2066) rfl rfl
theorem mw_414 : Cond.methodLink RL 48 yX12_put ∈ xWS := xw_mem (q := 5010) rfl rfl
theorem mw_415 : Cond.instanceMethod yX12_put ∈ xWS := xw_mem (q := 5011) rfl rfl
theorem mw_416 : Cond.selects RX12 yX12_put yX12_put ∈ xWS := xw_mem (q := 5012) rfl rfl
theorem mw_417 : Cond.methodLink RL 49 yX11_fault ∈ xWS := xw_mem (q := 2068) rfl rfl
theorem mw_418 : Cond.instanceMethod yX11_fault ∈ xWS := xw_mem (q := 2069) rfl rfl
theorem mw_419 : Cond.selects RX11 yX11_fault yX11_fault ∈ xWS := xw_mem (q := 2070) rfl rfl
theorem mw_420 : Cond.methodLink RL 52 yX12_fault ∈ xWS := xw_mem (q := 5014) rfl rfl
theorem mw_421 : Cond.instanceMethod yX12_fault ∈ xWS := xw_mem (q := 5015) rfl rfl
theorem mw_422 : Cond.selects RX12 yX12_fault yX12_fault ∈ xWS := xw_mem (q := 5016) rfl rfl
theorem mw_423 : Cond.methodLink RL 53 yX11_room ∈ xWS := xw_mem (q := 2102) rfl rfl
theorem mw_424 : Cond.instanceMethod yX11_room ∈ xWS := xw_mem (q := 2103) rfl rfl
theorem mw_425 : Cond.selects RX11 yX11_room yX11_room ∈ xWS := xw_mem (q := 2104) rfl rfl
theorem mw_426 : Cond.methodLink RL 56 yX12_room ∈ xWS := xw_mem (q := 5049) rfl rfl
theorem mw_427 : Cond.instanceMethod yX12_room ∈ xWS := xw_mem (q := 5050) rfl rfl
theorem mw_428 : Cond.selects RX12 yX12_room yX12_room ∈ xWS := xw_mem (q := 5051) rfl rfl
theorem mw_429 : Cond.methodLink RL 57 yX11_glass ∈ xWS := xw_mem (q := 2114) rfl rfl
theorem mw_430 : Cond.instanceMethod yX11_glass ∈ xWS := xw_mem (q := 2115) rfl rfl
theorem mw_431 : Cond.selects RX11 yX11_glass yX11_glass ∈ xWS := xw_mem (q := 2116) rfl rfl
theorem mw_432 : Cond.methodLink RL 60 yX12_glass ∈ xWS := xw_mem (q := 5053) rfl rfl
theorem mw_433 : Cond.instanceMethod yX12_glass ∈ xWS := xw_mem (q := 5054) rfl rfl
theorem mw_434 : Cond.selects RX12 yX12_glass yX12_glass ∈ xWS := xw_mem (q := 5055) rfl rfl
theorem mw_435 : Cond.methodLink RL 61 yX11_mark ∈ xWS := xw_mem (q := 2166) rfl rfl
theorem mw_436 : Cond.instanceMethod yX11_mark ∈ xWS := xw_mem (q := 2167) rfl rfl
theorem mw_437 : Cond.selects RX11 yX11_mark yX11_mark ∈ xWS := xw_mem (q := 2168) rfl rfl
theorem mw_438 : Cond.methodLink RL 64 yX12_mark ∈ xWS := xw_mem (q := 5084) rfl rfl
theorem mw_439 : Cond.instanceMethod yX12_mark ∈ xWS := xw_mem (q := 5085) rfl rfl
theorem mw_440 : Cond.selects RX12 yX12_mark yX12_mark ∈ xWS := xw_mem (q := 5086) rfl rfl
theorem mw_441 : Cond.methodLink RL 65 yX11_habit ∈ xWS := xw_mem (q := 3038) rfl rfl
theorem mw_442 : Cond.instanceMethod yX11_habit ∈ xWS := xw_mem (q := 3039) rfl rfl
theorem mw_443 : Cond.selects RX11 yX11_habit yX11_habit ∈ xWS := xw_mem (q := 3040) rfl rfl
theorem mw_444 : Cond.methodLink RL 68 yX12_habit ∈ xWS := xw_mem (q := 5091) rfl rfl
theorem mw_445 : Cond.instanceMethod yX12_habit ∈ xWS := xw_mem (q := 5092) rfl rfl
theorem mw_446 : Cond.selects RX12 yX12_habit yX12_habit ∈ xWS := xw_mem (q := 5093) rfl rfl
theorem mw_447 : Cond.methodLink RL 69 yX11_term ∈ xWS := xw_mem (q := 3044) rfl rfl
theorem mw_448 : Cond.instanceMethod yX11_term ∈ xWS := xw_mem (q := 3045) rfl rfl
theorem mw_449 : Cond.selects RX11 yX11_term yX11_term ∈ xWS := xw_mem (q := 3046) rfl rfl
theorem mw_450 : Cond.methodLink RL 72 yX12_term ∈ xWS := xw_mem (q := 5098) rfl rfl
theorem mw_451 : Cond.instanceMethod yX12_term ∈ xWS := xw_mem (q := 5099) rfl rfl
theorem mw_452 : Cond.selects RX12 yX12_term yX12_term ∈ xWS := xw_mem (q := 5100) rfl rfl
theorem mw_453 : Cond.methodLink RL 73 yX11_step ∈ xWS := xw_mem (q := 3056) rfl rfl
theorem mw_454 : Cond.instanceMethod yX11_step ∈ xWS := xw_mem (q := 3057) rfl rfl
theorem mw_455 : Cond.selects RX11 yX11_step yX11_step ∈ xWS := xw_mem (q := 3058) rfl rfl
theorem mw_456 : Cond.methodLink RL 76 yX12_step ∈ xWS := xw_mem (q := 5102) rfl rfl
theorem mw_457 : Cond.instanceMethod yX12_step ∈ xWS := xw_mem (q := 5103) rfl rfl
theorem mw_458 : Cond.selects RX12 yX12_step yX12_step ∈ xWS := xw_mem (q := 5104) rfl rfl
theorem mw_459 : Cond.methodLink RL 77 yX11_deed ∈ xWS := xw_mem (q := 3081) rfl rfl
theorem mw_460 : Cond.instanceMethod yX11_deed ∈ xWS := xw_mem (q := 3082) rfl rfl
theorem mw_461 : Cond.selects RX11 yX11_deed yX11_deed ∈ xWS := xw_mem (q := 3083) rfl rfl
theorem mw_462 : Cond.methodLink RL 80 yX12_deed ∈ xWS := xw_mem (q := 5110) rfl rfl
theorem mw_463 : Cond.instanceMethod yX12_deed ∈ xWS := xw_mem (q := 5111) rfl rfl
theorem mw_464 : Cond.selects RX12 yX12_deed yX12_deed ∈ xWS := xw_mem (q := 5112) rfl rfl
theorem mw_465 : Cond.methodLink RL 81 yX11_broken ∈ xWS := xw_mem (q := 3086) rfl rfl
theorem mw_466 : Cond.instanceMethod yX11_broken ∈ xWS := xw_mem (q := 3087) rfl rfl
theorem mw_467 : Cond.selects RX11 yX11_broken yX11_broken ∈ xWS := xw_mem (q := 3088) rfl rfl
theorem mw_468 : Cond.methodLink RL 85 yX12_broken ∈ xWS := xw_mem (q := 5114) rfl rfl
theorem mw_469 : Cond.instanceMethod yX12_broken ∈ xWS := xw_mem (q := 5115) rfl rfl
theorem mw_470 : Cond.selects RX12 yX12_broken yX12_broken ∈ xWS := xw_mem (q := 5116) rfl rfl
theorem mw_471 : Cond.methodLink RL 86 yX11_undo ∈ xWS := xw_mem (q := 3098) rfl rfl
theorem mw_472 : Cond.instanceMethod yX11_undo ∈ xWS := xw_mem (q := 3099) rfl rfl
theorem mw_473 : Cond.selects RX11 yX11_undo yX11_undo ∈ xWS := xw_mem (q := 3100) rfl rfl
theorem mw_474 : Cond.methodLink RL 89 yX12_undo ∈ xWS := xw_mem (q := 5122) rfl rfl
theorem mw_475 : Cond.instanceMethod yX12_undo ∈ xWS := xw_mem (q := 5123) rfl rfl
theorem mw_476 : Cond.selects RX12 yX12_undo yX12_undo ∈ xWS := xw_mem (q := 5124) rfl rfl
theorem mw_477 : Cond.methodLink RL 90 yX11_keep ∈ xWS := xw_mem (q := 3102) rfl rfl
theorem mw_478 : Cond.instanceMethod yX11_keep ∈ xWS := xw_mem (q := 3103) rfl rfl
theorem mw_479 : Cond.selects RX11 yX11_keep yX11_keep ∈ xWS := xw_mem (q := 3104) rfl rfl
theorem mw_480 : Cond.methodLink RL 93 yX12_keep ∈ xWS := xw_mem (q := 5126) rfl rfl
theorem mw_481 : Cond.instanceMethod yX12_keep ∈ xWS := xw_mem (q := 5127) rfl rfl
theorem mw_482 : Cond.selects RX12 yX12_keep yX12_keep ∈ xWS := xw_mem (q := 5128) rfl rfl
theorem mw_483 : Cond.methodLink RL 94 yX11_on ∈ xWS := xw_mem (q := 3114) rfl rfl
theorem mw_484 : Cond.instanceMethod yX11_on ∈ xWS := xw_mem (q := 3115) rfl rfl
theorem mw_485 : Cond.selects RX11 yX11_on yX11_on ∈ xWS := xw_mem (q := 3116) rfl rfl
theorem mw_486 : Cond.methodLink RL 97 yX12_on ∈ xWS := xw_mem (q := 5130) rfl rfl
theorem mw_487 : Cond.instanceMethod yX12_on ∈ xWS := xw_mem (q := 5131) rfl rfl
theorem mw_488 : Cond.selects RX12 yX12_on yX12_on ∈ xWS := xw_mem (q := 5132) rfl rfl
theorem mw_489 : Cond.methodLink RL 98 yX11_show ∈ xWS := xw_mem (q := 3122) rfl rfl
theorem mw_490 : Cond.instanceMethod yX11_show ∈ xWS := xw_mem (q := 3123) rfl rfl
theorem mw_491 : Cond.selects RX11 yX11_show yX11_show ∈ xWS := xw_mem (q := 3124) rfl rfl
theorem mw_492 : Cond.methodLink RL 101 yX12_show ∈ xWS := xw_mem (q := 5134) rfl rfl
theorem mw_493 : Cond.instanceMethod yX12_show ∈ xWS := xw_mem (q := 5135) rfl rfl
theorem mw_494 : Cond.selects RX12 yX12_show yX12_show ∈ xWS := xw_mem (q := 5136) rfl rfl
theorem mw_495 : Cond.methodLink RL 102 yX11_breaks ∈ xWS := xw_mem (q := 3135) rfl rfl
theorem mw_496 : Cond.instanceMethod yX11_breaks ∈ xWS := xw_mem (q := 3136) rfl rfl
theorem mw_497 : Cond.selects RX11 yX11_breaks yX11_breaks ∈ xWS := xw_mem (q := 3137) rfl rfl
theorem mw_498 : Cond.methodLink RL 105 yX12_breaks ∈ xWS := xw_mem (q := 5146) rfl rfl
theorem mw_499 : Cond.instanceMethod yX12_breaks ∈ xWS := xw_mem (q := 5147) rfl rfl
theorem mw_500 : Cond.selects RX12 yX12_breaks yX12_breaks ∈ xWS := xw_mem (q := 5148) rfl rfl
theorem mw_501 : Cond.methodLink RL 106 yX11_alike ∈ xWS := xw_mem (q := 3144) rfl rfl
theorem mw_502 : Cond.instanceMethod yX11_alike ∈ xWS := xw_mem (q := 3145) rfl rfl
theorem mw_503 : Cond.selects RX11 yX11_alike yX11_alike ∈ xWS := xw_mem (q := 3146) rfl rfl
theorem mw_504 : Cond.methodLink RL 109 yX12_alike ∈ xWS := xw_mem (q := 5154) rfl rfl
theorem mw_505 : Cond.instanceMethod yX12_alike ∈ xWS := xw_mem (q := 5155) rfl rfl
theorem mw_506 : Cond.selects RX12 yX12_alike yX12_alike ∈ xWS := xw_mem (q := 5156) rfl rfl
theorem mw_507 : Cond.methodLink RL 110 yX11_fit ∈ xWS := xw_mem (q := 3148) rfl rfl
theorem mw_508 : Cond.instanceMethod yX11_fit ∈ xWS := xw_mem (q := 3149) rfl rfl
theorem mw_509 : Cond.selects RX11 yX11_fit yX11_fit ∈ xWS := xw_mem (q := 3150) rfl rfl
theorem mw_510 : Cond.methodLink RL 113 yX12_fit ∈ xWS := xw_mem (q := 5158) rfl rfl
theorem mw_511 : Cond.instanceMethod yX12_fit ∈ xWS := xw_mem (q := 5159) rfl rfl
theorem mw_512 : Cond.selects RX12 yX12_fit yX12_fit ∈ xWS := xw_mem (q := 5160) rfl rfl
theorem mw_513 : Cond.methodLink RL 114 yX11_ways ∈ xWS := xw_mem (q := 3155) rfl rfl
theorem mw_514 : Cond.instanceMethod yX11_ways ∈ xWS := xw_mem (q := 3156) rfl rfl
theorem mw_515 : Cond.selects RX11 yX11_ways yX11_ways ∈ xWS := xw_mem (q := 3157) rfl rfl
theorem mw_516 : Cond.methodLink RL 117 yX12_ways ∈ xWS := xw_mem (q := 5166) rfl rfl
theorem mw_517 : Cond.instanceMethod yX12_ways ∈ xWS := xw_mem (q := 5167) rfl rfl
theorem mw_518 : Cond.selects RX12 yX12_ways yX12_ways ∈ xWS := xw_mem (q := 5168) rfl rfl
theorem mw_519 : Cond.methodLink RL 118 yX11_first ∈ xWS := xw_mem (q := 3172) rfl rfl
theorem mw_520 : Cond.instanceMethod yX11_first ∈ xWS := xw_mem (q := 3173) rfl rfl
theorem mw_521 : Cond.selects RX11 yX11_first yX11_first ∈ xWS := xw_mem (q := 3174) rfl rfl
theorem mw_522 : Cond.methodLink RL 121 yX12_first ∈ xWS := xw_mem (q := 5185) rfl rfl
theorem mw_523 : Cond.instanceMethod yX12_first ∈ xWS := xw_mem (q := 5186) rfl rfl
theorem mw_524 : Cond.selects RX12 yX12_first yX12_first ∈ xWS := xw_mem (q := 5187) rfl rfl
theorem mw_525 : Cond.methodLink RL 122 yX11_can ∈ xWS := xw_mem (q := 3179) rfl rfl
theorem mw_526 : Cond.instanceMethod yX11_can ∈ xWS := xw_mem (q := 3180) rfl rfl
theorem mw_527 : Cond.selects RX11 yX11_can yX11_can ∈ xWS := xw_mem (q := 3181) rfl rfl
theorem mw_528 : Cond.methodLink RL 125 yX12_can ∈ xWS := xw_mem (q := 5189) rfl rfl
theorem mw_529 : Cond.instanceMethod yX12_can ∈ xWS := xw_mem (q := 5190) rfl rfl
theorem mw_530 : Cond.selects RX12 yX12_can yX12_can ∈ xWS := xw_mem (q := 5191) rfl rfl
theorem mw_531 : Cond.methodLink RL 126 yX11_laws ∈ xWS := xw_mem (q := 3183) rfl rfl
theorem mw_532 : Cond.instanceMethod yX11_laws ∈ xWS := xw_mem (q := 3184) rfl rfl
theorem mw_533 : Cond.selects RX11 yX11_laws yX11_laws ∈ xWS := xw_mem (q := 3185) rfl rfl
theorem mw_534 : Cond.methodLink RL 129 yX12_laws ∈ xWS := xw_mem (q := 5193) rfl rfl
theorem mw_535 : Cond.instanceMethod yX12_laws ∈ xWS := xw_mem (q := 5194) rfl rfl
theorem mw_536 : Cond.selects RX12 yX12_laws yX12_laws ∈ xWS := xw_mem (q := 5195) rfl rfl
theorem mw_537 : Cond.methodLink RL 130 yX11_next ∈ xWS := xw_mem (q := 3195) rfl rfl
theorem mw_538 : Cond.instanceMethod yX11_next ∈ xWS := xw_mem (q := 3196) rfl rfl
theorem mw_539 : Cond.selects RX11 yX11_next yX11_next ∈ xWS := xw_mem (q := 3197) rfl rfl
theorem mw_540 : Cond.methodLink RL 133 yX12_next ∈ xWS := xw_mem (q := 5201) rfl rfl
theorem mw_541 : Cond.instanceMethod yX12_next ∈ xWS := xw_mem (q := 5202) rfl rfl
theorem mw_542 : Cond.selects RX12 yX12_next yX12_next ∈ xWS := xw_mem (q := 5203) rfl rfl
theorem mw_543 : Cond.methodLink RL 134 yX11_he ∈ xWS := xw_mem (q := 3204) rfl rfl
theorem mw_544 : Cond.instanceMethod yX11_he ∈ xWS := xw_mem (q := 3205) rfl rfl
theorem mw_545 : Cond.selects RX11 yX11_he yX11_he ∈ xWS := xw_mem (q := 3206) rfl rfl
theorem mw_546 : Cond.methodLink RL 137 yX12_he ∈ xWS := xw_mem (q := 5211) rfl rfl
theorem mw_547 : Cond.instanceMethod yX12_he ∈ xWS := xw_mem (q := 5212) rfl rfl
theorem mw_548 : Cond.selects RX12 yX12_he yX12_he ∈ xWS := xw_mem (q := 5213) rfl rfl
theorem mw_549 : Cond.methodLink RL 138 yX11_keeps ∈ xWS := xw_mem (q := 3208) rfl rfl
theorem mw_550 : Cond.instanceMethod yX11_keeps ∈ xWS := xw_mem (q := 3209) rfl rfl
theorem mw_551 : Cond.selects RX11 yX11_keeps yX11_keeps ∈ xWS := xw_mem (q := 3210) rfl rfl
theorem mw_552 : Cond.methodLink RL 141 yX12_keeps ∈ xWS := xw_mem (q := 5215) rfl rfl
theorem mw_553 : Cond.instanceMethod yX12_keeps ∈ xWS := xw_mem (q := 5216) rfl rfl
theorem mw_554 : Cond.selects RX12 yX12_keeps yX12_keeps ∈ xWS := xw_mem (q := 5217) rfl rfl
theorem mw_555 : Cond.methodLink RL 142 yX11_still ∈ xWS := xw_mem (q := 4005) rfl rfl
theorem mw_556 : Cond.instanceMethod yX11_still ∈ xWS := xw_mem (q := 4006) rfl rfl
theorem mw_557 : Cond.selects RX11 yX11_still yX11_still ∈ xWS := xw_mem (q := 4007) rfl rfl
theorem mw_558 : Cond.methodLink RL 145 yX12_still ∈ xWS := xw_mem (q := 5223) rfl rfl
theorem mw_559 : Cond.instanceMethod yX12_still ∈ xWS := xw_mem (q := 5224) rfl rfl
theorem mw_560 : Cond.selects RX12 yX12_still yX12_still ∈ xWS := xw_mem (q := 5225) rfl rfl
theorem mw_561 : Cond.methodLink RL 146 yX11_game ∈ xWS := xw_mem (q := 4013) rfl rfl
theorem mw_562 : Cond.instanceMethod yX11_game ∈ xWS := xw_mem (q := 4014) rfl rfl
theorem mw_563 : Cond.selects RX11 yX11_game yX11_game ∈ xWS := xw_mem (q := 4015) rfl rfl
theorem mw_564 : Cond.methodLink RL 149 yX12_game ∈ xWS := xw_mem (q := 5227) rfl rfl
theorem mw_565 : Cond.instanceMethod yX12_game ∈ xWS := xw_mem (q := 5228) rfl rfl
theorem mw_566 : Cond.selects RX12 yX12_game yX12_game ∈ xWS := xw_mem (q := 5229) rfl rfl
theorem mw_567 : Cond.methodLink RL 150 yX11_picks ∈ xWS := xw_mem (q := 4025) rfl rfl
theorem mw_568 : Cond.instanceMethod yX11_picks ∈ xWS := xw_mem (q := 4026) rfl rfl
theorem mw_569 : Cond.selects RX11 yX11_picks yX11_picks ∈ xWS := xw_mem (q := 4027) rfl rfl
theorem mw_570 : Cond.methodLink RL 153 yX12_picks ∈ xWS := xw_mem (q := 5239) rfl rfl
theorem mw_571 : Cond.instanceMethod yX12_picks ∈ xWS := xw_mem (q := 6000) rfl rfl
theorem mw_572 : Cond.selects RX12 yX12_picks yX12_picks ∈ xWS := xw_mem (q := 6001) rfl rfl
theorem mw_573 : Cond.methodLink RL 154 yX11_odds ∈ xWS := xw_mem (q := 4029) rfl rfl
theorem mw_574 : Cond.instanceMethod yX11_odds ∈ xWS := xw_mem (q := 4030) rfl rfl
theorem mw_575 : Cond.selects RX11 yX11_odds yX11_odds ∈ xWS := xw_mem (q := 4031) rfl rfl
theorem mw_576 : Cond.methodLink RL 157 yX12_odds ∈ xWS := xw_mem (q := 6003) rfl rfl
theorem mw_577 : Cond.instanceMethod yX12_odds ∈ xWS := xw_mem (q := 6004) rfl rfl
theorem mw_578 : Cond.selects RX12 yX12_odds yX12_odds ∈ xWS := xw_mem (q := 6005) rfl rfl
theorem mw_579 : Cond.methodLink RL 158 yX11_mid ∈ xWS := xw_mem (q := 4038) rfl rfl
theorem mw_580 : Cond.instanceMethod yX11_mid ∈ xWS := xw_mem (q := 4039) rfl rfl
theorem mw_581 : Cond.selects RX11 yX11_mid yX11_mid ∈ xWS := xw_mem (q := 4040) rfl rfl
theorem mw_582 : Cond.methodLink RL 161 yX12_mid ∈ xWS := xw_mem (q := 6008) rfl rfl
theorem mw_583 : Cond.instanceMethod yX12_mid ∈ xWS := xw_mem (q := 6009) rfl rfl
theorem mw_584 : Cond.selects RX12 yX12_mid yX12_mid ∈ xWS := xw_mem (q := 6010) rfl rfl
theorem mw_585 : Cond.methodLink RL 162 yX11_lots ∈ xWS := xw_mem (q := 4042) rfl rfl
theorem mw_586 : Cond.instanceMethod yX11_lots ∈ xWS := xw_mem (q := 4043) rfl rfl
theorem mw_587 : Cond.selects RX11 yX11_lots yX11_lots ∈ xWS := xw_mem (q := 4044) rfl rfl
theorem mw_588 : Cond.methodLink RL 165 yX12_lots ∈ xWS := xw_mem (q := 6012) rfl rfl
theorem mw_589 : Cond.instanceMethod yX12_lots ∈ xWS := xw_mem (q := 6013) rfl rfl
theorem mw_590 : Cond.selects RX12 yX12_lots yX12_lots ∈ xWS := xw_mem (q := 6014) rfl rfl
theorem mw_591 : Cond.methodLink RL 166 yX11_asked ∈ xWS := xw_mem (q := 4050) rfl rfl
theorem mw_592 : Cond.instanceMethod yX11_asked ∈ xWS := xw_mem (q := 4051) rfl rfl
theorem mw_593 : Cond.selects RX11 yX11_asked yX11_asked ∈ xWS := xw_mem (q := 4052) rfl rfl
theorem mw_594 : Cond.methodLink RL 169 yX12_asked ∈ xWS := xw_mem (q := 6021) rfl rfl
theorem mw_595 : Cond.instanceMethod yX12_asked ∈ xWS := xw_mem (q := 6022) rfl rfl
theorem mw_596 : Cond.selects RX12 yX12_asked yX12_asked ∈ xWS := xw_mem (q := 6023) rfl rfl
theorem mw_597 : Cond.methodLink RL 170 yX11_upper ∈ xWS := xw_mem (q := 4054) rfl rfl
theorem mw_598 : Cond.instanceMethod yX11_upper ∈ xWS := xw_mem (q := 4055) rfl rfl
theorem mw_599 : Cond.selects RX11 yX11_upper yX11_upper ∈ xWS := xw_mem (q := 4056) rfl rfl
theorem mw_600 : Cond.methodLink RL 174 yX12_upper ∈ xWS := xw_mem (q := 6025) rfl rfl
theorem mw_601 : Cond.instanceMethod yX12_upper ∈ xWS := xw_mem (q := 6026) rfl rfl
theorem mw_602 : Cond.selects RX12 yX12_upper yX12_upper ∈ xWS := xw_mem (q := 6027) rfl rfl
theorem mw_603 : Cond.methodLink RL 175 yX11_lower ∈ xWS := xw_mem (q := 4058) rfl rfl
theorem mw_604 : Cond.instanceMethod yX11_lower ∈ xWS := xw_mem (q := 4059) rfl rfl
theorem mw_605 : Cond.selects RX11 yX11_lower yX11_lower ∈ xWS := xw_mem (q := 4060) rfl rfl
theorem mw_606 : Cond.methodLink RL 178 yX12_lower ∈ xWS := xw_mem (q := 6029) rfl rfl
theorem mw_607 : Cond.instanceMethod yX12_lower ∈ xWS := xw_mem (q := 6030) rfl rfl
theorem mw_608 : Cond.selects RX12 yX12_lower yX12_lower ∈ xWS := xw_mem (q := 6031) rfl rfl
theorem mw_609 : Cond.methodLink RL 179 yX11_count ∈ xWS := xw_mem (q := 4062) rfl rfl
theorem mw_610 : Cond.methodLink RL 182 yX12_count ∈ xWS := xw_mem (q := 6033) rfl rfl
theorem mw_611 : Cond.instanceMethod yX12_count ∈ xWS := xw_mem (q := 6034) rfl rfl
theorem mw_612 : Cond.selects RX12 yX12_count yX12_count ∈ xWS := xw_mem (q := 6035) rfl rfl
theorem mw_613 : Cond.methodLink RL 183 yX11_finding ∈ xWS := xw_mem (q := 4077) rfl rfl
theorem mw_614 : Cond.instanceMethod yX11_finding ∈ xWS := xw_mem (q := 4078) rfl rfl
theorem mw_615 : Cond.selects RX11 yX11_finding yX11_finding ∈ xWS := xw_mem (q := 4079) rfl rfl
theorem mw_616 : Cond.methodLink RL 186 yX12_finding ∈ xWS := xw_mem (q := 6048) rfl rfl
theorem mw_617 : Cond.instanceMethod yX12_finding ∈ xWS := xw_mem (q := 6049) rfl rfl
theorem mw_618 : Cond.selects RX12 yX12_finding yX12_finding ∈ xWS := xw_mem (q := 6050) rfl rfl
theorem mw_619 : Cond.methodLink RL 187 yX11_findings ∈ xWS := xw_mem (q := 4081) rfl rfl
theorem mw_620 : Cond.instanceMethod yX11_findings ∈ xWS := xw_mem (q := 4082) rfl rfl
theorem mw_621 : Cond.selects RX11 yX11_findings yX11_findings ∈ xWS := xw_mem (q := 4083) rfl rfl
theorem mw_622 : Cond.methodLink RL 190 yX12_findings ∈ xWS := xw_mem (q := 6052) rfl rfl
theorem mw_623 : Cond.instanceMethod yX12_findings ∈ xWS := xw_mem (q := 6053) rfl rfl
theorem mw_624 : Cond.selects RX12 yX12_findings yX12_findings ∈ xWS := xw_mem (q := 6054) rfl rfl
theorem mw_625 : Cond.methodLink RL 191 yX11_digest ∈ xWS := xw_mem (q := 4085) rfl rfl
theorem mw_626 : Cond.instanceMethod yX11_digest ∈ xWS := xw_mem (q := 4086) rfl rfl
theorem mw_627 : Cond.selects RX11 yX11_digest yX11_digest ∈ xWS := xw_mem (q := 4087) rfl rfl
theorem mw_628 : Cond.methodLink RL 194 yX12_digest ∈ xWS := xw_mem (q := 6056) rfl rfl
theorem mw_629 : Cond.instanceMethod yX12_digest ∈ xWS := xw_mem (q := 6057) rfl rfl
theorem mw_630 : Cond.selects RX12 yX12_digest yX12_digest ∈ xWS := xw_mem (q := 6058) rfl rfl
theorem mw_631 : Cond.classLink RX11 9 RX0 ∈ xWS := xw_mem (q := 1025) rfl rfl
theorem mw_632 : Cond.classLink RX11 18 RX7 ∈ xWS := xw_mem (q := 1027) rfl rfl
theorem mw_633 : Cond.classLink RX11 24 RX2 ∈ xWS := xw_mem (q := 1029) rfl rfl
theorem mw_634 : Cond.classLink RL 7 RX11 ∈ xWS := xw_mem (q := 1017) rfl rfl
theorem mw_635 : Cond.instantiable RX11 16 ∈ xWS := xw_mem (q := 1018) rfl rfl
theorem mw_636 : Cond.classLink RL 10 RX12 ∈ xWS := xw_mem (q := 4095) rfl rfl
theorem mw_637 : Cond.instantiable RX12 32 ∈ xWS := xw_mem (q := 4096) rfl rfl
theorem mw_638 : Cond.instantiable RX0 2 ∈ xWS := xw_mem (q := 1069) rfl rfl
theorem mw_639 : Cond.instantiable RX7 2 ∈ xWS := xw_mem (q := 1161) rfl rfl
theorem mw_640 : Cond.instantiable RX2 2 ∈ xWS := xw_mem (q := 1030) rfl rfl
theorem mw_641 : Cond.classLink RX11 35 RX8 ∈ xWS := xw_mem (q := 1047) rfl rfl
theorem mw_642 : Cond.instantiable RX8 5 ∈ xWS := xw_mem (q := 1048) rfl rfl
theorem mw_643 : Cond.classLink RX11 59 RX1 ∈ xWS := xw_mem (q := 1084) rfl rfl
theorem mw_644 : Cond.instantiable RX1 5 ∈ xWS := xw_mem (q := 1085) rfl rfl
theorem mw_645 : Cond.classLink RX11 178 RX6 ∈ xWS := xw_mem (q := 1143) rfl rfl
theorem mw_646 : Cond.instantiable RX6 2 ∈ xWS := xw_mem (q := 1144) rfl rfl
theorem mw_647 : Cond.classLink RX11 310 RX5 ∈ xWS := xw_mem (q := 1109) rfl rfl
theorem mw_648 : Cond.instantiable RX5 2 ∈ xWS := xw_mem (q := 1110) rfl rfl
theorem mw_649 : Cond.classLink RX11 314 RX9 ∈ xWS := xw_mem (q := 1125) rfl rfl
theorem mw_650 : Cond.instantiable RX9 2 ∈ xWS := xw_mem (q := 1126) rfl rfl
theorem mw_651 : Cond.classLink RX11 317 RX10 ∈ xWS := xw_mem (q := 1134) rfl rfl
theorem mw_652 : Cond.instantiable RX10 2 ∈ xWS := xw_mem (q := 1135) rfl rfl
theorem mw_653 : Cond.classLink RX11 321 RX4 ∈ xWS := xw_mem (q := 1152) rfl rfl
theorem mw_654 : Cond.instantiable RX4 2 ∈ xWS := xw_mem (q := 1153) rfl rfl
theorem mw_655 : Cond.constantLong RX11 279 (12) ∈ xWS := xw_mem (q := 4037) rfl rfl
theorem mw_656 : Cond.constantLong RX12 237 (12) ∈ xWS := xw_mem (q := 6007) rfl rfl
theorem mw_657 : Cond.constantLong RX11 281 (2147483647) ∈ xWS := xw_mem (q := 4046) rfl rfl
theorem mw_658 : Cond.constantLong RX11 283 (48271) ∈ xWS := xw_mem (q := 4047) rfl rfl
theorem mw_659 : Cond.constantLong RX11 285 (8) ∈ xWS := xw_mem (q := 4048) rfl rfl
theorem mw_660 : Cond.constantLong RX11 287 (6) ∈ xWS := xw_mem (q := 4049) rfl rfl
theorem mw_661 : Cond.constant RX12 239 (2147483646) ∈ xWS := xw_mem (q := 6016) rfl rfl
theorem mw_662 : Cond.constantLong RX12 240 (48271) ∈ xWS := xw_mem (q := 6017) rfl rfl
theorem mw_663 : Cond.constantLong RX12 242 (2147483647) ∈ xWS := xw_mem (q := 6018) rfl rfl
theorem mw_664 : Cond.constantLong RX12 244 (8) ∈ xWS := xw_mem (q := 6019) rfl rfl
theorem mw_665 : Cond.constantLong RX12 246 (6) ∈ xWS := xw_mem (q := 6020) rfl rfl
theorem mw_666 : Cond.constantLong RX11 299 (17) ∈ xWS := xw_mem (q := 4089) rfl rfl
theorem mw_667 : Cond.constantLong RX11 301 (31) ∈ xWS := xw_mem (q := 4090) rfl rfl
theorem mw_668 : Cond.constantLong RX12 263 (17) ∈ xWS := xw_mem (q := 6060) rfl rfl
theorem mw_669 : Cond.constantLong RX12 258 (31) ∈ xWS := xw_mem (q := 6065) rfl rfl
theorem ml_0 : ∀ w ∈ u_ws RX0 TX0 2, w ∈ xWS := List.forall_mem_cons.mpr ⟨xw_mem (q := 1079) rfl rfl, List.forall_mem_cons.mpr ⟨xw_mem (q := 1081) rfl rfl, fun _ h => absurd h List.not_mem_nil⟩⟩
theorem ml_1 : ∀ w ∈ u_ws RX1 TX1 5, w ∈ xWS := List.forall_mem_cons.mpr ⟨xw_mem (q := 1095) rfl rfl, List.forall_mem_cons.mpr ⟨xw_mem (q := 1097) rfl rfl, List.forall_mem_cons.mpr ⟨xw_mem (q := 1099) rfl rfl, List.forall_mem_cons.mpr ⟨xw_mem (q := 1101) rfl rfl, List.forall_mem_cons.mpr ⟨xw_mem (q := 1103) rfl rfl, fun _ h => absurd h List.not_mem_nil⟩⟩⟩⟩⟩
theorem ml_2 : ∀ w ∈ u_ws RX2 TX2 2, w ∈ xWS := List.forall_mem_cons.mpr ⟨xw_mem (q := 1040) rfl rfl, List.forall_mem_cons.mpr ⟨xw_mem (q := 1042) rfl rfl, fun _ h => absurd h List.not_mem_nil⟩⟩
theorem ml_3 : ∀ w ∈ u_ws RX4 TX4 2, w ∈ xWS := List.forall_mem_cons.mpr ⟨xw_mem (q := 1158) rfl rfl, List.forall_mem_cons.mpr ⟨xw_mem (q := 1159) rfl rfl, fun _ h => absurd h List.not_mem_nil⟩⟩
theorem ml_4 : ∀ w ∈ u_ws RX5 TX5 2, w ∈ xWS := List.forall_mem_cons.mpr ⟨xw_mem (q := 1120) rfl rfl, List.forall_mem_cons.mpr ⟨xw_mem (q := 1122) rfl rfl, fun _ h => absurd h List.not_mem_nil⟩⟩
theorem ml_5 : ∀ w ∈ u_ws RX6 TX6 2, w ∈ xWS := List.forall_mem_cons.mpr ⟨xw_mem (q := 1149) rfl rfl, List.forall_mem_cons.mpr ⟨xw_mem (q := 1150) rfl rfl, fun _ h => absurd h List.not_mem_nil⟩⟩
theorem ml_6 : ∀ w ∈ u_ws RX7 TX7 2, w ∈ xWS := List.forall_mem_cons.mpr ⟨xw_mem (q := 1163) rfl rfl, List.forall_mem_cons.mpr ⟨xw_mem (q := 1164) rfl rfl, fun _ h => absurd h List.not_mem_nil⟩⟩
theorem ml_7 : ∀ w ∈ u_ws RX8 TX8 5, w ∈ xWS := List.forall_mem_cons.mpr ⟨xw_mem (q := 1058) rfl rfl, List.forall_mem_cons.mpr ⟨xw_mem (q := 1060) rfl rfl, List.forall_mem_cons.mpr ⟨xw_mem (q := 1062) rfl rfl, List.forall_mem_cons.mpr ⟨xw_mem (q := 1064) rfl rfl, List.forall_mem_cons.mpr ⟨xw_mem (q := 1066) rfl rfl, fun _ h => absurd h List.not_mem_nil⟩⟩⟩⟩⟩
theorem ml_8 : ∀ w ∈ u_ws RX9 TX9 2, w ∈ xWS := List.forall_mem_cons.mpr ⟨xw_mem (q := 1131) rfl rfl, List.forall_mem_cons.mpr ⟨xw_mem (q := 1132) rfl rfl, fun _ h => absurd h List.not_mem_nil⟩⟩
theorem ml_9 : ∀ w ∈ u_ws RX10 TX10 2, w ∈ xWS := List.forall_mem_cons.mpr ⟨xw_mem (q := 1140) rfl rfl, List.forall_mem_cons.mpr ⟨xw_mem (q := 1141) rfl rfl, fun _ h => absurd h List.not_mem_nil⟩⟩
theorem ml_10 : ∀ w ∈ u_ws RX11 TX11 16, w ∈ xWS := List.forall_mem_cons.mpr ⟨xw_mem (q := 1186) rfl rfl, List.forall_mem_cons.mpr ⟨xw_mem (q := 1188) rfl rfl, List.forall_mem_cons.mpr ⟨xw_mem (q := 1190) rfl rfl, List.forall_mem_cons.mpr ⟨xw_mem (q := 1192) rfl rfl, List.forall_mem_cons.mpr ⟨xw_mem (q := 1194) rfl rfl, List.forall_mem_cons.mpr ⟨xw_mem (q := 1196) rfl rfl, List.forall_mem_cons.mpr ⟨xw_mem (q := 1198) rfl rfl, List.forall_mem_cons.mpr ⟨xw_mem (q := 1200) rfl rfl, List.forall_mem_cons.mpr ⟨xw_mem (q := 1202) rfl rfl, List.forall_mem_cons.mpr ⟨xw_mem (q := 1204) rfl rfl, List.forall_mem_cons.mpr ⟨xw_mem (q := 1206) rfl rfl, List.forall_mem_cons.mpr ⟨xw_mem (q := 1208) rfl rfl, List.forall_mem_cons.mpr ⟨xw_mem (q := 1210) rfl rfl, List.forall_mem_cons.mpr ⟨xw_mem (q := 1212) rfl rfl, List.forall_mem_cons.mpr ⟨xw_mem (q := 1214) rfl rfl, List.forall_mem_cons.mpr ⟨xw_mem (q := 1216) rfl rfl, fun _ h => absurd h List.not_mem_nil⟩⟩⟩⟩⟩⟩⟩⟩⟩⟩⟩⟩⟩⟩⟩⟩
theorem ml_11 : ∀ w ∈ u_ws RX12 TX12 32, w ∈ xWS := List.forall_mem_cons.mpr ⟨xw_mem (q := 4133) rfl rfl, List.forall_mem_cons.mpr ⟨xw_mem (q := 4135) rfl rfl, List.forall_mem_cons.mpr ⟨xw_mem (q := 4137) rfl rfl, List.forall_mem_cons.mpr ⟨xw_mem (q := 4139) rfl rfl, List.forall_mem_cons.mpr ⟨xw_mem (q := 4141) rfl rfl, List.forall_mem_cons.mpr ⟨xw_mem (q := 4143) rfl rfl, List.forall_mem_cons.mpr ⟨xw_mem (q := 4145) rfl rfl, List.forall_mem_cons.mpr ⟨xw_mem (q := 4147) rfl rfl, List.forall_mem_cons.mpr ⟨xw_mem (q := 4149) rfl rfl, List.forall_mem_cons.mpr ⟨xw_mem (q := 4151) rfl rfl, List.forall_mem_cons.mpr ⟨xw_mem (q := 4153) rfl rfl, List.forall_mem_cons.mpr ⟨xw_mem (q := 4155) rfl rfl, List.forall_mem_cons.mpr ⟨xw_mem (q := 4157) rfl rfl, List.forall_mem_cons.mpr ⟨xw_mem (q := 4159) rfl rfl, List.forall_mem_cons.mpr ⟨xw_mem (q := 4161) rfl rfl, List.forall_mem_cons.mpr ⟨xw_mem (q := 4163) rfl rfl, List.forall_mem_cons.mpr ⟨xw_mem (q := 4165) rfl rfl, List.forall_mem_cons.mpr ⟨xw_mem (q := 4167) rfl rfl, List.forall_mem_cons.mpr ⟨xw_mem (q := 4169) rfl rfl, List.forall_mem_cons.mpr ⟨xw_mem (q := 4171) rfl rfl, List.forall_mem_cons.mpr ⟨xw_mem (q := 4173) rfl rfl, List.forall_mem_cons.mpr ⟨xw_mem (q := 4175) rfl rfl, List.forall_mem_cons.mpr ⟨xw_mem (q := 4177) rfl rfl, List.forall_mem_cons.mpr ⟨xw_mem (q := 4179) rfl rfl, List.forall_mem_cons.mpr ⟨xw_mem (q := 4181) rfl rfl, List.forall_mem_cons.mpr ⟨xw_mem (q := 4183) rfl rfl, List.forall_mem_cons.mpr ⟨xw_mem (q := 4185) rfl rfl, List.forall_mem_cons.mpr ⟨xw_mem (q := 4187) rfl rfl, List.forall_mem_cons.mpr ⟨xw_mem (q := 4189) rfl rfl, List.forall_mem_cons.mpr ⟨xw_mem (q := 4191) rfl rfl, List.forall_mem_cons.mpr ⟨xw_mem (q := 4193) rfl rfl, List.forall_mem_cons.mpr ⟨xw_mem (q := 4195) rfl rfl, fun _ h => absurd h List.not_mem_nil⟩⟩⟩⟩⟩⟩⟩⟩⟩⟩⟩⟩⟩⟩⟩⟩⟩⟩⟩⟩⟩⟩⟩⟩⟩⟩⟩⟩⟩⟩⟩⟩
end
section
def RO (k : Nat) : String := match k with
  | 0 => RX0
  | 1 => RX1
  | 2 => RX2
  | 3 => RX3
  | 4 => RX4
  | 5 => RX5
  | 6 => RX6
  | 7 => RX7
  | 8 => RX8
  | 9 => RX9
  | 10 => RX10
  | 11 => RX11
  | 12 => RX12
  | _ => RL
/-- a field: index, place, sort, final, the kinds of objects -/
abbrev xFE : Type := Nat × Nat × Nat × Bool × List Nat
/-- a method: its instructions, class, locals, sort of answer, <init>; name, bytes, answer, arguments -/
abbrev xME : Type := (xI × Nat × Nat × Nat × Bool) × (MethodName × ByteArray × Option FieldType × Nat)
/-- a call: index, form (0 static, 1 <init>, 2 <init> of a nest mate, 3 virtual, 4 Object, 5 max, 6 min), method, receivers -/
abbrev xCE : Type := Nat × Nat × Nat × List Nat
def xFL_0 : List xFE := [(9, 1, 0, false, [0]), (21, 0, 2, true, [0])]
def xCL_0 : List xCE := [(3, 2, 12, []), (15, 5, 0, []), (29, 6, 0, [])]
def xNL_0 : List (Nat × Nat × List Value) := []
def xAL_0 : List (Nat × Nat) := []
def xKL_0 : List (Nat × Value) := []
def xFL_1 : List xFE := [(9, 0, 2, true, [1]), (15, 1, 2, true, [1]), (18, 2, 0, false, [1]), (22, 3, 0, false, [1]), (25, 4, 0, false, [1])]
def xCL_1 : List xCE := [(3, 4, 0, [])]
def xNL_1 : List (Nat × Nat × List Value) := []
def xAL_1 : List (Nat × Nat) := []
def xKL_1 : List (Nat × Value) := []
def xFL_2 : List xFE := [(11, 0, 2, true, [2]), (15, 1, 0, false, [2])]
def xCL_2 : List xCE := [(3, 2, 12, [])]
def xNL_2 : List (Nat × Nat × List Value) := []
def xAL_2 : List (Nat × Nat) := []
def xKL_2 : List (Nat × Value) := []
def xFL_3 : List xFE := []
def xCL_3 : List xCE := [(1, 4, 0, [])]
def xNL_3 : List (Nat × Nat × List Value) := []
def xAL_3 : List (Nat × Nat) := []
def xKL_3 : List (Nat × Value) := []
def xFL_4 : List xFE := []
def xCL_4 : List xCE := [(1, 1, 21, [])]
def xNL_4 : List (Nat × Nat × List Value) := []
def xAL_4 : List (Nat × Nat) := []
def xKL_4 : List (Nat × Value) := []
def xFL_5 : List xFE := []
def xCL_5 : List xCE := [(3, 1, 16, [])]
def xNL_5 : List (Nat × Nat × List Value) := []
def xAL_5 : List (Nat × Nat) := []
def xKL_5 : List (Nat × Value) := []
def xFL_6 : List xFE := []
def xCL_6 : List xCE := [(3, 1, 14, [])]
def xNL_6 : List (Nat × Nat × List Value) := []
def xAL_6 : List (Nat × Nat) := []
def xKL_6 : List (Nat × Value) := []
def xFL_7 : List xFE := [(9, 0, 0, true, [3, 4, 5, 6, 8, 9]), (15, 1, 0, true, [3, 4, 5, 6, 8, 9])]
def xCL_7 : List xCE := [(3, 4, 0, [])]
def xNL_7 : List (Nat × Nat × List Value) := []
def xAL_7 : List (Nat × Nat) := []
def xKL_7 : List (Nat × Value) := []
def xFL_8 : List xFE := [(9, 0, 2, true, [7]), (15, 1, 2, true, [7]), (18, 2, 0, false, [7]), (22, 3, 2, true, [7]), (25, 4, 0, false, [7])]
def xCL_8 : List xCE := [(3, 4, 0, []), (28, 7, 72, [])]
def xNL_8 : List (Nat × Nat × List Value) := []
def xAL_8 : List (Nat × Nat) := []
def xKL_8 : List (Nat × Value) := []
def xFL_9 : List xFE := []
def xCL_9 : List xCE := [(3, 1, 16, [])]
def xNL_9 : List (Nat × Nat × List Value) := []
def xAL_9 : List (Nat × Nat) := []
def xKL_9 : List (Nat × Value) := []
def xFL_10 : List xFE := []
def xCL_10 : List xCE := [(1, 1, 16, [])]
def xNL_10 : List (Nat × Nat × List Value) := []
def xAL_10 : List (Nat × Nat) := []
def xKL_10 : List (Nat × Value) := []
def xFL_11 : List xFE := [(11, 0, 2, true, [10]), (15, 1, 2, true, [10]), (20, 2, 2, true, [10]), (27, 3, 2, true, [10]), (31, 4, 2, true, [10]), (38, 5, 2, false, [10]), (42, 6, 2, false, [10]), (48, 7, 2, true, [10]), (52, 8, 2, true, [10]), (56, 9, 2, true, [10]), (62, 10, 2, true, [10]), (66, 11, 0, false, [10]), (70, 12, 1, false, [10]), (74, 13, 1, false, [10]), (77, 14, 0, false, [10]), (80, 15, 2, true, [10])]
def xCL_11 : List xCE := [(1, 4, 0, []), (26, 2, 5, []), (37, 2, 17, []), (45, 1, 0, []), (61, 2, 4, []), (83, 0, 77, []), (87, 3, 8, [2]), (90, 0, 69, []), (94, 3, 68, [10]), (98, 3, 3, [0]), (102, 0, 74, []), (112, 3, 1, [0]), (125, 3, 2, [0]), (129, 0, 70, []), (136, 3, 9, [2]), (139, 3, 18, [7]), (142, 3, 73, [10]), (153, 3, 6, [2]), (185, 0, 72, []), (188, 3, 20, [7]), (191, 3, 19, [7]), (203, 3, 11, [2]), (206, 3, 10, [2]), (209, 0, 71, []), (216, 3, 7, [2]), (217, 0, 75, []), (226, 0, 76, []), (255, 6, 0, []), (289, 3, 78, [10]), (292, 0, 80, []), (296, 3, 79, [10]), (303, 3, 64, [10]), (306, 0, 81, []), (312, 1, 14, []), (316, 1, 21, []), (319, 1, 22, []), (320, 1, 15, []), (323, 1, 13, []), (324, 1, 16, [])]
def xNL_11 : List (Nat × Nat × List Value) := [(9, 0, [.null, .int 0]), (18, 6, [.int 0, .int 0]), (24, 2, [.null, .int 0]), (35, 7, [.null, .null, .int 0, .null, .int 0]), (59, 1, [.null, .null, .int 0, .int 0, .int 0]), (178, 5, [.int 0, .int 0]), (310, 4, [.int 0, .int 0]), (314, 8, [.int 0, .int 0]), (317, 9, [.int 0, .int 0]), (321, 3, [.int 0, .int 0])]
def xAL_11 : List (Nat × Nat) := [(9, 0), (18, 2), (24, 1)]
def xKL_11 : List (Nat × Value) := [(279, .long 12), (281, .long 2147483647), (283, .long 48271), (285, .long 8), (287, .long 6), (299, .long 17), (301, .long 31)]
def xFL_12 : List xFE := [(7, 0, 2, true, [11]), (13, 1, 2, true, [11]), (16, 2, 2, true, [11]), (19, 3, 2, true, [11]), (22, 4, 2, true, [11]), (25, 6, 2, true, [11]), (28, 8, 2, true, [11]), (31, 9, 2, true, [11]), (34, 11, 2, true, [11]), (37, 13, 2, true, [11]), (40, 15, 2, true, [11]), (43, 16, 2, true, [11]), (46, 17, 2, true, [11]), (49, 18, 2, true, [11]), (52, 19, 2, true, [11]), (55, 22, 1, false, [11]), (59, 24, 2, true, [11]), (62, 25, 2, true, [11]), (65, 26, 2, true, [11]), (68, 27, 2, true, [11]), (71, 23, 0, false, [11]), (75, 20, 0, false, [11]), (106, 28, 0, false, [11]), (112, 29, 0, false, [11]), (109, 30, 0, false, [11]), (125, 5, 0, false, [11]), (128, 7, 0, false, [11]), (147, 10, 0, false, [11]), (150, 12, 0, false, [11]), (153, 14, 0, false, [11]), (78, 21, 1, false, [11]), (260, 31, 1, false, [11])]
def xCL_12 : List xCE := [(1, 4, 0, []), (81, 0, 83, []), (85, 0, 85, []), (89, 3, 84, [11]), (93, 3, 88, [11]), (103, 0, 86, []), (173, 3, 98, [11]), (183, 0, 99, []), (189, 3, 106, [11]), (192, 3, 111, [11]), (202, 3, 112, [11]), (248, 3, 133, [11]), (251, 0, 134, []), (255, 3, 135, [11]), (265, 3, 139, [11])]
def xNL_12 : List (Nat × Nat × List Value) := []
def xAL_12 : List (Nat × Nat) := []
def xKL_12 : List (Nat × Value) := [(237, .long 12), (239, .int 2147483646), (240, .long 48271), (242, .long 2147483647), (244, .long 8), (246, .long 6), (263, .long 17), (258, .long 31)]
def xFL_13 : List xFE := []
def xCL_13 : List xCE := [(9, 1, 23, []), (12, 1, 82, []), (13, 3, 24, [10]), (17, 3, 87, [11]), (18, 3, 25, [10]), (22, 3, 89, [11]), (23, 3, 26, [10]), (26, 3, 90, [11]), (27, 3, 27, [10]), (31, 3, 91, [11]), (32, 3, 28, [10]), (36, 3, 92, [11]), (37, 3, 29, [10]), (40, 3, 93, [11]), (41, 3, 30, [10]), (44, 3, 94, [11]), (45, 3, 31, [10]), (48, 3, 95, [11]), (49, 3, 32, [10]), (52, 3, 96, [11]), (53, 3, 33, [10]), (56, 3, 97, [11]), (57, 3, 34, [10]), (60, 3, 100, [11]), (61, 3, 35, [10]), (64, 3, 101, [11]), (65, 3, 36, [10]), (68, 3, 102, [11]), (69, 3, 37, [10]), (72, 3, 103, [11]), (73, 3, 38, [10]), (76, 3, 104, [11]), (77, 3, 39, [10]), (80, 3, 105, [11]), (81, 3, 40, [10]), (85, 3, 107, [11]), (86, 3, 41, [10]), (89, 3, 108, [11]), (90, 3, 42, [10]), (93, 3, 109, [11]), (94, 3, 43, [10]), (97, 3, 110, [11]), (98, 3, 44, [10]), (101, 3, 113, [11]), (102, 3, 45, [10]), (105, 3, 114, [11]), (106, 3, 46, [10]), (109, 3, 115, [11]), (110, 3, 47, [10]), (113, 3, 116, [11]), (114, 3, 48, [10]), (117, 3, 117, [11]), (118, 3, 49, [10]), (121, 3, 118, [11]), (122, 3, 50, [10]), (125, 3, 119, [11]), (126, 3, 51, [10]), (129, 3, 120, [11]), (130, 3, 52, [10]), (133, 3, 121, [11]), (134, 3, 53, [10]), (137, 3, 122, [11]), (138, 3, 54, [10]), (141, 3, 123, [11]), (142, 3, 55, [10]), (145, 3, 124, [11]), (146, 3, 56, [10]), (149, 3, 125, [11]), (150, 3, 57, [10]), (153, 3, 126, [11]), (154, 3, 58, [10]), (157, 3, 127, [11]), (158, 3, 59, [10]), (161, 3, 128, [11]), (162, 3, 60, [10]), (165, 3, 129, [11]), (166, 3, 61, [10]), (169, 3, 130, [11]), (170, 3, 62, [10]), (174, 3, 131, [11]), (175, 3, 63, [10]), (178, 3, 132, [11]), (179, 3, 64, [10]), (182, 3, 136, [11]), (183, 3, 65, [10]), (186, 3, 137, [11]), (187, 3, 66, [10]), (190, 3, 138, [11]), (191, 3, 67, [10]), (194, 3, 140, [11])]
def xNL_13 : List (Nat × Nat × List Value) := [(7, 10, [.null, .null, .null, .null, .null, .null, .null, .null, .null, .null, .null, .int 0, .long 0, .long 0, .int 0, .null]), (10, 11, [.null, .null, .null, .null, .null, .int 0, .null, .int 0, .null, .null, .int 0, .null, .int 0, .null, .int 0, .null, .null, .null, .null, .null, .int 0, .long 0, .long 0, .int 0, .null, .null, .null, .null, .int 0, .int 0, .int 0, .long 0])]
def xAL_13 : List (Nat × Nat) := []
def xKL_13 : List (Nat × Value) := []
def xFL : List (List xFE) := [xFL_0, xFL_1, xFL_2, xFL_3, xFL_4, xFL_5, xFL_6, xFL_7, xFL_8, xFL_9, xFL_10, xFL_11, xFL_12, xFL_13]
def xCL : List (List xCE) := [xCL_0, xCL_1, xCL_2, xCL_3, xCL_4, xCL_5, xCL_6, xCL_7, xCL_8, xCL_9, xCL_10, xCL_11, xCL_12, xCL_13]
def xNL : List (List (Nat × Nat × List Value)) := [xNL_0, xNL_1, xNL_2, xNL_3, xNL_4, xNL_5, xNL_6, xNL_7, xNL_8, xNL_9, xNL_10, xNL_11, xNL_12, xNL_13]
def xAL : List (List (Nat × Nat)) := [xAL_0, xAL_1, xAL_2, xAL_3, xAL_4, xAL_5, xAL_6, xAL_7, xAL_8, xAL_9, xAL_10, xAL_11, xAL_12, xAL_13]
def xKL : List (List (Nat × Value)) := [xKL_0, xKL_1, xKL_2, xKL_3, xKL_4, xKL_5, xKL_6, xKL_7, xKL_8, xKL_9, xKL_10, xKL_11, xKL_12, xKL_13]
def xf (oc i : Nat) : Option xFE := match xFL[oc]? with
  | some r => r.find? (fun q => q.1 == i)
  | none => none
def xc (oc i : Nat) : Option xCE := match xCL[oc]? with
  | some r => r.find? (fun q => q.1 == i)
  | none => none
def xn (oc i : Nat) : Option (Nat × Nat × List Value) := match xNL[oc]? with
  | some r => r.find? (fun q => q.1 == i)
  | none => none
def xa (oc i : Nat) : Option (Nat × Nat) := match xAL[oc]? with
  | some r => r.find? (fun q => q.1 == i)
  | none => none
def xk (oc i : Nat) : Option (Nat × Value) := match xKL[oc]? with
  | some r => r.find? (fun q => q.1 == i)
  | none => none
def xt_0 : xI := [[(0, .aload_n 0, 1), (1, .invokespecial 3, 3), (4, .aload_n 0, 1), (5, .iconst (-1), 1), (6, .putfield 9, 3), (9, .aload_n 0, 1), (10, .iload_n 1, 1), (11, .iconst 0, 1), (12, .invokestatic 15, 3), (15, .newarray .int, 2)], [(17, .putfield 21, 3), (20, .return_, 1)]]
def xt_1 : xI := [[(0, .aload_n 0, 1), (1, .getfield 9, 3), (4, .iconst (-1), 1), (5, .if_icmp .ne 7, 3), (8, .iconst 1, 1), (9, .goto 4, 3), (12, .iconst 0, 1), (13, .ireturn, 1)]]
def xt_2 : xI := [[(0, .aload_n 0, 1), (1, .getfield 9, 3), (4, .ireturn, 1)]]
def xt_3 : xI := [[(0, .aload_n 0, 1), (1, .iconst 0, 1), (2, .iload_n 1, 1), (3, .aload_n 0, 1), (4, .getfield 21, 3), (7, .arraylength, 1), (8, .invokestatic 29, 3), (11, .invokestatic 15, 3), (14, .putfield 9, 3)], [(17, .iconst 0, 1), (18, .istore_n 3, 1), (19, .iload_n 3, 1), (20, .aload_n 0, 1), (21, .getfield 9, 3), (24, .if_icmp .ge 16, 3), (27, .aload_n 0, 1), (28, .getfield 21, 3), (31, .iload_n 3, 1)], [(32, .iload_n 2, 1), (33, .iastore, 1), (34, .iinc 3 1, 3), (37, .goto (-18), 3), (40, .return_, 1)]]
def xt_4 : xI := [[(0, .aload_n 0, 1), (1, .invokespecial 3, 3), (4, .aload_n 0, 1), (5, .bipush 30, 2), (7, .newarray .int, 2), (9, .putfield 9, 3), (12, .aload_n 0, 1), (13, .bipush 30, 2), (15, .newarray .int, 2)], [(17, .putfield 15, 3), (20, .aload_n 0, 1), (21, .iconst 1, 1), (22, .putfield 18, 3), (25, .aload_n 0, 1), (26, .iconst 0, 1), (27, .putfield 22, 3), (30, .aload_n 0, 1), (31, .iconst 0, 1)], [(32, .putfield 25, 3), (35, .return_, 1)]]
def xt_5 : xI := [[(0, .aload_n 0, 1), (1, .invokespecial 3, 3), (4, .aload_n 0, 1), (5, .sipush 160, 3), (8, .newarray .int, 2), (10, .putfield 11, 3), (13, .aload_n 0, 1), (14, .iconst 0, 1), (15, .putfield 15, 3)], [(18, .return_, 1)]]
def xt_6 : xI := [[(0, .aload_n 0, 1), (1, .getfield 15, 3), (4, .ireturn, 1)]]
def xt_7 : xI := [[(0, .aload_n 0, 1), (1, .getfield 15, 3), (4, .iconst (-1), 1), (5, .if_icmp .ne 7, 3), (8, .iconst 1, 1), (9, .goto 4, 3), (12, .iconst 0, 1), (13, .ireturn, 1)]]
def xt_8 : xI := [[(0, .aload_n 0, 1), (1, .iconst (-1), 1), (2, .putfield 15, 3), (5, .return_, 1)]]
def xt_9 : xI := [[(0, .iload_n 1, 1), (1, .ifCond .lt 16, 3), (4, .iload_n 1, 1), (5, .aload_n 0, 1), (6, .getfield 15, 3), (9, .if_icmp .ge 8, 3), (12, .aload_n 0, 1), (13, .iload_n 1, 1), (14, .putfield 15, 3)], [(17, .return_, 1)]]
def xt_10 : xI := [[(0, .iconst 0, 1), (1, .istore_n 2, 1), (2, .iload_n 1, 1), (3, .istore_n 3, 1), (4, .iload_n 3, 1), (5, .aload_n 0, 1), (6, .getfield 15, 3), (9, .if_icmp .ge 23, 3), (12, .aload_n 0, 1), (13, .iload_n 3, 1), (14, .iconst 3, 1), (15, .invokevirtual 32, 3)], [(18, .bipush (-9), 2), (20, .if_icmp .eq 6, 3), (23, .iinc 2 1, 3), (26, .iinc 3 1, 3), (29, .goto (-25), 3)], [(32, .iload_n 2, 1), (33, .ireturn, 1)]]
def xt_11 : xI := [[(0, .iconst 0, 1), (1, .istore_n 1, 1), (2, .iload_n 1, 1), (3, .aload_n 0, 1), (4, .getfield 15, 3), (7, .if_icmp .ge 22, 3), (10, .aload_n 0, 1), (11, .iload_n 1, 1), (12, .iconst 3, 1), (13, .invokevirtual 32, 3)], [(16, .bipush (-9), 2), (18, .if_icmp .eq 5, 3), (21, .iload_n 1, 1), (22, .ireturn, 1), (23, .iinc 1 1, 3), (26, .goto (-24), 3), (29, .bipush (-9), 2), (31, .ireturn, 1)]]
def xt_12 : xI := [[(0, .aload_n 0, 1), (1, .invokespecial 1, 3), (4, .return_, 1)]]
def xt_13 : xI := [[(0, .aload_n 0, 1), (1, .iload_n 1, 1), (2, .iload_n 2, 1), (3, .invokespecial 1, 3), (6, .return_, 1)]]
def xt_14 : xI := [[(0, .aload_n 0, 1), (1, .iload_n 1, 1), (2, .iload_n 2, 1), (3, .invokespecial 3, 3), (6, .return_, 1)]]
def xt_15 : xI := [[(0, .aload_n 0, 1), (1, .iload_n 1, 1), (2, .iload_n 2, 1), (3, .invokespecial 3, 3), (6, .return_, 1)]]
def xt_16 : xI := [[(0, .aload_n 0, 1), (1, .invokespecial 3, 3), (4, .aload_n 0, 1), (5, .iload_n 1, 1), (6, .putfield 9, 3), (9, .aload_n 0, 1), (10, .iload_n 2, 1), (11, .putfield 15, 3), (14, .return_, 1)]]
def xt_17 : xI := [[(0, .aload_n 0, 1), (1, .invokespecial 3, 3), (4, .aload_n 0, 1), (5, .bipush 6, 2), (7, .newarray .int, 2), (9, .putfield 9, 3), (12, .aload_n 0, 1), (13, .bipush 6, 2), (15, .newarray .int, 2)], [(17, .putfield 15, 3), (20, .aload_n 0, 1), (21, .iconst 0, 1), (22, .putfield 18, 3), (25, .aload_n 0, 1), (26, .bipush 16, 2), (28, .newarray .int, 2), (30, .putfield 22, 3)], [(33, .aload_n 0, 1), (34, .iconst 0, 1), (35, .putfield 25, 3), (38, .return_, 1)]]
def xt_18 : xI := [[(0, .aload_n 0, 1), (1, .getfield 18, 3), (4, .ireturn, 1)]]
def xt_19 : xI := [[(0, .aload_n 0, 1), (1, .getfield 25, 3), (4, .ireturn, 1)]]
def xt_20 : xI := [[(0, .iload_n 1, 1), (1, .invokestatic 28, 3), (4, .ifCond .eq 12, 3), (7, .aload_n 0, 1), (8, .getfield 9, 3), (11, .iload_n 1, 1), (12, .iaload, 1), (13, .goto 4, 3)], [(16, .iconst 0, 1), (17, .ireturn, 1)]]
def xt_21 : xI := [[(0, .aload_n 0, 1), (1, .iload_n 1, 1), (2, .iload_n 2, 1), (3, .invokespecial 3, 3), (6, .return_, 1)]]
def xt_22 : xI := [[(0, .aload_n 0, 1), (1, .iload_n 1, 1), (2, .iload_n 2, 1), (3, .invokespecial 1, 3), (6, .return_, 1)]]
def xt_23 : xI := [[(0, .aload_n 0, 1), (1, .invokespecial 1, 3), (4, .aload_n 0, 1), (5, .bipush 6, 2), (7, .anewarray 9, 3), (10, .putfield 11, 3), (13, .aload_n 0, 1), (14, .iconst 4, 1), (15, .anewarray 9, 3)], [(18, .putfield 15, 3), (21, .aload_n 0, 1), (22, .bipush 24, 2), (24, .anewarray 18, 3), (27, .putfield 20, 3), (30, .aload_n 0, 1), (31, .new 24, 3)], [(34, .dup, 1), (35, .invokespecial 26, 3), (38, .putfield 27, 3), (41, .aload_n 0, 1), (42, .iconst 3, 1), (43, .anewarray 24, 3), (46, .putfield 31, 3)], [(49, .aload_n 0, 1), (50, .new 35, 3), (53, .dup, 1), (54, .invokespecial 37, 3), (57, .putfield 38, 3), (60, .aload_n 0, 1), (61, .new 35, 3)], [(64, .dup, 1), (65, .invokespecial 37, 3), (68, .putfield 42, 3), (71, .aload_n 0, 1), (72, .new 9, 3), (75, .dup, 1), (76, .bipush 12, 2), (78, .invokespecial 45, 3)], [(81, .putfield 48, 3), (84, .aload_n 0, 1), (85, .bipush 6, 2), (87, .newarray .int, 2), (89, .putfield 52, 3), (92, .aload_n 0, 1), (93, .bipush 6, 2), (95, .newarray .int, 2)], [(97, .putfield 56, 3), (100, .aload_n 0, 1), (101, .new 59, 3), (104, .dup, 1), (105, .invokespecial 61, 3), (108, .putfield 62, 3), (111, .aload_n 0, 1)], [(112, .iconst 0, 1), (113, .putfield 66, 3), (116, .aload_n 0, 1), (117, .lconst 0, 1), (118, .putfield 70, 3), (121, .aload_n 0, 1), (122, .lconst 1, 1), (123, .putfield 74, 3), (126, .aload_n 0, 1), (127, .iconst 0, 1)], [(128, .putfield 77, 3), (131, .aload_n 0, 1), (132, .bipush 6, 2), (134, .newarray .int, 2), (136, .putfield 80, 3), (139, .iconst 0, 1), (140, .istore_n 1, 1), (141, .iload_n 1, 1), (142, .bipush 6, 2)], [(144, .if_icmp .ge 24, 3), (147, .aload_n 0, 1), (148, .getfield 11, 3), (151, .iload_n 1, 1), (152, .new 9, 3), (155, .dup, 1), (156, .bipush 40, 2), (158, .invokespecial 45, 3)], [(161, .aastore, 1), (162, .iinc 1 1, 3), (165, .goto (-24), 3), (168, .iconst 0, 1), (169, .istore_n 1, 1), (170, .iload_n 1, 1), (171, .iconst 4, 1), (172, .if_icmp .ge 24, 3), (175, .aload_n 0, 1)], [(176, .getfield 15, 3), (179, .iload_n 1, 1), (180, .new 9, 3), (183, .dup, 1), (184, .bipush 60, 2), (186, .invokespecial 45, 3), (189, .aastore, 1), (190, .iinc 1 1, 3)], [(193, .goto (-23), 3), (196, .iconst 0, 1), (197, .istore_n 1, 1), (198, .iload_n 1, 1), (199, .bipush 24, 2), (201, .if_icmp .ge 24, 3), (204, .aload_n 0, 1), (205, .getfield 20, 3)], [(208, .iload_n 1, 1), (209, .iload_n 1, 1), (210, .iconst 4, 1), (211, .idiv, 1), (212, .iload_n 1, 1), (213, .iconst 4, 1), (214, .irem, 1), (215, .invokestatic 83, 3), (218, .aastore, 1), (219, .iinc 1 1, 3), (222, .goto (-24), 3)], [(225, .iconst 0, 1), (226, .istore_n 1, 1), (227, .iload_n 1, 1), (228, .iconst 3, 1), (229, .if_icmp .ge 31, 3), (232, .aload_n 0, 1), (233, .getfield 31, 3), (236, .iload_n 1, 1), (237, .new 24, 3)], [(240, .dup, 1), (241, .invokespecial 26, 3), (244, .aastore, 1), (245, .aload_n 0, 1), (246, .getfield 31, 3), (249, .iload_n 1, 1), (250, .aaload, 1), (251, .invokevirtual 87, 3), (254, .iinc 1 1, 3)], [(257, .goto (-30), 3), (260, .return_, 1)]]
def xt_24 : xI := [[(0, .iload_n 1, 1), (1, .invokestatic 90, 3), (4, .ifCond .eq 9, 3), (7, .iload_n 2, 1), (8, .bipush 40, 2), (10, .if_icmp .le 5, 3), (13, .iconst (-1), 1), (14, .ireturn, 1), (15, .iload_n 2, 1)], [(16, .ifCond .ge 9, 3), (19, .aload_n 0, 1), (20, .iconst 5, 1), (21, .invokevirtual 94, 3), (24, .ireturn, 1), (25, .aload_n 0, 1), (26, .getfield 11, 3), (29, .iload_n 1, 1), (30, .aaload, 1), (31, .iload_n 2, 1)], [(32, .iconst 0, 1), (33, .invokevirtual 98, 3), (36, .iload_n 2, 1), (37, .ireturn, 1)]]
def xt_25 : xI := [[(0, .iload_n 1, 1), (1, .invokestatic 90, 3), (4, .ifCond .ne 5, 3), (7, .iconst (-1), 1), (8, .ireturn, 1), (9, .aload_n 0, 1), (10, .getfield 11, 3), (13, .iload_n 1, 1), (14, .aaload, 1), (15, .iload_n 2, 1)], [(16, .invokestatic 102, 3), (19, .istore 4, 2), (21, .iload 4, 2), (23, .ifCond .eq 10, 3), (26, .aload_n 0, 1), (27, .iload 4, 2), (29, .invokevirtual 94, 3)], [(32, .ireturn, 1), (33, .aload_n 0, 1), (34, .aload_n 0, 1), (35, .getfield 11, 3), (38, .iload_n 1, 1), (39, .aaload, 1), (40, .iload_n 2, 1), (41, .invokevirtual 106, 3), (44, .putfield 66, 3), (47, .aload_n 0, 1)], [(48, .getfield 11, 3), (51, .iload_n 1, 1), (52, .aaload, 1), (53, .iload_n 2, 1), (54, .iload_n 3, 1), (55, .invokevirtual 109, 3), (58, .iconst 1, 1), (59, .ireturn, 1)]]
def xt_26 : xI := [[(0, .iload_n 1, 1), (1, .invokestatic 90, 3), (4, .ifCond .ne 5, 3), (7, .iconst (-1), 1), (8, .ireturn, 1), (9, .aload_n 0, 1), (10, .getfield 11, 3), (13, .iload_n 1, 1), (14, .aaload, 1), (15, .iload_n 2, 1)], [(16, .invokestatic 102, 3), (19, .istore_n 3, 1), (20, .iload_n 3, 1), (21, .ifCond .eq 9, 3), (24, .aload_n 0, 1), (25, .iload_n 3, 1), (26, .invokevirtual 94, 3), (29, .ireturn, 1), (30, .aload_n 0, 1), (31, .aload_n 0, 1)], [(32, .getfield 11, 3), (35, .iload_n 1, 1), (36, .aaload, 1), (37, .iload_n 2, 1), (38, .invokevirtual 106, 3), (41, .putfield 66, 3), (44, .iconst 1, 1), (45, .ireturn, 1)]]
def xt_27 : xI := [[(0, .iload_n 1, 1), (1, .invokestatic 90, 3), (4, .ifCond .ne 5, 3), (7, .iconst (-1), 1), (8, .ireturn, 1), (9, .aload_n 0, 1), (10, .getfield 11, 3), (13, .iload_n 1, 1), (14, .aaload, 1), (15, .invokevirtual 112, 3)], [(18, .ifCond .eq 9, 3), (21, .aload_n 0, 1), (22, .iconst 1, 1), (23, .invokevirtual 94, 3), (26, .ireturn, 1), (27, .aload_n 0, 1), (28, .getfield 11, 3), (31, .iload_n 1, 1)], [(32, .aaload, 1), (33, .invokevirtual 116, 3), (36, .iconst 1, 1), (37, .ireturn, 1)]]
def xt_28 : xI := [[(0, .iload_n 1, 1), (1, .invokestatic 90, 3), (4, .ifCond .eq 10, 3), (7, .iload_n 3, 1), (8, .invokestatic 90, 3), (11, .ifCond .ne 5, 3), (14, .iconst (-1), 1), (15, .ireturn, 1)], [(16, .iload 5, 2), (18, .ifCond .ge 9, 3), (21, .aload_n 0, 1), (22, .iconst 5, 1), (23, .invokevirtual 94, 3), (26, .ireturn, 1), (27, .aload_n 0, 1), (28, .getfield 11, 3), (31, .iload_n 1, 1)], [(32, .aaload, 1), (33, .invokevirtual 112, 3), (36, .ifCond .ne 15, 3), (39, .aload_n 0, 1), (40, .getfield 11, 3), (43, .iload_n 3, 1), (44, .aaload, 1), (45, .invokevirtual 112, 3)], [(48, .ifCond .eq 9, 3), (51, .aload_n 0, 1), (52, .iconst 1, 1), (53, .invokevirtual 94, 3), (56, .ireturn, 1), (57, .aload_n 0, 1), (58, .getfield 11, 3), (61, .iload_n 1, 1), (62, .aaload, 1), (63, .iload_n 2, 1)], [(64, .iload 5, 2), (66, .invokevirtual 117, 3), (69, .ifCond .eq 19, 3), (72, .aload_n 0, 1), (73, .getfield 11, 3), (76, .iload_n 3, 1), (77, .aaload, 1), (78, .iload 4, 2)], [(80, .iload 5, 2), (82, .invokevirtual 117, 3), (85, .ifCond .ne 9, 3), (88, .aload_n 0, 1), (89, .iconst 2, 1), (90, .invokevirtual 94, 3), (93, .ireturn, 1), (94, .aload_n 0, 1), (95, .getfield 11, 3)], [(98, .iload_n 3, 1), (99, .aaload, 1), (100, .aload_n 0, 1), (101, .getfield 11, 3), (104, .iload_n 1, 1), (105, .aaload, 1), (106, .iload_n 2, 1), (107, .iload 4, 2), (109, .iload 5, 2), (111, .invokevirtual 121, 3)], [(114, .iconst 1, 1), (115, .ireturn, 1)]]
def xt_29 : xI := [[(0, .iload_n 1, 1), (1, .invokestatic 90, 3), (4, .ifCond .ne 5, 3), (7, .iconst (-1), 1), (8, .ireturn, 1), (9, .aload_n 0, 1), (10, .getfield 11, 3), (13, .iload_n 1, 1), (14, .aaload, 1), (15, .astore_n 2, 1)], [(16, .aload_n 2, 1), (17, .invokevirtual 112, 3), (20, .ifCond .eq 9, 3), (23, .aload_n 0, 1), (24, .iconst 1, 1), (25, .invokevirtual 94, 3), (28, .ireturn, 1), (29, .aload_n 2, 1), (30, .invokevirtual 125, 3)], [(33, .istore_n 3, 1), (34, .iload_n 3, 1), (35, .ifCond .ne 9, 3), (38, .aload_n 0, 1), (39, .iconst 4, 1), (40, .invokevirtual 94, 3), (43, .ireturn, 1), (44, .lconst 0, 1), (45, .lstore 4, 2), (47, .iconst 0, 1)], [(48, .istore 6, 2), (50, .iload 6, 2), (52, .iload_n 3, 1), (53, .if_icmp .ge 21, 3), (56, .lload 4, 2), (58, .aload_n 2, 1), (59, .iload 6, 2), (61, .invokevirtual 106, 3)], [(64, .i2l, 1), (65, .ladd, 1), (66, .lstore 4, 2), (68, .iinc 6 1, 3), (71, .goto (-21), 3), (74, .aload_n 0, 1), (75, .lload 4, 2), (77, .iload_n 3, 1), (78, .i2l, 1), (79, .ldiv, 1)], [(80, .l2i, 1), (81, .putfield 66, 3), (84, .iconst 1, 1), (85, .ireturn, 1)]]
def xt_30 : xI := [[(0, .iload_n 1, 1), (1, .invokestatic 129, 3), (4, .ifCond .eq 9, 3), (7, .iload_n 2, 1), (8, .bipush 60, 2), (10, .if_icmp .le 5, 3), (13, .iconst (-1), 1), (14, .ireturn, 1), (15, .iload_n 2, 1)], [(16, .ifCond .ge 9, 3), (19, .aload_n 0, 1), (20, .iconst 5, 1), (21, .invokevirtual 94, 3), (24, .ireturn, 1), (25, .aload_n 0, 1), (26, .getfield 15, 3), (29, .iload_n 1, 1), (30, .aaload, 1), (31, .iload_n 2, 1)], [(32, .bipush 32, 2), (34, .invokevirtual 98, 3), (37, .iload_n 2, 1), (38, .ireturn, 1)]]
def xt_31 : xI := [[(0, .iload_n 1, 1), (1, .invokestatic 129, 3), (4, .ifCond .ne 5, 3), (7, .iconst (-1), 1), (8, .ireturn, 1), (9, .aload_n 0, 1), (10, .getfield 15, 3), (13, .iload_n 1, 1), (14, .aaload, 1), (15, .iload_n 2, 1)], [(16, .invokestatic 102, 3), (19, .istore 4, 2), (21, .iload 4, 2), (23, .ifCond .eq 10, 3), (26, .aload_n 0, 1), (27, .iload 4, 2), (29, .invokevirtual 94, 3)], [(32, .ireturn, 1), (33, .aload_n 0, 1), (34, .getfield 15, 3), (37, .iload_n 1, 1), (38, .aaload, 1), (39, .iload_n 2, 1), (40, .invokevirtual 106, 3), (43, .istore 5, 2), (45, .aload_n 0, 1), (46, .getfield 15, 3)], [(49, .iload_n 1, 1), (50, .aaload, 1), (51, .iload_n 2, 1), (52, .iload_n 3, 1), (53, .i2b, 1), (54, .invokevirtual 109, 3), (57, .iload 5, 2), (59, .sipush 1000, 3), (62, .iadd, 1), (63, .ireturn, 1)]]
def xt_32 : xI := [[(0, .iload_n 1, 1), (1, .invokestatic 129, 3), (4, .ifCond .ne 5, 3), (7, .iconst (-1), 1), (8, .ireturn, 1), (9, .aload_n 0, 1), (10, .getfield 15, 3), (13, .iload_n 1, 1), (14, .aaload, 1), (15, .invokevirtual 112, 3)], [(18, .ifCond .eq 9, 3), (21, .aload_n 0, 1), (22, .iconst 1, 1), (23, .invokevirtual 94, 3), (26, .ireturn, 1), (27, .aload_n 0, 1), (28, .getfield 42, 3), (31, .aload_n 0, 1)], [(32, .getfield 15, 3), (35, .iload_n 1, 1), (36, .aaload, 1), (37, .invokevirtual 132, 3), (40, .ireturn, 1)]]
def xt_33 : xI := [[(0, .iload_n 1, 1), (1, .invokestatic 129, 3), (4, .ifCond .ne 5, 3), (7, .iconst (-1), 1), (8, .ireturn, 1), (9, .aload_n 0, 1), (10, .getfield 15, 3), (13, .iload_n 1, 1), (14, .aaload, 1), (15, .invokevirtual 112, 3)], [(18, .ifCond .eq 9, 3), (21, .aload_n 0, 1), (22, .iconst 1, 1), (23, .invokevirtual 94, 3), (26, .ireturn, 1), (27, .aload_n 0, 1), (28, .getfield 42, 3), (31, .aload_n 0, 1)], [(32, .getfield 15, 3), (35, .iload_n 1, 1), (36, .aaload, 1), (37, .invokevirtual 132, 3), (40, .bipush (-9), 2), (42, .if_icmp .eq 6, 3), (45, .bipush (-4), 2), (47, .ireturn, 1)], [(48, .aload_n 0, 1), (49, .getfield 38, 3), (52, .astore_n 2, 1), (53, .aload_n 0, 1), (54, .aload_n 0, 1), (55, .getfield 42, 3), (58, .putfield 38, 3), (61, .aload_n 0, 1), (62, .aload_n 2, 1), (63, .putfield 42, 3)], [(66, .aload_n 0, 1), (67, .getfield 27, 3), (70, .iconst 0, 1), (71, .invokevirtual 136, 3), (74, .iconst 0, 1), (75, .istore_n 3, 1), (76, .iload_n 3, 1), (77, .iconst 3, 1), (78, .if_icmp .ge 18, 3)], [(81, .aload_n 0, 1), (82, .getfield 31, 3), (85, .iload_n 3, 1), (86, .aaload, 1), (87, .invokevirtual 87, 3), (90, .iinc 3 1, 3), (93, .goto (-17), 3)], [(96, .aload_n 0, 1), (97, .getfield 38, 3), (100, .invokevirtual 139, 3), (103, .ireturn, 1)]]
def xt_34 : xI := [[(0, .aload_n 0, 1), (1, .iload_n 1, 1), (2, .invokevirtual 142, 3), (5, .ifCond .eq 12, 3), (8, .iload_n 2, 1), (9, .ifCond .lt 8, 3), (12, .iload_n 2, 1), (13, .iconst 3, 1), (14, .if_icmp .le 5, 3)], [(17, .iconst (-1), 1), (18, .ireturn, 1), (19, .aload_n 0, 1), (20, .aload_n 0, 1), (21, .iload_n 1, 1), (22, .iload_n 2, 1), (23, .invokevirtual 145, 3), (26, .putfield 66, 3), (29, .iconst 1, 1), (30, .ireturn, 1)]]
def xt_35 : xI := [[(0, .aload_n 0, 1), (1, .iload_n 1, 1), (2, .invokevirtual 142, 3), (5, .ifCond .eq 13, 3), (8, .iload_n 2, 1), (9, .iconst 1, 1), (10, .if_icmp .lt 8, 3), (13, .iload_n 2, 1), (14, .iconst 5, 1), (15, .if_icmp .le 5, 3)], [(18, .iconst (-1), 1), (19, .ireturn, 1), (20, .aload_n 0, 1), (21, .iload_n 1, 1), (22, .invokevirtual 149, 3), (25, .astore_n 3, 1), (26, .aload_n 0, 1), (27, .getfield 27, 3), (30, .invokevirtual 153, 3)], [(33, .istore 4, 2), (35, .aload_n 3, 1), (36, .iload_n 2, 1), (37, .invokevirtual 154, 3), (40, .ifCond .ne 9, 3), (43, .aload_n 0, 1), (44, .iconst 3, 1), (45, .invokevirtual 94, 3)], [(48, .ireturn, 1), (49, .iload_n 2, 1), (50, .tableswitch 84 1 4 #[30, 57, 63, 78], 30)], [], [(80, .aload_n 3, 1), (81, .invokevirtual 157, 3), (84, .ifCond .ne 8, 3), (87, .bipush (-9), 2), (89, .goto 17, 3), (92, .aload_n 0, 1), (93, .getfield 38, 3)], [(96, .aload_n 3, 1), (97, .aload_n 0, 1), (98, .getfield 27, 3), (101, .iload 4, 2), (103, .invokevirtual 160, 3), (106, .ireturn, 1), (107, .aload_n 0, 1), (108, .aload_n 3, 1), (109, .invokevirtual 164, 3)], [(112, .ireturn, 1), (113, .aload_n 0, 1), (114, .getfield 38, 3), (117, .aload_n 3, 1), (118, .iload 4, 2), (120, .iconst 0, 1), (121, .invokevirtual 168, 3), (124, .invokestatic 172, 3), (127, .ireturn, 1)], [(128, .iload 4, 2), (130, .invokestatic 177, 3), (133, .ireturn, 1), (134, .aload_n 0, 1), (135, .getfield 38, 3), (138, .aload_n 3, 1), (139, .iload 4, 2), (141, .iconst 0, 1), (142, .invokevirtual 182, 3)], [(145, .ireturn, 1)]]
def xt_36 : xI := [[(0, .iload_n 1, 1), (1, .invokestatic 185, 3), (4, .ifCond .eq 14, 3), (7, .aload_n 0, 1), (8, .getfield 38, 3), (11, .iload_n 1, 1), (12, .invokevirtual 188, 3), (15, .goto 4, 3)], [(18, .iconst (-1), 1), (19, .ireturn, 1)]]
def xt_37 : xI := [[(0, .iload_n 1, 1), (1, .ifCond .lt 23, 3), (4, .iload_n 1, 1), (5, .aload_n 0, 1), (6, .getfield 38, 3), (9, .invokevirtual 191, 3), (12, .if_icmp .ge 12, 3), (15, .iload_n 2, 1)], [(16, .ifCond .lt 8, 3), (19, .iload_n 2, 1), (20, .iconst 1, 1), (21, .if_icmp .le 5, 3), (24, .iconst (-1), 1), (25, .ireturn, 1), (26, .aload_n 0, 1), (27, .getfield 38, 3), (30, .iload_n 1, 1), (31, .iload_n 2, 1)], [(32, .invokevirtual 194, 3), (35, .ireturn, 1)]]
def xt_38 : xI := [[(0, .aload_n 0, 1), (1, .iload_n 1, 1), (2, .invokevirtual 142, 3), (5, .ifCond .eq 10, 3), (8, .iload_n 2, 1), (9, .invokestatic 185, 3), (12, .ifCond .ne 5, 3), (15, .iconst (-1), 1)], [(16, .ireturn, 1), (17, .aload_n 0, 1), (18, .getfield 27, 3), (21, .invokevirtual 153, 3), (24, .bipush 40, 2), (26, .if_icmp .lt 6, 3), (29, .bipush (-2), 2), (31, .ireturn, 1)], [(32, .aload_n 0, 1), (33, .iload_n 1, 1), (34, .iload_n 2, 1), (35, .invokevirtual 197, 3), (38, .ireturn, 1)]]
def xt_39 : xI := [[(0, .iload_n 1, 1), (1, .ifCond .lt 23, 3), (4, .iload_n 1, 1), (5, .aload_n 0, 1), (6, .getfield 27, 3), (9, .invokevirtual 153, 3), (12, .if_icmp .ge 12, 3), (15, .iload_n 2, 1)], [(16, .ifCond .lt 8, 3), (19, .iload_n 2, 1), (20, .iconst 3, 1), (21, .if_icmp .le 5, 3), (24, .iconst (-1), 1), (25, .ireturn, 1), (26, .aload_n 0, 1), (27, .aload_n 0, 1), (28, .getfield 27, 3), (31, .iload_n 1, 1)], [(32, .iload_n 2, 1), (33, .invokevirtual 200, 3), (36, .putfield 66, 3), (39, .iconst 1, 1), (40, .ireturn, 1)]]
def xt_40 : xI := [[(0, .aload_n 0, 1), (1, .aload_n 0, 1), (2, .getfield 27, 3), (5, .invokevirtual 203, 3), (8, .putfield 66, 3), (11, .aload_n 0, 1), (12, .getfield 27, 3), (15, .iconst 0, 1)], [(16, .invokevirtual 206, 3), (19, .ireturn, 1)]]
def xt_41 : xI := [[(0, .aload_n 0, 1), (1, .getfield 27, 3), (4, .invokevirtual 153, 3), (7, .istore_n 2, 1), (8, .iload_n 1, 1), (9, .ifCond .lt 8, 3), (12, .iload_n 1, 1), (13, .iload_n 2, 1), (14, .if_icmp .le 5, 3)], [(17, .iconst (-1), 1), (18, .ireturn, 1), (19, .aload_n 0, 1), (20, .getfield 27, 3), (23, .iload_n 1, 1), (24, .invokevirtual 136, 3), (27, .iload_n 2, 1), (28, .iload_n 1, 1), (29, .isub, 1), (30, .ireturn, 1)]]
def xt_42 : xI := [[(0, .iload_n 1, 1), (1, .invokestatic 209, 3), (4, .ifCond .ne 5, 3), (7, .iconst (-1), 1), (8, .ireturn, 1), (9, .aload_n 0, 1), (10, .getfield 38, 3), (13, .invokevirtual 139, 3)], [(16, .ifCond .ne 6, 3), (19, .bipush (-4), 2), (21, .ireturn, 1), (22, .aload_n 0, 1), (23, .getfield 31, 3), (26, .iload_n 1, 1), (27, .aaload, 1), (28, .aload_n 0, 1), (29, .getfield 27, 3)], [(32, .invokevirtual 212, 3), (35, .aload_n 0, 1), (36, .getfield 27, 3), (39, .invokevirtual 153, 3), (42, .ireturn, 1)]]
def xt_43 : xI := [[(0, .iload_n 1, 1), (1, .invokestatic 209, 3), (4, .ifCond .ne 5, 3), (7, .iconst (-1), 1), (8, .ireturn, 1), (9, .aload_n 0, 1), (10, .getfield 31, 3), (13, .iload_n 1, 1), (14, .aaload, 1), (15, .invokevirtual 216, 3)], [(18, .ifCond .eq 9, 3), (21, .aload_n 0, 1), (22, .iconst 1, 1), (23, .invokevirtual 94, 3), (26, .ireturn, 1), (27, .aload_n 0, 1), (28, .getfield 27, 3), (31, .aload_n 0, 1)], [(32, .getfield 31, 3), (35, .iload_n 1, 1), (36, .aaload, 1), (37, .invokevirtual 212, 3), (40, .aload_n 0, 1), (41, .getfield 27, 3), (44, .invokevirtual 153, 3), (47, .ireturn, 1)]]
def xt_44 : xI := [[(0, .aload_n 0, 1), (1, .iload_n 1, 1), (2, .invokevirtual 142, 3), (5, .ifCond .eq 17, 3), (8, .iload_n 2, 1), (9, .invokestatic 90, 3), (12, .ifCond .eq 10, 3), (15, .iload_n 3, 1)], [(16, .invokestatic 90, 3), (19, .ifCond .ne 5, 3), (22, .iconst (-1), 1), (23, .ireturn, 1), (24, .aload_n 0, 1), (25, .getfield 11, 3), (28, .iload_n 2, 1), (29, .aaload, 1), (30, .bipush 12, 2)], [(32, .invokestatic 217, 3), (35, .istore 4, 2), (37, .iload 4, 2), (39, .ifCond .eq 10, 3), (42, .aload_n 0, 1), (43, .iload 4, 2), (45, .invokevirtual 94, 3)], [(48, .ireturn, 1), (49, .aload_n 0, 1), (50, .getfield 48, 3), (53, .aload_n 0, 1), (54, .getfield 11, 3), (57, .iload_n 2, 1), (58, .aaload, 1), (59, .invokevirtual 220, 3), (62, .aload_n 0, 1), (63, .iload_n 1, 1)], [(64, .invokevirtual 149, 3), (67, .astore 5, 2), (69, .aload_n 0, 1), (70, .getfield 48, 3), (73, .invokevirtual 125, 3), (76, .istore 6, 2), (78, .aload_n 0, 1), (79, .getfield 11, 3)], [(82, .iload_n 3, 1), (83, .aaload, 1), (84, .iload 6, 2), (86, .iconst 0, 1), (87, .invokevirtual 98, 3), (90, .iconst 0, 1), (91, .istore 7, 2), (93, .iload 7, 2), (95, .iload 6, 2)], [(97, .if_icmp .ge 35, 3), (100, .aload_n 0, 1), (101, .getfield 11, 3), (104, .iload_n 3, 1), (105, .aaload, 1), (106, .iload 7, 2), (108, .aload_n 0, 1), (109, .getfield 38, 3)], [(112, .aload 5, 2), (114, .aload_n 0, 1), (115, .getfield 48, 3), (118, .iload 7, 2), (120, .invokevirtual 160, 3), (123, .invokevirtual 109, 3), (126, .iinc 7 1, 3)], [(129, .goto (-36), 3), (132, .iload 6, 2), (134, .ireturn, 1)]]
def xt_45 : xI := [[(0, .aload_n 0, 1), (1, .iload_n 1, 1), (2, .invokevirtual 142, 3), (5, .ifCond .eq 10, 3), (8, .iload_n 2, 1), (9, .invokestatic 90, 3), (12, .ifCond .ne 5, 3), (15, .iconst (-1), 1)], [(16, .ireturn, 1), (17, .aload_n 0, 1), (18, .getfield 11, 3), (21, .iload_n 2, 1), (22, .aaload, 1), (23, .bipush 12, 2), (25, .invokestatic 217, 3), (28, .istore_n 3, 1), (29, .iload_n 3, 1), (30, .ifCond .eq 9, 3)], [(33, .aload_n 0, 1), (34, .iload_n 3, 1), (35, .invokevirtual 94, 3), (38, .ireturn, 1), (39, .aload_n 0, 1), (40, .iload_n 1, 1), (41, .invokevirtual 149, 3), (44, .astore 4, 2), (46, .bipush (-9), 2)], [(48, .istore 5, 2), (50, .iconst 0, 1), (51, .istore 6, 2), (53, .iconst 0, 1), (54, .istore 7, 2), (56, .iload 7, 2), (58, .aload_n 0, 1), (59, .getfield 11, 3), (62, .iload_n 2, 1), (63, .aaload, 1)], [(64, .invokevirtual 125, 3), (67, .if_icmp .ge 66, 3), (70, .aload_n 0, 1), (71, .getfield 38, 3), (74, .aload_n 0, 1), (75, .getfield 11, 3), (78, .iload_n 2, 1), (79, .aaload, 1)], [(80, .iload 7, 2), (82, .invokevirtual 106, 3), (85, .aload_n 0, 1), (86, .getfield 38, 3), (89, .aload 4, 2), (91, .aload_n 0, 1), (92, .getfield 11, 3), (95, .iload_n 2, 1)], [(96, .aaload, 1), (97, .iload 7, 2), (99, .invokevirtual 160, 3), (102, .invokevirtual 223, 3), (105, .ifCond .eq 22, 3), (108, .iload 5, 2), (110, .bipush (-9), 2)], [(112, .if_icmp .ne 8, 3), (115, .iload 7, 2), (117, .goto 5, 3), (120, .iload 5, 2), (122, .istore 5, 2), (124, .iinc 6 1, 3), (127, .iinc 7 1, 3)], [(130, .goto (-74), 3), (133, .aload_n 0, 1), (134, .iload 6, 2), (136, .putfield 66, 3), (139, .iload 5, 2), (141, .ireturn, 1)]]
def xt_46 : xI := [[(0, .aload_n 0, 1), (1, .iload_n 1, 1), (2, .invokevirtual 142, 3), (5, .ifCond .eq 10, 3), (8, .iload_n 2, 1), (9, .invokestatic 90, 3), (12, .ifCond .ne 5, 3), (15, .iconst (-1), 1)], [(16, .ireturn, 1), (17, .aload_n 0, 1), (18, .getfield 11, 3), (21, .iload_n 2, 1), (22, .aaload, 1), (23, .bipush 12, 2), (25, .invokestatic 217, 3), (28, .istore_n 3, 1), (29, .iload_n 3, 1), (30, .ifCond .eq 9, 3)], [(33, .aload_n 0, 1), (34, .iload_n 3, 1), (35, .invokevirtual 94, 3), (38, .ireturn, 1), (39, .aload_n 0, 1), (40, .iload_n 1, 1), (41, .invokevirtual 149, 3), (44, .astore 4, 2), (46, .iconst 0, 1), (47, .istore 5, 2)], [(49, .iconst 0, 1), (50, .istore 6, 2), (52, .iload 6, 2), (54, .aload_n 0, 1), (55, .getfield 11, 3), (58, .iload_n 2, 1), (59, .aaload, 1), (60, .invokevirtual 125, 3), (63, .if_icmp .ge 43, 3)], [(66, .aload_n 0, 1), (67, .getfield 11, 3), (70, .iload_n 2, 1), (71, .aaload, 1), (72, .iload 6, 2), (74, .invokevirtual 106, 3), (77, .aload_n 0, 1), (78, .getfield 38, 3)], [(81, .aload 4, 2), (83, .aload_n 0, 1), (84, .getfield 11, 3), (87, .iload_n 2, 1), (88, .aaload, 1), (89, .iload 6, 2), (91, .invokevirtual 160, 3), (94, .if_icmp .ne 6, 3)], [(97, .iinc 5 1, 3), (100, .iinc 6 1, 3), (103, .goto (-51), 3), (106, .iload 5, 2), (108, .ireturn, 1)]]
def xt_47 : xI := [[(0, .iload_n 1, 1), (1, .invokestatic 90, 3), (4, .ifCond .eq 10, 3), (7, .iload_n 2, 1), (8, .invokestatic 90, 3), (11, .ifCond .ne 5, 3), (14, .iconst (-1), 1), (15, .ireturn, 1)], [(16, .aload_n 0, 1), (17, .getfield 11, 3), (20, .iload_n 1, 1), (21, .aaload, 1), (22, .aload_n 0, 1), (23, .getfield 11, 3), (26, .iload_n 2, 1), (27, .aaload, 1), (28, .bipush 12, 2), (30, .invokestatic 226, 3)], [(33, .istore_n 3, 1), (34, .iload_n 3, 1), (35, .ifCond .eq 9, 3), (38, .aload_n 0, 1), (39, .iload_n 3, 1), (40, .invokevirtual 94, 3), (43, .ireturn, 1), (44, .bipush (-9), 2), (46, .istore 4, 2)], [(48, .iconst 0, 1), (49, .istore 5, 2), (51, .iconst 0, 1), (52, .istore 6, 2), (54, .iload 6, 2), (56, .aload_n 0, 1), (57, .getfield 11, 3), (60, .iload_n 1, 1), (61, .aaload, 1), (62, .invokevirtual 125, 3)], [(65, .if_icmp .ge 53, 3), (68, .aload_n 0, 1), (69, .getfield 11, 3), (72, .iload_n 1, 1), (73, .aaload, 1), (74, .iload 6, 2), (76, .invokevirtual 106, 3), (79, .aload_n 0, 1)], [(80, .getfield 11, 3), (83, .iload_n 2, 1), (84, .aaload, 1), (85, .iload 6, 2), (87, .invokevirtual 106, 3), (90, .if_icmp .eq 22, 3), (93, .iload 4, 2), (95, .bipush (-9), 2)], [(97, .if_icmp .ne 8, 3), (100, .iload 6, 2), (102, .goto 5, 3), (105, .iload 4, 2), (107, .istore 4, 2), (109, .iinc 5 1, 3)], [(112, .iinc 6 1, 3), (115, .goto (-61), 3), (118, .aload_n 0, 1), (119, .iload 4, 2), (121, .putfield 66, 3), (124, .iload 5, 2), (126, .ireturn, 1)]]
def xt_48 : xI := [[(0, .aload_n 0, 1), (1, .iload_n 1, 1), (2, .invokevirtual 142, 3), (5, .ifCond .eq 10, 3), (8, .iload_n 2, 1), (9, .invokestatic 90, 3), (12, .ifCond .ne 5, 3), (15, .iconst (-1), 1)], [(16, .ireturn, 1), (17, .aload_n 0, 1), (18, .getfield 11, 3), (21, .iload_n 2, 1), (22, .aaload, 1), (23, .bipush 6, 2), (25, .invokestatic 217, 3), (28, .istore_n 3, 1), (29, .iload_n 3, 1), (30, .ifCond .eq 9, 3)], [(33, .aload_n 0, 1), (34, .iload_n 3, 1), (35, .invokevirtual 94, 3), (38, .ireturn, 1), (39, .aload_n 0, 1), (40, .aload_n 0, 1), (41, .iload_n 1, 1), (42, .invokevirtual 149, 3), (45, .aload_n 0, 1), (46, .getfield 11, 3)], [(49, .iload_n 2, 1), (50, .aaload, 1), (51, .invokevirtual 230, 3), (54, .ifCond .eq 7, 3), (57, .lconst 1, 1), (58, .goto 4, 3), (61, .lconst 0, 1), (62, .lstore 4, 2)], [(64, .iconst 0, 1), (65, .istore 6, 2), (67, .iload 6, 2), (69, .aload_n 0, 1), (70, .getfield 11, 3), (73, .iload_n 2, 1), (74, .aaload, 1), (75, .invokevirtual 125, 3), (78, .if_icmp .ge 32, 3)], [(81, .iload 6, 2), (83, .bipush 6, 2), (85, .if_icmp .ge 25, 3), (88, .lload 4, 2), (90, .aload_n 0, 1), (91, .getfield 52, 3), (94, .iload 6, 2)], [(96, .iaload, 1), (97, .invokestatic 172, 3), (100, .i2l, 1), (101, .lmul, 1), (102, .lstore 4, 2), (104, .iinc 6 1, 3), (107, .goto (-40), 3), (110, .aload_n 0, 1), (111, .lload 4, 2)], [(113, .lconst 1, 1), (114, .invokevirtual 234, 3), (117, .iconst 1, 1), (118, .ireturn, 1)]]
def xt_49 : xI := [[(0, .aload_n 0, 1), (1, .iload_n 1, 1), (2, .invokevirtual 142, 3), (5, .ifCond .eq 17, 3), (8, .iload_n 2, 1), (9, .invokestatic 90, 3), (12, .ifCond .eq 10, 3), (15, .iload_n 3, 1)], [(16, .invokestatic 90, 3), (19, .ifCond .ne 5, 3), (22, .iconst (-1), 1), (23, .ireturn, 1), (24, .aload_n 0, 1), (25, .getfield 11, 3), (28, .iload_n 2, 1), (29, .aaload, 1), (30, .bipush 6, 2)], [(32, .invokestatic 217, 3), (35, .istore 4, 2), (37, .iload 4, 2), (39, .ifCond .eq 10, 3), (42, .aload_n 0, 1), (43, .iload 4, 2), (45, .invokevirtual 94, 3)], [(48, .ireturn, 1), (49, .aload_n 0, 1), (50, .aload_n 0, 1), (51, .iload_n 1, 1), (52, .invokevirtual 149, 3), (55, .aload_n 0, 1), (56, .getfield 11, 3), (59, .iload_n 2, 1), (60, .aaload, 1), (61, .invokevirtual 230, 3)], [(64, .ifCond .ne 6, 3), (67, .bipush (-9), 2), (69, .ireturn, 1), (70, .aload_n 0, 1), (71, .getfield 11, 3), (74, .iload_n 2, 1), (75, .aaload, 1), (76, .invokevirtual 125, 3), (79, .istore 5, 2)], [(81, .aload_n 0, 1), (82, .getfield 11, 3), (85, .iload_n 3, 1), (86, .aaload, 1), (87, .iload 5, 2), (89, .iconst 0, 1), (90, .invokevirtual 98, 3), (93, .iconst 0, 1), (94, .istore 6, 2)], [(96, .iload 6, 2), (98, .iload 5, 2), (100, .if_icmp .ge 37, 3), (103, .iload 6, 2), (105, .bipush 6, 2), (107, .if_icmp .ge 30, 3), (110, .aload_n 0, 1), (111, .getfield 11, 3)], [(114, .iload_n 3, 1), (115, .aaload, 1), (116, .iload 6, 2), (118, .aload_n 0, 1), (119, .getfield 52, 3), (122, .iload 6, 2), (124, .iaload, 1), (125, .invokestatic 238, 3)], [(128, .invokevirtual 109, 3), (131, .iinc 6 1, 3), (134, .goto (-38), 3), (137, .iload 5, 2), (139, .ireturn, 1)]]
def xt_50 : xI := [[(0, .aload_n 0, 1), (1, .iload_n 1, 1), (2, .invokevirtual 142, 3), (5, .ifCond .eq 14, 3), (8, .iload_n 2, 1), (9, .invokestatic 90, 3), (12, .ifCond .eq 7, 3), (15, .iload_n 3, 1)], [(16, .ifCond .ge 5, 3), (19, .iconst (-1), 1), (20, .ireturn, 1), (21, .aload_n 0, 1), (22, .getfield 11, 3), (25, .iload_n 2, 1), (26, .aaload, 1), (27, .bipush 6, 2), (29, .invokestatic 217, 3)], [(32, .istore 4, 2), (34, .iload 4, 2), (36, .ifCond .eq 10, 3), (39, .aload_n 0, 1), (40, .iload 4, 2), (42, .invokevirtual 94, 3), (45, .ireturn, 1), (46, .aload_n 0, 1), (47, .getfield 11, 3)], [(50, .iload_n 2, 1), (51, .aaload, 1), (52, .iload_n 3, 1), (53, .invokevirtual 241, 3), (56, .ifCond .eq 9, 3), (59, .iload_n 3, 1), (60, .bipush 6, 2), (62, .if_icmp .lt 5, 3)], [(65, .iconst (-1), 1), (66, .ireturn, 1), (67, .aload_n 0, 1), (68, .aload_n 0, 1), (69, .iload_n 1, 1), (70, .invokevirtual 149, 3), (73, .aload_n 0, 1), (74, .getfield 11, 3), (77, .iload_n 2, 1), (78, .aaload, 1), (79, .invokevirtual 230, 3)], [(82, .ifCond .eq 12, 3), (85, .aload_n 0, 1), (86, .getfield 52, 3), (89, .iload_n 3, 1), (90, .iaload, 1), (91, .goto 4, 3), (94, .iconst 0, 1), (95, .ireturn, 1)]]
def xt_51 : xI := [[(0, .iload_n 1, 1), (1, .invokestatic 90, 3), (4, .ifCond .eq 10, 3), (7, .iload_n 2, 1), (8, .invokestatic 90, 3), (11, .ifCond .ne 5, 3), (14, .iconst (-1), 1), (15, .ireturn, 1)], [(16, .aload_n 0, 1), (17, .getfield 11, 3), (20, .iload_n 1, 1), (21, .aaload, 1), (22, .aload_n 0, 1), (23, .getfield 11, 3), (26, .iload_n 2, 1), (27, .aaload, 1), (28, .bipush 12, 2), (30, .invokestatic 226, 3)], [(33, .istore_n 3, 1), (34, .iload_n 3, 1), (35, .ifCond .eq 9, 3), (38, .aload_n 0, 1), (39, .iload_n 3, 1), (40, .invokevirtual 94, 3), (43, .ireturn, 1), (44, .aload_n 0, 1), (45, .aload_n 0, 1), (46, .getfield 11, 3)], [(49, .iload_n 1, 1), (50, .aaload, 1), (51, .aload_n 0, 1), (52, .getfield 11, 3), (55, .iload_n 2, 1), (56, .aaload, 1), (57, .invokevirtual 244, 3), (60, .ireturn, 1)]]
def xt_52 : xI := [[(0, .iload_n 1, 1), (1, .invokestatic 90, 3), (4, .ifCond .eq 10, 3), (7, .iload_n 2, 1), (8, .invokestatic 90, 3), (11, .ifCond .ne 5, 3), (14, .iconst (-1), 1), (15, .ireturn, 1)], [(16, .aload_n 0, 1), (17, .getfield 11, 3), (20, .iload_n 1, 1), (21, .aaload, 1), (22, .aload_n 0, 1), (23, .getfield 11, 3), (26, .iload_n 2, 1), (27, .aaload, 1), (28, .bipush 11, 2), (30, .invokestatic 226, 3)], [(33, .istore_n 3, 1), (34, .iload_n 3, 1), (35, .ifCond .eq 9, 3), (38, .aload_n 0, 1), (39, .iload_n 3, 1), (40, .invokevirtual 94, 3), (43, .ireturn, 1), (44, .aload_n 0, 1), (45, .aload_n 0, 1), (46, .getfield 11, 3)], [(49, .iload_n 1, 1), (50, .aaload, 1), (51, .aload_n 0, 1), (52, .getfield 11, 3), (55, .iload_n 2, 1), (56, .aaload, 1), (57, .invokevirtual 244, 3), (60, .istore 4, 2), (62, .iload 4, 2)], [(64, .invokestatic 172, 3), (67, .iconst 2, 1), (68, .if_icmp .ge 6, 3), (71, .bipush (-9), 2), (73, .ireturn, 1), (74, .aload_n 0, 1), (75, .getfield 11, 3), (78, .iload_n 1, 1), (79, .aaload, 1)], [(80, .invokevirtual 125, 3), (83, .istore 5, 2), (85, .aload_n 0, 1), (86, .getfield 48, 3), (89, .iload 5, 2), (91, .iconst 1, 1), (92, .iadd, 1), (93, .iconst 0, 1), (94, .invokevirtual 98, 3)], [(97, .aload_n 0, 1), (98, .getfield 48, 3), (101, .aload_n 0, 1), (102, .getfield 11, 3), (105, .iload_n 1, 1), (106, .aaload, 1), (107, .iconst 0, 1), (108, .iconst 0, 1), (109, .iload 5, 2), (111, .invokevirtual 121, 3)], [(114, .iconst 0, 1), (115, .istore 6, 2), (117, .bipush 25, 2), (119, .istore 7, 2), (121, .iconst 0, 1), (122, .istore 8, 2), (124, .iload 8, 2), (126, .bipush 6, 2)], [(128, .if_icmp .ge 45, 3), (131, .aload_n 0, 1), (132, .getfield 48, 3), (135, .iload 5, 2), (137, .iload 8, 2), (139, .invokevirtual 109, 3), (142, .aload_n 0, 1), (143, .iload 4, 2)], [(145, .iload 5, 2), (147, .invokevirtual 248, 3), (150, .istore 9, 2), (152, .iload 9, 2), (154, .iload 7, 2), (156, .if_icmp .ge 11, 3), (159, .iload 9, 2)], [(161, .istore 7, 2), (163, .iload 8, 2), (165, .istore 6, 2), (167, .iinc 8 1, 3), (170, .goto (-46), 3), (173, .aload_n 0, 1), (174, .iload 7, 2)], [(176, .putfield 66, 3), (179, .iload 6, 2), (181, .ireturn, 1)]]
def xt_53 : xI := [[(0, .aload_n 0, 1), (1, .iload_n 1, 1), (2, .invokevirtual 142, 3), (5, .ifCond .eq 17, 3), (8, .iload_n 2, 1), (9, .invokestatic 90, 3), (12, .ifCond .eq 10, 3), (15, .iload_n 3, 1)], [(16, .invokestatic 90, 3), (19, .ifCond .ne 5, 3), (22, .iconst (-1), 1), (23, .ireturn, 1), (24, .aload_n 0, 1), (25, .getfield 11, 3), (28, .iload_n 2, 1), (29, .aaload, 1), (30, .aload_n 0, 1), (31, .getfield 11, 3)], [(34, .iload_n 3, 1), (35, .aaload, 1), (36, .bipush 12, 2), (38, .invokestatic 226, 3), (41, .istore 4, 2), (43, .iload 4, 2), (45, .ifCond .eq 10, 3)], [(48, .aload_n 0, 1), (49, .iload 4, 2), (51, .invokevirtual 94, 3), (54, .ireturn, 1), (55, .aload_n 0, 1), (56, .aload_n 0, 1), (57, .iload_n 1, 1), (58, .invokevirtual 149, 3), (61, .aload_n 0, 1), (62, .getfield 11, 3)], [(65, .iload_n 2, 1), (66, .aaload, 1), (67, .aload_n 0, 1), (68, .getfield 11, 3), (71, .iload_n 3, 1), (72, .aaload, 1), (73, .invokevirtual 251, 3), (76, .istore 5, 2), (78, .aload_n 0, 1), (79, .aload_n 0, 1)], [(80, .iload_n 1, 1), (81, .invokevirtual 149, 3), (84, .aload_n 0, 1), (85, .getfield 11, 3), (88, .iload_n 3, 1), (89, .aaload, 1), (90, .aload_n 0, 1), (91, .getfield 11, 3), (94, .iload_n 2, 1), (95, .aaload, 1)], [(96, .invokevirtual 251, 3), (99, .istore 6, 2), (101, .iload 5, 2), (103, .bipush (-9), 2), (105, .if_icmp .eq 10, 3), (108, .iload 6, 2), (110, .bipush (-9), 2)], [(112, .if_icmp .ne 24, 3), (115, .aload_n 0, 1), (116, .iload 5, 2), (118, .bipush (-9), 2), (120, .if_icmp .ne 8, 3), (123, .iload 6, 2), (125, .goto 5, 3)], [(128, .iload 5, 2), (130, .putfield 66, 3), (133, .goto 14, 3), (136, .aload_n 0, 1), (137, .iload 5, 2), (139, .iload 6, 2), (141, .invokestatic 255, 3)], [(144, .putfield 66, 3), (147, .iload 5, 2), (149, .bipush (-9), 2), (151, .if_icmp .ne 7, 3), (154, .iconst 1, 1), (155, .goto 4, 3), (158, .iconst 0, 1), (159, .iload 6, 2)], [(161, .bipush (-9), 2), (163, .if_icmp .ne 7, 3), (166, .iconst 2, 1), (167, .goto 4, 3), (170, .iconst 0, 1), (171, .iadd, 1), (172, .ireturn, 1)]]
def xt_54 : xI := [[(0, .aload_n 0, 1), (1, .iload_n 1, 1), (2, .invokevirtual 142, 3), (5, .ifCond .eq 12, 3), (8, .iload_n 2, 1), (9, .ifCond .lt 8, 3), (12, .iload_n 2, 1), (13, .iconst 5, 1), (14, .if_icmp .le 5, 3)], [(17, .iconst (-1), 1), (18, .ireturn, 1), (19, .aload_n 0, 1), (20, .getfield 62, 3), (23, .aload_n 0, 1), (24, .getfield 38, 3), (27, .aload_n 0, 1), (28, .iload_n 1, 1), (29, .invokevirtual 149, 3)], [(32, .iload_n 2, 1), (33, .invokevirtual 260, 3), (36, .aload_n 0, 1), (37, .aload_n 0, 1), (38, .getfield 62, 3), (41, .invokevirtual 264, 3), (44, .i2l, 1), (45, .lconst 1, 1), (46, .invokevirtual 234, 3)], [(49, .aload_n 0, 1), (50, .aload_n 0, 1), (51, .getfield 62, 3), (54, .invokevirtual 266, 3), (57, .putfield 66, 3), (60, .iconst 1, 1), (61, .ireturn, 1)]]
def xt_55 : xI := [[(0, .aload_n 0, 1), (1, .iload_n 1, 1), (2, .invokevirtual 142, 3), (5, .ifCond .eq 12, 3), (8, .iload_n 2, 1), (9, .ifCond .lt 8, 3), (12, .iload_n 2, 1), (13, .iconst 5, 1), (14, .if_icmp .le 5, 3)], [(17, .iconst (-1), 1), (18, .ireturn, 1), (19, .aload_n 0, 1), (20, .getfield 62, 3), (23, .aload_n 0, 1), (24, .getfield 38, 3), (27, .aload_n 0, 1), (28, .iload_n 1, 1), (29, .invokevirtual 149, 3)], [(32, .iload_n 2, 1), (33, .invokevirtual 260, 3), (36, .aload_n 0, 1), (37, .getfield 62, 3), (40, .invokevirtual 264, 3), (43, .ifCond .ne 8, 3), (46, .bipush (-9), 2)], [(48, .goto 10, 3), (51, .aload_n 0, 1), (52, .getfield 62, 3), (55, .invokevirtual 269, 3), (58, .ireturn, 1)]]
def xt_56 : xI := [[(0, .iload_n 1, 1), (1, .ifCond .lt 8, 3), (4, .iload_n 1, 1), (5, .iconst 3, 1), (6, .if_icmp .le 5, 3), (9, .iconst (-1), 1), (10, .ireturn, 1), (11, .aload_n 0, 1), (12, .getfield 38, 3), (15, .invokevirtual 139, 3)], [(18, .ifCond .ne 6, 3), (21, .bipush (-4), 2), (23, .ireturn, 1), (24, .iload_n 1, 1), (25, .ifCond .ne 5, 3), (28, .iconst 1, 1), (29, .ireturn, 1), (30, .aload_n 0, 1), (31, .getfield 48, 3)], [(34, .iload_n 1, 1), (35, .iconst 0, 1), (36, .invokevirtual 98, 3), (39, .aload_n 0, 1), (40, .iconst 0, 1), (41, .iload_n 1, 1), (42, .invokevirtual 272, 3), (45, .bipush (-9), 2), (47, .if_icmp .ne 7, 3)], [(50, .iconst 0, 1), (51, .goto 4, 3), (54, .iconst 1, 1), (55, .ireturn, 1)]]
def xt_57 : xI := [[(0, .iload_n 1, 1), (1, .iconst 1, 1), (2, .if_icmp .lt 8, 3), (5, .iload_n 1, 1), (6, .iconst 3, 1), (7, .if_icmp .le 5, 3), (10, .iconst (-1), 1), (11, .ireturn, 1), (12, .aload_n 0, 1), (13, .getfield 38, 3)], [(16, .invokevirtual 139, 3), (19, .ifCond .ne 6, 3), (22, .bipush (-4), 2), (24, .ireturn, 1), (25, .aload_n 0, 1), (26, .getfield 48, 3), (29, .iload_n 1, 1), (30, .iconst 0, 1), (31, .invokevirtual 98, 3)], [(34, .aload_n 0, 1), (35, .iconst 0, 1), (36, .iload_n 1, 1), (37, .invokevirtual 272, 3), (40, .ireturn, 1)]]
def xt_58 : xI := [[(0, .aload_n 0, 1), (1, .iload_n 1, 1), (2, .invokevirtual 142, 3), (5, .ifCond .eq 20, 3), (8, .iload_n 2, 1), (9, .invokestatic 90, 3), (12, .ifCond .eq 13, 3), (15, .iload_n 3, 1)], [(16, .ifCond .lt 9, 3), (19, .iload_n 3, 1), (20, .bipush 12, 2), (22, .if_icmp .le 5, 3), (25, .iconst (-1), 1), (26, .ireturn, 1), (27, .aload_n 0, 1), (28, .getfield 11, 3), (31, .iload_n 2, 1)], [(32, .aaload, 1), (33, .bipush 12, 2), (35, .invokestatic 217, 3), (38, .istore 4, 2), (40, .iload 4, 2), (42, .ifCond .eq 10, 3), (45, .aload_n 0, 1), (46, .iload 4, 2)], [(48, .invokevirtual 94, 3), (51, .ireturn, 1), (52, .lconst 1, 1), (53, .lstore 5, 2), (55, .lconst 1, 1), (56, .lstore 7, 2), (58, .iconst 0, 1), (59, .istore 9, 2), (61, .iload 9, 2), (63, .aload_n 0, 1)], [(64, .getfield 11, 3), (67, .iload_n 2, 1), (68, .aaload, 1), (69, .invokevirtual 125, 3), (72, .if_icmp .ge 44, 3), (75, .lload 5, 2), (77, .bipush 12, 2), (79, .aload_n 0, 1)], [(80, .aload_n 0, 1), (81, .iload_n 1, 1), (82, .invokevirtual 149, 3), (85, .aload_n 0, 1), (86, .getfield 11, 3), (89, .iload_n 2, 1), (90, .aaload, 1), (91, .iload 9, 2), (93, .iload_n 3, 1), (94, .invokevirtual 275, 3)], [(97, .isub, 1), (98, .i2l, 1), (99, .lmul, 1), (100, .lstore 5, 2), (102, .lload 7, 2), (104, .ldc2_w 279, 3), (107, .lmul, 1), (108, .lstore 7, 2), (110, .iinc 9 1, 3)], [(113, .goto (-52), 3), (116, .aload_n 0, 1), (117, .lload 5, 2), (119, .lload 7, 2), (121, .invokevirtual 234, 3), (124, .iconst 1, 1), (125, .ireturn, 1)]]
def xt_59 : xI := [[(0, .aload_n 0, 1), (1, .iload_n 1, 1), (2, .invokevirtual 142, 3), (5, .ifCond .eq 20, 3), (8, .iload_n 2, 1), (9, .invokestatic 90, 3), (12, .ifCond .eq 13, 3), (15, .iload_n 3, 1)], [(16, .ifCond .lt 9, 3), (19, .iload_n 3, 1), (20, .bipush 12, 2), (22, .if_icmp .le 5, 3), (25, .iconst (-1), 1), (26, .ireturn, 1), (27, .aload_n 0, 1), (28, .getfield 11, 3), (31, .iload_n 2, 1)], [(32, .aaload, 1), (33, .bipush 12, 2), (35, .invokestatic 217, 3), (38, .istore 4, 2), (40, .iload 4, 2), (42, .ifCond .eq 10, 3), (45, .aload_n 0, 1), (46, .iload 4, 2)], [(48, .invokevirtual 94, 3), (51, .ireturn, 1), (52, .lconst 0, 1), (53, .lstore 5, 2), (55, .iconst 0, 1), (56, .istore 7, 2), (58, .iload 7, 2), (60, .aload_n 0, 1), (61, .getfield 11, 3)], [(64, .iload_n 2, 1), (65, .aaload, 1), (66, .invokevirtual 125, 3), (69, .if_icmp .ge 33, 3), (72, .lload 5, 2), (74, .aload_n 0, 1), (75, .aload_n 0, 1), (76, .iload_n 1, 1), (77, .invokevirtual 149, 3)], [(80, .aload_n 0, 1), (81, .getfield 11, 3), (84, .iload_n 2, 1), (85, .aaload, 1), (86, .iload 7, 2), (88, .iload_n 3, 1), (89, .invokevirtual 275, 3), (92, .i2l, 1), (93, .ladd, 1), (94, .lstore 5, 2)], [(96, .iinc 7 1, 3), (99, .goto (-41), 3), (102, .aload_n 0, 1), (103, .lload 5, 2), (105, .ldc2_w 279, 3), (108, .invokevirtual 234, 3), (111, .iconst 1, 1)], [(112, .ireturn, 1)]]
def xt_60 : xI := [[(0, .iload_n 1, 1), (1, .iconst 1, 1), (2, .if_icmp .lt 23, 3), (5, .iload_n 1, 1), (6, .bipush 20, 2), (8, .if_icmp .gt 17, 3), (11, .iload_n 2, 1), (12, .iconst 1, 1), (13, .if_icmp .lt 12, 3)], [(16, .iload_n 2, 1), (17, .i2l, 1), (18, .ldc2_w 281, 3), (21, .lcmp, 1), (22, .ifCond .lt 5, 3), (25, .iconst (-1), 1), (26, .ireturn, 1), (27, .aload_n 0, 1), (28, .getfield 38, 3), (31, .invokevirtual 139, 3)], [(34, .istore_n 3, 1), (35, .iload_n 3, 1), (36, .ifCond .ne 6, 3), (39, .bipush (-4), 2), (41, .ireturn, 1), (42, .aload_n 0, 1), (43, .getfield 27, 3), (46, .invokevirtual 153, 3)], [(49, .istore 4, 2), (51, .iload 4, 2), (53, .iload_n 1, 1), (54, .iadd, 1), (55, .bipush 40, 2), (57, .if_icmp .le 6, 3), (60, .bipush (-2), 2), (62, .ireturn, 1), (63, .iload_n 2, 1)], [(64, .i2l, 1), (65, .lstore 5, 2), (67, .iconst 0, 1), (68, .istore 7, 2), (70, .iload 7, 2), (72, .iload_n 1, 1), (73, .if_icmp .ge 43, 3), (76, .ldc2_w 283, 3), (79, .lload 5, 2)], [(81, .lmul, 1), (82, .ldc2_w 281, 3), (85, .lrem, 1), (86, .lstore 5, 2), (88, .aload_n 0, 1), (89, .lload 5, 2), (91, .iload_n 3, 1), (92, .i2l, 1), (93, .lrem, 1), (94, .l2i, 1), (95, .lload 5, 2)], [(97, .ldc2_w 285, 3), (100, .ldiv, 1), (101, .ldc2_w 287, 3), (104, .lrem, 1), (105, .l2i, 1), (106, .invokevirtual 197, 3), (109, .pop, 1), (110, .iinc 7 1, 3)], [(113, .goto (-43), 3), (116, .aload_n 0, 1), (117, .getfield 27, 3), (120, .iload 4, 2), (122, .invokevirtual 206, 3), (125, .ireturn, 1)]]
def xt_61 : xI := [[(0, .aload_n 0, 1), (1, .getfield 66, 3), (4, .ireturn, 1)]]
def xt_62 : xI := [[(0, .aload_n 0, 1), (1, .getfield 70, 3), (4, .lreturn, 1)]]
def xt_63 : xI := [[(0, .aload_n 0, 1), (1, .getfield 74, 3), (4, .lreturn, 1)]]
def xt_64 : xI := [[(0, .iload_n 1, 1), (1, .tableswitch 117 0 8 #[51, 59, 67, 75, 84, 90, 96, 104, 112], 51)], [], [], [(52, .aload_n 0, 1), (53, .getfield 38, 3), (56, .invokevirtual 139, 3), (59, .ireturn, 1), (60, .aload_n 0, 1), (61, .getfield 38, 3)], [(64, .invokevirtual 191, 3), (67, .ireturn, 1), (68, .aload_n 0, 1), (69, .getfield 27, 3), (72, .invokevirtual 153, 3), (75, .ireturn, 1), (76, .aload_n 0, 1), (77, .getfield 27, 3)], [(80, .iconst 0, 1), (81, .invokevirtual 206, 3), (84, .ireturn, 1), (85, .aload_n 0, 1), (86, .iconst 1, 1), (87, .invokevirtual 289, 3), (90, .ireturn, 1), (91, .aload_n 0, 1), (92, .iconst 2, 1), (93, .invokevirtual 289, 3)], [(96, .ireturn, 1), (97, .aload_n 0, 1), (98, .getfield 11, 3), (101, .invokestatic 292, 3), (104, .ireturn, 1), (105, .aload_n 0, 1), (106, .getfield 15, 3), (109, .invokestatic 292, 3)], [(112, .ireturn, 1), (113, .aload_n 0, 1), (114, .invokevirtual 296, 3), (117, .ireturn, 1), (118, .iconst (-1), 1), (119, .ireturn, 1)]]
def xt_65 : xI := [[(0, .aload_n 0, 1), (1, .getfield 77, 3), (4, .ireturn, 1)]]
def xt_66 : xI := [[(0, .iload_n 1, 1), (1, .iconst 1, 1), (2, .if_icmp .lt 8, 3), (5, .iload_n 1, 1), (6, .iconst 5, 1), (7, .if_icmp .le 7, 3), (10, .iconst (-1), 1), (11, .goto 9, 3), (14, .aload_n 0, 1), (15, .getfield 80, 3)], [(18, .iload_n 1, 1), (19, .iaload, 1), (20, .ireturn, 1)]]
def xt_67 : xI := [[(0, .ldc2_w 299, 3), (3, .lstore_n 1, 1), (4, .iconst 0, 1), (5, .istore_n 3, 1), (6, .iload_n 3, 1), (7, .bipush 8, 2), (9, .if_icmp .gt 22, 3), (12, .ldc2_w 301, 3), (15, .lload_n 1, 1)], [(16, .lmul, 1), (17, .aload_n 0, 1), (18, .iload_n 3, 1), (19, .invokevirtual 303, 3), (22, .i2l, 1), (23, .ladd, 1), (24, .lstore_n 1, 1), (25, .iinc 3 1, 3), (28, .goto (-22), 3), (31, .iconst 0, 1)], [(32, .istore_n 3, 1), (33, .iload_n 3, 1), (34, .bipush 6, 2), (36, .if_icmp .ge 25, 3), (39, .ldc2_w 301, 3), (42, .lload_n 1, 1), (43, .lmul, 1), (44, .aload_n 0, 1), (45, .getfield 38, 3)], [(48, .iload_n 3, 1), (49, .invokevirtual 188, 3), (52, .i2l, 1), (53, .ladd, 1), (54, .lstore_n 1, 1), (55, .iinc 3 1, 3), (58, .goto (-25), 3), (61, .iconst 0, 1), (62, .istore_n 3, 1), (63, .iload_n 3, 1)], [(64, .aload_n 0, 1), (65, .getfield 38, 3), (68, .invokevirtual 139, 3), (71, .if_icmp .ge 39, 3), (74, .iconst 0, 1), (75, .istore 4, 2), (77, .iload 4, 2), (79, .iconst 3, 1)], [(80, .if_icmp .gt 24, 3), (83, .ldc2_w 301, 3), (86, .lload_n 1, 1), (87, .lmul, 1), (88, .aload_n 0, 1), (89, .iload_n 3, 1), (90, .iload 4, 2), (92, .invokevirtual 145, 3), (95, .i2l, 1)], [(96, .ladd, 1), (97, .lstore_n 1, 1), (98, .iinc 4 1, 3), (101, .goto (-24), 3), (104, .iinc 3 1, 3), (107, .goto (-44), 3), (110, .iconst 0, 1), (111, .istore_n 3, 1)], [(112, .iload_n 3, 1), (113, .aload_n 0, 1), (114, .getfield 38, 3), (117, .invokevirtual 191, 3), (120, .if_icmp .ge 41, 3), (123, .ldc2_w 301, 3), (126, .ldc2_w 301, 3)], [(129, .lload_n 1, 1), (130, .lmul, 1), (131, .aload_n 0, 1), (132, .getfield 38, 3), (135, .iload_n 3, 1), (136, .iconst 0, 1), (137, .invokevirtual 194, 3), (140, .i2l, 1), (141, .ladd, 1), (142, .lmul, 1), (143, .aload_n 0, 1)], [(144, .getfield 38, 3), (147, .iload_n 3, 1), (148, .iconst 1, 1), (149, .invokevirtual 194, 3), (152, .i2l, 1), (153, .ladd, 1), (154, .lstore_n 1, 1), (155, .iinc 3 1, 3), (158, .goto (-46), 3)], [(161, .iconst 0, 1), (162, .istore_n 3, 1), (163, .iload_n 3, 1), (164, .aload_n 0, 1), (165, .getfield 27, 3), (168, .invokevirtual 153, 3), (171, .if_icmp .ge 42, 3), (174, .iconst 0, 1), (175, .istore 4, 2)], [(177, .iload 4, 2), (179, .iconst 3, 1), (180, .if_icmp .gt 27, 3), (183, .ldc2_w 301, 3), (186, .lload_n 1, 1), (187, .lmul, 1), (188, .aload_n 0, 1), (189, .getfield 27, 3)], [(192, .iload_n 3, 1), (193, .iload 4, 2), (195, .invokevirtual 200, 3), (198, .i2l, 1), (199, .ladd, 1), (200, .lstore_n 1, 1), (201, .iinc 4 1, 3), (204, .goto (-27), 3), (207, .iinc 3 1, 3)], [(210, .goto (-47), 3), (213, .iconst 0, 1), (214, .istore_n 3, 1), (215, .iload_n 3, 1), (216, .iconst 3, 1), (217, .if_icmp .ge 26, 3), (220, .ldc2_w 301, 3), (223, .lload_n 1, 1)], [(224, .lmul, 1), (225, .aload_n 0, 1), (226, .getfield 31, 3), (229, .iload_n 3, 1), (230, .aaload, 1), (231, .invokevirtual 153, 3), (234, .i2l, 1), (235, .ladd, 1), (236, .lstore_n 1, 1), (237, .iinc 3 1, 3)], [(240, .goto (-25), 3), (243, .aload_n 0, 1), (244, .getfield 15, 3), (247, .aload_n 0, 1), (248, .getfield 11, 3), (251, .lload_n 1, 1), (252, .invokestatic 306, 3), (255, .invokestatic 306, 3)], [(258, .lreturn, 1)]]
def xt_68 : xI := [[(0, .aload_n 0, 1), (1, .iload_n 1, 1), (2, .putfield 77, 3), (5, .iload_n 1, 1), (6, .iconst 1, 1), (7, .if_icmp .lt 18, 3), (10, .iload_n 1, 1), (11, .iconst 5, 1), (12, .if_icmp .gt 13, 3), (15, .aload_n 0, 1)], [(16, .getfield 80, 3), (19, .iload_n 1, 1), (20, .dup2, 1), (21, .iaload, 1), (22, .iconst 1, 1), (23, .iadd, 1), (24, .iastore, 1), (25, .bipush (-3), 2), (27, .ireturn, 1)]]
def xt_69 : xI := [[(0, .iload_n 0, 1), (1, .ifCond .lt 13, 3), (4, .iload_n 0, 1), (5, .bipush 6, 2), (7, .if_icmp .ge 7, 3), (10, .iconst 1, 1), (11, .goto 4, 3), (14, .iconst 0, 1), (15, .ireturn, 1)]]
def xt_70 : xI := [[(0, .iload_n 0, 1), (1, .ifCond .lt 12, 3), (4, .iload_n 0, 1), (5, .iconst 4, 1), (6, .if_icmp .ge 7, 3), (9, .iconst 1, 1), (10, .goto 4, 3), (13, .iconst 0, 1), (14, .ireturn, 1)]]
def xt_71 : xI := [[(0, .iload_n 0, 1), (1, .ifCond .lt 12, 3), (4, .iload_n 0, 1), (5, .iconst 3, 1), (6, .if_icmp .ge 7, 3), (9, .iconst 1, 1), (10, .goto 4, 3), (13, .iconst 0, 1), (14, .ireturn, 1)]]
def xt_72 : xI := [[(0, .iload_n 0, 1), (1, .ifCond .lt 13, 3), (4, .iload_n 0, 1), (5, .bipush 6, 2), (7, .if_icmp .ge 7, 3), (10, .iconst 1, 1), (11, .goto 4, 3), (14, .iconst 0, 1), (15, .ireturn, 1)]]
def xt_73 : xI := [[(0, .iload_n 1, 1), (1, .ifCond .lt 18, 3), (4, .iload_n 1, 1), (5, .aload_n 0, 1), (6, .getfield 38, 3), (9, .invokevirtual 139, 3), (12, .if_icmp .ge 7, 3), (15, .iconst 1, 1)], [(16, .goto 4, 3), (19, .iconst 0, 1), (20, .ireturn, 1)]]
def xt_74 : xI := [[(0, .aload_n 0, 1), (1, .invokevirtual 112, 3), (4, .ifCond .eq 5, 3), (7, .iconst 1, 1), (8, .ireturn, 1), (9, .aload_n 0, 1), (10, .iload_n 1, 1), (11, .invokevirtual 241, 3), (14, .ifCond .eq 7, 3)], [(17, .iconst 0, 1), (18, .goto 4, 3), (21, .iconst 2, 1), (22, .ireturn, 1)]]
def xt_75 : xI := [[(0, .aload_n 0, 1), (1, .invokevirtual 112, 3), (4, .ifCond .eq 5, 3), (7, .iconst 1, 1), (8, .ireturn, 1), (9, .aload_n 0, 1), (10, .invokevirtual 125, 3), (13, .iload_n 1, 1), (14, .if_icmp .le 5, 3)], [(17, .iconst 5, 1), (18, .ireturn, 1), (19, .iconst 0, 1), (20, .istore_n 2, 1), (21, .iload_n 2, 1), (22, .aload_n 0, 1), (23, .invokevirtual 125, 3), (26, .if_icmp .ge 22, 3), (29, .aload_n 0, 1), (30, .iload_n 2, 1), (31, .invokevirtual 106, 3)], [(34, .invokestatic 185, 3), (37, .ifCond .ne 5, 3), (40, .iconst 3, 1), (41, .ireturn, 1), (42, .iinc 2 1, 3), (45, .goto (-24), 3)], [(48, .iconst 0, 1), (49, .ireturn, 1)]]
def xt_76 : xI := [[(0, .aload_n 0, 1), (1, .iload_n 2, 1), (2, .invokestatic 217, 3), (5, .istore_n 3, 1), (6, .iload_n 3, 1), (7, .ifCond .ne 9, 3), (10, .aload_n 1, 1), (11, .iload_n 2, 1), (12, .invokestatic 217, 3), (15, .istore_n 3, 1)], [(16, .iload_n 3, 1), (17, .ifCond .ne 16, 3), (20, .aload_n 0, 1), (21, .invokevirtual 125, 3), (24, .aload_n 1, 1), (25, .invokevirtual 125, 3), (28, .if_icmp .eq 5, 3), (31, .iconst 5, 1)], [(32, .istore_n 3, 1), (33, .iload_n 3, 1), (34, .ireturn, 1)]]
def xt_77 : xI := [[(0, .iload_n 0, 1), (1, .tableswitch 85 1 5 #[35, 45, 55, 65, 75], 35)], [], [(36, .new 310, 3), (39, .dup, 1), (40, .iload_n 0, 1), (41, .iload_n 1, 1), (42, .invokespecial 312, 3), (45, .areturn, 1), (46, .new 314, 3)], [(49, .dup, 1), (50, .iload_n 0, 1), (51, .iload_n 1, 1), (52, .invokespecial 316, 3), (55, .areturn, 1), (56, .new 317, 3), (59, .dup, 1), (60, .iload_n 0, 1), (61, .iload_n 1, 1), (62, .invokespecial 319, 3)], [(65, .areturn, 1), (66, .new 178, 3), (69, .dup, 1), (70, .iload_n 0, 1), (71, .iload_n 1, 1), (72, .invokespecial 320, 3), (75, .areturn, 1), (76, .new 321, 3), (79, .dup, 1)], [(80, .iload_n 0, 1), (81, .iload_n 1, 1), (82, .invokespecial 323, 3), (85, .areturn, 1), (86, .new 18, 3), (89, .dup, 1), (90, .iload_n 0, 1), (91, .iload_n 1, 1), (92, .invokespecial 324, 3), (95, .areturn, 1)]]
def xt_78 : xI := [[(0, .iconst 0, 1), (1, .istore_n 2, 1), (2, .iconst 0, 1), (3, .istore_n 3, 1), (4, .iload_n 3, 1), (5, .aload_n 0, 1), (6, .getfield 38, 3), (9, .invokevirtual 139, 3), (12, .if_icmp .ge 24, 3), (15, .aload_n 0, 1)], [(16, .iload_n 3, 1), (17, .invokevirtual 149, 3), (20, .iload_n 1, 1), (21, .invokevirtual 154, 3), (24, .ifCond .eq 6, 3), (27, .iinc 2 1, 3), (30, .iinc 3 1, 3)], [(33, .goto (-29), 3), (36, .iload_n 2, 1), (37, .ireturn, 1)]]
def xt_79 : xI := [[(0, .iconst 0, 1), (1, .istore_n 1, 1), (2, .iconst 0, 1), (3, .istore_n 2, 1), (4, .iload_n 2, 1), (5, .iconst 3, 1), (6, .if_icmp .ge 24, 3), (9, .aload_n 0, 1), (10, .getfield 31, 3), (13, .iload_n 2, 1), (14, .aaload, 1), (15, .invokevirtual 216, 3)], [(18, .ifCond .ne 6, 3), (21, .iinc 1 1, 3), (24, .iinc 2 1, 3), (27, .goto (-23), 3), (30, .iload_n 1, 1), (31, .ireturn, 1)]]
def xt_80 : xI := [[(0, .iconst 0, 1), (1, .istore_n 1, 1), (2, .iconst 0, 1), (3, .istore_n 2, 1), (4, .iload_n 2, 1), (5, .aload_n 0, 1), (6, .arraylength, 1), (7, .if_icmp .ge 21, 3), (10, .aload_n 0, 1), (11, .iload_n 2, 1), (12, .aaload, 1), (13, .invokevirtual 112, 3)], [(16, .ifCond .ne 6, 3), (19, .iinc 1 1, 3), (22, .iinc 2 1, 3), (25, .goto (-21), 3), (28, .iload_n 1, 1), (29, .ireturn, 1)]]
def xt_81 : xI := [[(0, .lload_n 1, 1), (1, .lstore_n 3, 1), (2, .iconst 0, 1), (3, .istore 5, 2), (5, .iload 5, 2), (7, .aload_n 0, 1), (8, .arraylength, 1), (9, .if_icmp .ge 62, 3), (12, .ldc2_w 301, 3), (15, .lload_n 3, 1)], [(16, .lmul, 1), (17, .aload_n 0, 1), (18, .iload 5, 2), (20, .aaload, 1), (21, .invokevirtual 125, 3), (24, .i2l, 1), (25, .ladd, 1), (26, .lstore_n 3, 1), (27, .iconst 0, 1), (28, .istore 6, 2), (30, .iload 6, 2)], [(32, .aload_n 0, 1), (33, .iload 5, 2), (35, .aaload, 1), (36, .invokevirtual 125, 3), (39, .if_icmp .ge 26, 3), (42, .ldc2_w 301, 3), (45, .lload_n 3, 1), (46, .lmul, 1), (47, .aload_n 0, 1)], [(48, .iload 5, 2), (50, .aaload, 1), (51, .iload 6, 2), (53, .invokevirtual 106, 3), (56, .i2l, 1), (57, .ladd, 1), (58, .lstore_n 3, 1), (59, .iinc 6 1, 3), (62, .goto (-32), 3)], [(65, .iinc 5 1, 3), (68, .goto (-63), 3), (71, .lload_n 3, 1), (72, .lreturn, 1)]]
def xt_82 : xI := [[(0, .aload_n 0, 1), (1, .invokespecial 1, 3), (4, .aload_n 0, 1), (5, .bipush 6, 2), (7, .newarray .int, 2), (9, .putfield 7, 3), (12, .aload_n 0, 1), (13, .sipush 240, 3)], [(16, .newarray .int, 2), (18, .putfield 13, 3), (21, .aload_n 0, 1), (22, .iconst 4, 1), (23, .newarray .int, 2), (25, .putfield 16, 3), (28, .aload_n 0, 1), (29, .sipush 240, 3)], [(32, .newarray .int, 2), (34, .putfield 19, 3), (37, .aload_n 0, 1), (38, .bipush 6, 2), (40, .newarray .int, 2), (42, .putfield 22, 3), (45, .aload_n 0, 1), (46, .bipush 12, 2)], [(48, .newarray .int, 2), (50, .putfield 25, 3), (53, .aload_n 0, 1), (54, .bipush 16, 2), (56, .newarray .int, 2), (58, .putfield 28, 3), (61, .aload_n 0, 1), (62, .bipush 6, 2)], [(64, .newarray .int, 2), (66, .putfield 31, 3), (69, .aload_n 0, 1), (70, .bipush 12, 2), (72, .newarray .int, 2), (74, .putfield 34, 3), (77, .aload_n 0, 1), (78, .bipush 16, 2)], [(80, .newarray .int, 2), (82, .putfield 37, 3), (85, .aload_n 0, 1), (86, .bipush 40, 2), (88, .newarray .int, 2), (90, .putfield 40, 3), (93, .aload_n 0, 1), (94, .bipush 40, 2)], [(96, .newarray .int, 2), (98, .putfield 43, 3), (101, .aload_n 0, 1), (102, .iconst 3, 1), (103, .newarray .int, 2), (105, .putfield 46, 3), (108, .aload_n 0, 1), (109, .bipush 120, 2), (111, .newarray .int, 2)], [(113, .putfield 49, 3), (116, .aload_n 0, 1), (117, .bipush 120, 2), (119, .newarray .int, 2), (121, .putfield 52, 3), (124, .aload_n 0, 1), (125, .lconst 1, 1), (126, .putfield 55, 3)], [(129, .aload_n 0, 1), (130, .bipush 6, 2), (132, .newarray .int, 2), (134, .putfield 59, 3), (137, .aload_n 0, 1), (138, .bipush 13, 2), (140, .newarray .int, 2), (142, .putfield 62, 3)], [(145, .aload_n 0, 1), (146, .bipush 13, 2), (148, .newarray .int, 2), (150, .putfield 65, 3), (153, .aload_n 0, 1), (154, .bipush 13, 2), (156, .newarray .int, 2), (158, .putfield 68, 3)], [(161, .iconst 0, 1), (162, .istore_n 1, 1), (163, .iload_n 1, 1), (164, .bipush 6, 2), (166, .if_icmp .ge 16, 3), (169, .aload_n 0, 1), (170, .getfield 7, 3), (173, .iload_n 1, 1), (174, .iconst (-1), 1), (175, .iastore, 1)], [(176, .iinc 1 1, 3), (179, .goto (-16), 3), (182, .iconst 0, 1), (183, .istore_n 1, 1), (184, .iload_n 1, 1), (185, .iconst 4, 1), (186, .if_icmp .ge 16, 3), (189, .aload_n 0, 1), (190, .getfield 16, 3)], [(193, .iload_n 1, 1), (194, .iconst (-1), 1), (195, .iastore, 1), (196, .iinc 1 1, 3), (199, .goto (-15), 3), (202, .iconst 0, 1), (203, .istore_n 1, 1), (204, .iload_n 1, 1), (205, .iconst 3, 1), (206, .if_icmp .ge 16, 3)], [(209, .aload_n 0, 1), (210, .getfield 46, 3), (213, .iload_n 1, 1), (214, .iconst (-1), 1), (215, .iastore, 1), (216, .iinc 1 1, 3), (219, .goto (-15), 3), (222, .return_, 1)]]
def xt_83 : xI := [[(0, .iload_n 0, 1), (1, .iload_n 1, 1), (2, .if_icmp .lt 12, 3), (5, .iload_n 0, 1), (6, .iload_n 2, 1), (7, .if_icmp .gt 7, 3), (10, .iconst 1, 1), (11, .goto 4, 3), (14, .iconst 0, 1), (15, .ireturn, 1)]]
def xt_84 : xI := [[(0, .aload_n 0, 1), (1, .iload_n 1, 1), (2, .putfield 71, 3), (5, .aload_n 0, 1), (6, .getfield 59, 3), (9, .iload_n 1, 1), (10, .dup2, 1), (11, .iaload, 1), (12, .iconst 1, 1), (13, .iadd, 1), (14, .iastore, 1), (15, .bipush (-3), 2)], [(17, .ireturn, 1)]]
def xt_85 : xI := [[(0, .iload_n 0, 1), (1, .iconst 0, 1), (2, .iconst 5, 1), (3, .invokestatic 81, 3), (6, .ireturn, 1)]]
def xt_86 : xI := [[(0, .iload_n 0, 1), (1, .iconst 0, 1), (2, .iconst 3, 1), (3, .invokestatic 81, 3), (6, .ireturn, 1)]]
def xt_87 : xI := [[(0, .iload_n 1, 1), (1, .invokestatic 85, 3), (4, .ifCond .eq 9, 3), (7, .iload_n 2, 1), (8, .bipush 40, 2), (10, .if_icmp .le 5, 3), (13, .iconst (-1), 1), (14, .ireturn, 1), (15, .iload_n 2, 1)], [(16, .ifCond .ge 9, 3), (19, .aload_n 0, 1), (20, .iconst 5, 1), (21, .invokevirtual 89, 3), (24, .ireturn, 1), (25, .aload_n 0, 1), (26, .getfield 7, 3), (29, .iload_n 1, 1), (30, .iload_n 2, 1), (31, .iastore, 1)], [(32, .iconst 0, 1), (33, .istore_n 3, 1), (34, .iload_n 3, 1), (35, .iload_n 2, 1), (36, .if_icmp .ge 21, 3), (39, .aload_n 0, 1), (40, .getfield 13, 3), (43, .bipush 40, 2), (45, .iload_n 1, 1), (46, .imul, 1), (47, .iload_n 3, 1)], [(48, .iadd, 1), (49, .iconst 0, 1), (50, .iastore, 1), (51, .iinc 3 1, 3), (54, .goto (-20), 3), (57, .iload_n 2, 1), (58, .ireturn, 1)]]
def xt_88 : xI := [[(0, .iload_n 1, 1), (1, .invokestatic 85, 3), (4, .ifCond .ne 5, 3), (7, .iconst (-1), 1), (8, .ireturn, 1), (9, .aload_n 0, 1), (10, .getfield 7, 3), (13, .iload_n 1, 1), (14, .iaload, 1), (15, .ifCond .ge 9, 3)], [(18, .aload_n 0, 1), (19, .iconst 1, 1), (20, .invokevirtual 89, 3), (23, .ireturn, 1), (24, .iload_n 2, 1), (25, .iconst 0, 1), (26, .aload_n 0, 1), (27, .getfield 7, 3), (30, .iload_n 1, 1), (31, .iaload, 1)], [(32, .iconst 1, 1), (33, .isub, 1), (34, .invokestatic 81, 3), (37, .ifCond .eq 7, 3), (40, .iconst 0, 1), (41, .goto 8, 3), (44, .aload_n 0, 1), (45, .iconst 2, 1), (46, .invokevirtual 89, 3)], [(49, .ireturn, 1)]]
def xt_89 : xI := [[(0, .aload_n 0, 1), (1, .iload_n 1, 1), (2, .iload_n 2, 1), (3, .invokevirtual 93, 3), (6, .istore 4, 2), (8, .iload 4, 2), (10, .ifCond .ge 6, 3), (13, .iload 4, 2), (15, .ireturn, 1)], [(16, .aload_n 0, 1), (17, .getfield 13, 3), (20, .bipush 40, 2), (22, .iload_n 1, 1), (23, .imul, 1), (24, .iload_n 2, 1), (25, .iadd, 1), (26, .iaload, 1), (27, .istore 5, 2), (29, .aload_n 0, 1), (30, .getfield 13, 3)], [(33, .bipush 40, 2), (35, .iload_n 1, 1), (36, .imul, 1), (37, .iload_n 2, 1), (38, .iadd, 1), (39, .iload_n 3, 1), (40, .iastore, 1), (41, .aload_n 0, 1), (42, .iload 5, 2), (44, .invokevirtual 97, 3), (47, .ireturn, 1)]]
def xt_90 : xI := [[(0, .aload_n 0, 1), (1, .iload_n 1, 1), (2, .iload_n 2, 1), (3, .invokevirtual 93, 3), (6, .istore_n 3, 1), (7, .iload_n 3, 1), (8, .ifCond .ge 7, 3), (11, .iload_n 3, 1), (12, .goto 18, 3), (15, .aload_n 0, 1)], [(16, .aload_n 0, 1), (17, .getfield 13, 3), (20, .bipush 40, 2), (22, .iload_n 1, 1), (23, .imul, 1), (24, .iload_n 2, 1), (25, .iadd, 1), (26, .iaload, 1), (27, .invokevirtual 97, 3), (30, .ireturn, 1)]]
def xt_91 : xI := [[(0, .iload_n 1, 1), (1, .invokestatic 85, 3), (4, .ifCond .ne 5, 3), (7, .iconst (-1), 1), (8, .ireturn, 1), (9, .aload_n 0, 1), (10, .getfield 7, 3), (13, .iload_n 1, 1), (14, .iaload, 1), (15, .ifCond .ge 9, 3)], [(18, .aload_n 0, 1), (19, .iconst 1, 1), (20, .invokevirtual 89, 3), (23, .ireturn, 1), (24, .aload_n 0, 1), (25, .getfield 7, 3), (28, .iload_n 1, 1), (29, .iconst (-1), 1), (30, .iastore, 1), (31, .iconst 1, 1)], [(32, .ireturn, 1)]]
def xt_92 : xI := [[(0, .iload_n 1, 1), (1, .invokestatic 85, 3), (4, .ifCond .eq 10, 3), (7, .iload_n 3, 1), (8, .invokestatic 85, 3), (11, .ifCond .ne 5, 3), (14, .iconst (-1), 1), (15, .ireturn, 1)], [(16, .iload 5, 2), (18, .ifCond .ge 9, 3), (21, .aload_n 0, 1), (22, .iconst 5, 1), (23, .invokevirtual 89, 3), (26, .ireturn, 1), (27, .aload_n 0, 1), (28, .getfield 7, 3), (31, .iload_n 1, 1)], [(32, .iaload, 1), (33, .ifCond .lt 12, 3), (36, .aload_n 0, 1), (37, .getfield 7, 3), (40, .iload_n 3, 1), (41, .iaload, 1), (42, .ifCond .ge 9, 3), (45, .aload_n 0, 1), (46, .iconst 1, 1), (47, .invokevirtual 89, 3)], [(50, .ireturn, 1), (51, .iload_n 2, 1), (52, .iload 5, 2), (54, .aload_n 0, 1), (55, .getfield 7, 3), (58, .iload_n 1, 1), (59, .iaload, 1), (60, .invokestatic 100, 3), (63, .ifCond .eq 19, 3)], [(66, .iload 4, 2), (68, .iload 5, 2), (70, .aload_n 0, 1), (71, .getfield 7, 3), (74, .iload_n 3, 1), (75, .iaload, 1), (76, .invokestatic 100, 3), (79, .ifCond .ne 9, 3)], [(82, .aload_n 0, 1), (83, .iconst 2, 1), (84, .invokevirtual 89, 3), (87, .ireturn, 1), (88, .iload_n 1, 1), (89, .iload_n 3, 1), (90, .if_icmp .ne 13, 3), (93, .iload 4, 2), (95, .iload_n 2, 1)], [(96, .if_icmp .le 7, 3), (99, .iconst 1, 1), (100, .goto 4, 3), (103, .iconst 0, 1), (104, .istore 6, 2), (106, .iconst 0, 1), (107, .istore 7, 2), (109, .iload 7, 2), (111, .iload 5, 2)], [(113, .if_icmp .ge 57, 3), (116, .iload 6, 2), (118, .ifCond .eq 13, 3), (121, .iload 5, 2), (123, .iconst 1, 1), (124, .isub, 1), (125, .iload 7, 2), (127, .isub, 1)], [(128, .goto 5, 3), (131, .iload 7, 2), (133, .istore 8, 2), (135, .aload_n 0, 1), (136, .getfield 13, 3), (139, .bipush 40, 2), (141, .iload_n 3, 1), (142, .imul, 1), (143, .iload 4, 2)], [(145, .iadd, 1), (146, .iload 8, 2), (148, .iadd, 1), (149, .aload_n 0, 1), (150, .getfield 13, 3), (153, .bipush 40, 2), (155, .iload_n 1, 1), (156, .imul, 1), (157, .iload_n 2, 1), (158, .iadd, 1), (159, .iload 8, 2)], [(161, .iadd, 1), (162, .iaload, 1), (163, .iastore, 1), (164, .iinc 7 1, 3), (167, .goto (-58), 3), (170, .iconst 1, 1), (171, .ireturn, 1)]]
def xt_93 : xI := [[(0, .iload_n 1, 1), (1, .invokestatic 85, 3), (4, .ifCond .ne 5, 3), (7, .iconst (-1), 1), (8, .ireturn, 1), (9, .aload_n 0, 1), (10, .getfield 7, 3), (13, .iload_n 1, 1), (14, .iaload, 1), (15, .ifCond .ge 9, 3)], [(18, .aload_n 0, 1), (19, .iconst 1, 1), (20, .invokevirtual 89, 3), (23, .ireturn, 1), (24, .aload_n 0, 1), (25, .getfield 7, 3), (28, .iload_n 1, 1), (29, .iaload, 1), (30, .ifCond .ne 9, 3)], [(33, .aload_n 0, 1), (34, .iconst 4, 1), (35, .invokevirtual 89, 3), (38, .ireturn, 1), (39, .lconst 0, 1), (40, .lstore_n 2, 1), (41, .iconst 0, 1), (42, .istore 4, 2), (44, .iload 4, 2), (46, .aload_n 0, 1), (47, .getfield 7, 3)], [(50, .iload_n 1, 1), (51, .iaload, 1), (52, .if_icmp .ge 25, 3), (55, .lload_n 2, 1), (56, .aload_n 0, 1), (57, .getfield 13, 3), (60, .bipush 40, 2), (62, .iload_n 1, 1), (63, .imul, 1)], [(64, .iload 4, 2), (66, .iadd, 1), (67, .iaload, 1), (68, .i2l, 1), (69, .ladd, 1), (70, .lstore_n 2, 1), (71, .iinc 4 1, 3), (74, .goto (-30), 3), (77, .aload_n 0, 1), (78, .lload_n 2, 1), (79, .aload_n 0, 1)], [(80, .getfield 7, 3), (83, .iload_n 1, 1), (84, .iaload, 1), (85, .i2l, 1), (86, .ldiv, 1), (87, .l2i, 1), (88, .invokevirtual 97, 3), (91, .ireturn, 1)]]
def xt_94 : xI := [[(0, .iload_n 1, 1), (1, .invokestatic 103, 3), (4, .ifCond .eq 9, 3), (7, .iload_n 2, 1), (8, .bipush 60, 2), (10, .if_icmp .le 5, 3), (13, .iconst (-1), 1), (14, .ireturn, 1), (15, .iload_n 2, 1)], [(16, .ifCond .ge 9, 3), (19, .aload_n 0, 1), (20, .iconst 5, 1), (21, .invokevirtual 89, 3), (24, .ireturn, 1), (25, .aload_n 0, 1), (26, .getfield 16, 3), (29, .iload_n 1, 1), (30, .iload_n 2, 1), (31, .iastore, 1)], [(32, .iconst 0, 1), (33, .istore_n 3, 1), (34, .iload_n 3, 1), (35, .iload_n 2, 1), (36, .if_icmp .ge 22, 3), (39, .aload_n 0, 1), (40, .getfield 19, 3), (43, .bipush 60, 2), (45, .iload_n 1, 1), (46, .imul, 1), (47, .iload_n 3, 1)], [(48, .iadd, 1), (49, .bipush 32, 2), (51, .iastore, 1), (52, .iinc 3 1, 3), (55, .goto (-21), 3), (58, .iload_n 2, 1), (59, .ireturn, 1)]]
def xt_95 : xI := [[(0, .iload_n 1, 1), (1, .invokestatic 103, 3), (4, .ifCond .ne 5, 3), (7, .iconst (-1), 1), (8, .ireturn, 1), (9, .aload_n 0, 1), (10, .getfield 16, 3), (13, .iload_n 1, 1), (14, .iaload, 1), (15, .ifCond .ge 9, 3)], [(18, .aload_n 0, 1), (19, .iconst 1, 1), (20, .invokevirtual 89, 3), (23, .ireturn, 1), (24, .iload_n 2, 1), (25, .iconst 0, 1), (26, .aload_n 0, 1), (27, .getfield 16, 3), (30, .iload_n 1, 1), (31, .iaload, 1)], [(32, .iconst 1, 1), (33, .isub, 1), (34, .invokestatic 81, 3), (37, .ifCond .ne 9, 3), (40, .aload_n 0, 1), (41, .iconst 2, 1), (42, .invokevirtual 89, 3), (45, .ireturn, 1), (46, .aload_n 0, 1), (47, .getfield 19, 3)], [(50, .bipush 60, 2), (52, .iload_n 1, 1), (53, .imul, 1), (54, .iload_n 2, 1), (55, .iadd, 1), (56, .iaload, 1), (57, .istore 4, 2), (59, .aload_n 0, 1), (60, .getfield 19, 3), (63, .bipush 60, 2)], [(65, .iload_n 1, 1), (66, .imul, 1), (67, .iload_n 2, 1), (68, .iadd, 1), (69, .iload_n 3, 1), (70, .i2b, 1), (71, .iastore, 1), (72, .iload 4, 2), (74, .sipush 1000, 3), (77, .iadd, 1), (78, .ireturn, 1)]]
def xt_96 : xI := [[(0, .iload_n 1, 1), (1, .invokestatic 103, 3), (4, .ifCond .ne 5, 3), (7, .iconst (-1), 1), (8, .ireturn, 1), (9, .aload_n 0, 1), (10, .getfield 16, 3), (13, .iload_n 1, 1), (14, .iaload, 1), (15, .ifCond .ge 9, 3)], [(18, .aload_n 0, 1), (19, .iconst 1, 1), (20, .invokevirtual 89, 3), (23, .ireturn, 1), (24, .aload_n 0, 1), (25, .iload_n 1, 1), (26, .invokevirtual 144, 3), (29, .ifCond .eq 8, 3)], [(32, .bipush (-9), 2), (34, .goto 7, 3), (37, .aload_n 0, 1), (38, .getfield 106, 3), (41, .ireturn, 1)]]
def xt_97 : xI := [[(0, .iload_n 1, 1), (1, .invokestatic 103, 3), (4, .ifCond .ne 5, 3), (7, .iconst (-1), 1), (8, .ireturn, 1), (9, .aload_n 0, 1), (10, .getfield 16, 3), (13, .iload_n 1, 1), (14, .iaload, 1), (15, .ifCond .ge 9, 3)], [(18, .aload_n 0, 1), (19, .iconst 1, 1), (20, .invokevirtual 89, 3), (23, .ireturn, 1), (24, .aload_n 0, 1), (25, .iload_n 1, 1), (26, .invokevirtual 144, 3), (29, .ifCond .ne 6, 3)], [(32, .bipush (-4), 2), (34, .ireturn, 1), (35, .aload_n 0, 1), (36, .aload_n 0, 1), (37, .getfield 125, 3), (40, .putfield 147, 3), (43, .aload_n 0, 1), (44, .aload_n 0, 1), (45, .getfield 128, 3)], [(48, .putfield 150, 3), (51, .aload_n 0, 1), (52, .iconst 0, 1), (53, .putfield 153, 3), (56, .iconst 0, 1), (57, .istore_n 2, 1), (58, .iload_n 2, 1), (59, .bipush 6, 2), (61, .if_icmp .ge 21, 3)], [(64, .aload_n 0, 1), (65, .getfield 31, 3), (68, .iload_n 2, 1), (69, .aload_n 0, 1), (70, .getfield 22, 3), (73, .iload_n 2, 1), (74, .iaload, 1), (75, .iastore, 1), (76, .iinc 2 1, 3), (79, .goto (-21), 3)], [(82, .iconst 0, 1), (83, .istore_n 2, 1), (84, .iload_n 2, 1), (85, .iconst 2, 1), (86, .aload_n 0, 1), (87, .getfield 147, 3), (90, .imul, 1), (91, .if_icmp .ge 21, 3), (94, .aload_n 0, 1), (95, .getfield 34, 3)], [(98, .iload_n 2, 1), (99, .aload_n 0, 1), (100, .getfield 25, 3), (103, .iload_n 2, 1), (104, .iaload, 1), (105, .iastore, 1), (106, .iinc 2 1, 3), (109, .goto (-25), 3)], [(112, .iconst 0, 1), (113, .istore_n 2, 1), (114, .iload_n 2, 1), (115, .iconst 2, 1), (116, .aload_n 0, 1), (117, .getfield 150, 3), (120, .imul, 1), (121, .if_icmp .ge 21, 3), (124, .aload_n 0, 1), (125, .getfield 37, 3)], [(128, .iload_n 2, 1), (129, .aload_n 0, 1), (130, .getfield 28, 3), (133, .iload_n 2, 1), (134, .iaload, 1), (135, .iastore, 1), (136, .iinc 2 1, 3), (139, .goto (-25), 3), (142, .iconst 0, 1), (143, .istore_n 2, 1)], [(144, .iload_n 2, 1), (145, .iconst 3, 1), (146, .if_icmp .ge 16, 3), (149, .aload_n 0, 1), (150, .getfield 46, 3), (153, .iload_n 2, 1), (154, .iconst (-1), 1), (155, .iastore, 1), (156, .iinc 2 1, 3), (159, .goto (-15), 3)], [(162, .aload_n 0, 1), (163, .getfield 147, 3), (166, .ireturn, 1)]]
def xt_98 : xI := [[(0, .iload_n 1, 1), (1, .iconst 0, 1), (2, .aload_n 0, 1), (3, .getfield 147, 3), (6, .iconst 1, 1), (7, .isub, 1), (8, .invokestatic 81, 3), (11, .ireturn, 1)]]
def xt_99 : xI := [[(0, .iload_n 0, 1), (1, .iconst 0, 1), (2, .iconst 5, 1), (3, .invokestatic 81, 3), (6, .ireturn, 1)]]
def xt_100 : xI := [[(0, .aload_n 0, 1), (1, .iload_n 1, 1), (2, .invokevirtual 173, 3), (5, .ifCond .eq 12, 3), (8, .iload_n 2, 1), (9, .iconst 0, 1), (10, .iconst 3, 1), (11, .invokestatic 81, 3), (14, .ifCond .ne 5, 3)], [(17, .iconst (-1), 1), (18, .ireturn, 1), (19, .iload_n 2, 1), (20, .iconst 2, 1), (21, .if_icmp .ge 18, 3), (24, .aload_n 0, 1), (25, .aload_n 0, 1), (26, .getfield 34, 3), (29, .iconst 2, 1), (30, .iload_n 1, 1), (31, .imul, 1)], [(32, .iload_n 2, 1), (33, .iadd, 1), (34, .iaload, 1), (35, .invokevirtual 97, 3), (38, .ireturn, 1), (39, .iconst 0, 1), (40, .istore_n 3, 1), (41, .iconst 0, 1), (42, .istore 4, 2), (44, .iload 4, 2), (46, .aload_n 0, 1), (47, .getfield 153, 3)], [(50, .if_icmp .ge 44, 3), (53, .iload_n 3, 1), (54, .aload_n 0, 1), (55, .getfield 43, 3), (58, .iload 4, 2), (60, .iaload, 1), (61, .iload_n 1, 1), (62, .if_icmp .ne 23, 3)], [(65, .iload_n 2, 1), (66, .iconst 2, 1), (67, .if_icmp .eq 14, 3), (70, .aload_n 0, 1), (71, .iload 4, 2), (73, .invokevirtual 176, 3), (76, .bipush (-9), 2), (78, .if_icmp .eq 7, 3)], [(81, .iconst 1, 1), (82, .goto 4, 3), (85, .iconst 0, 1), (86, .iadd, 1), (87, .istore_n 3, 1), (88, .iinc 4 1, 3), (91, .goto (-47), 3), (94, .aload_n 0, 1), (95, .iload_n 3, 1)], [(96, .invokevirtual 97, 3), (99, .ireturn, 1)]]
def xt_101 : xI := [[(0, .aload_n 0, 1), (1, .iload_n 1, 1), (2, .invokevirtual 173, 3), (5, .ifCond .eq 12, 3), (8, .iload_n 2, 1), (9, .iconst 1, 1), (10, .iconst 5, 1), (11, .invokestatic 81, 3), (14, .ifCond .ne 5, 3)], [(17, .iconst (-1), 1), (18, .ireturn, 1), (19, .aload_n 0, 1), (20, .getfield 34, 3), (23, .iconst 2, 1), (24, .iload_n 1, 1), (25, .imul, 1), (26, .iaload, 1), (27, .iload_n 2, 1), (28, .invokestatic 179, 3), (31, .ifCond .ne 9, 3)], [(34, .aload_n 0, 1), (35, .iconst 3, 1), (36, .invokevirtual 89, 3), (39, .ireturn, 1), (40, .iconst 0, 1), (41, .istore_n 3, 1), (42, .iload_n 2, 1), (43, .tableswitch 148 1 4 #[29, 61, 103, 139], 29)], [], [(72, .aload_n 0, 1), (73, .getfield 34, 3), (76, .iconst 2, 1), (77, .iload_n 1, 1), (78, .imul, 1), (79, .iconst 1, 1)], [(80, .iadd, 1), (81, .iaload, 1), (82, .ifCond .ne 8, 3), (85, .bipush (-9), 2), (87, .goto 16, 3), (90, .aload_n 0, 1), (91, .iload_n 1, 1), (92, .aload_n 0, 1), (93, .getfield 40, 3)], [(96, .aload_n 0, 1), (97, .getfield 153, 3), (100, .invokevirtual 163, 3), (103, .ireturn, 1), (104, .iconst 0, 1), (105, .istore 4, 2), (107, .iload 4, 2), (109, .aload_n 0, 1), (110, .getfield 153, 3)], [(113, .if_icmp .ge 31, 3), (116, .iload_n 3, 1), (117, .aload_n 0, 1), (118, .iload_n 1, 1), (119, .aload_n 0, 1), (120, .getfield 40, 3), (123, .iload 4, 2), (125, .invokevirtual 163, 3)], [(128, .ifCond .ne 7, 3), (131, .iconst 1, 1), (132, .goto 4, 3), (135, .iconst 0, 1), (136, .iadd, 1), (137, .istore_n 3, 1), (138, .iinc 4 1, 3), (141, .goto (-34), 3)], [(144, .iload_n 3, 1), (145, .ireturn, 1), (146, .iconst 0, 1), (147, .istore 4, 2), (149, .iload 4, 2), (151, .bipush 6, 2), (153, .if_icmp .ge 27, 3), (156, .iload_n 3, 1), (157, .aload_n 0, 1), (158, .getfield 31, 3)], [(161, .iload 4, 2), (163, .iaload, 1), (164, .ifCond .ne 7, 3), (167, .iconst 1, 1), (168, .goto 4, 3), (171, .iconst 0, 1), (172, .iadd, 1), (173, .istore_n 3, 1), (174, .iinc 4 1, 3)], [(177, .goto (-28), 3), (180, .iload_n 3, 1), (181, .ireturn, 1), (182, .iconst 2, 1), (183, .aload_n 0, 1), (184, .getfield 153, 3), (187, .iconst 3, 1), (188, .irem, 1), (189, .isub, 1), (190, .ireturn, 1), (191, .aload_n 0, 1)], [(192, .getfield 153, 3), (195, .iconst 2, 1), (196, .irem, 1), (197, .iconst 1, 1), (198, .if_icmp .ne 15, 3), (201, .aload_n 0, 1), (202, .getfield 31, 3), (205, .iconst 0, 1), (206, .iaload, 1), (207, .invokestatic 156, 3)], [(210, .goto 4, 3), (213, .iconst 0, 1), (214, .ireturn, 1)]]
def xt_102 : xI := [[(0, .iload_n 1, 1), (1, .invokestatic 183, 3), (4, .ifCond .eq 12, 3), (7, .aload_n 0, 1), (8, .getfield 31, 3), (11, .iload_n 1, 1), (12, .iaload, 1), (13, .goto 4, 3)], [(16, .iconst (-1), 1), (17, .ireturn, 1)]]
def xt_103 : xI := [[(0, .iload_n 1, 1), (1, .iconst 0, 1), (2, .aload_n 0, 1), (3, .getfield 150, 3), (6, .iconst 1, 1), (7, .isub, 1), (8, .invokestatic 81, 3), (11, .ifCond .eq 25, 3), (14, .iload_n 2, 1), (15, .iconst 0, 1)], [(16, .iconst 1, 1), (17, .invokestatic 81, 3), (20, .ifCond .eq 16, 3), (23, .aload_n 0, 1), (24, .getfield 37, 3), (27, .iconst 2, 1), (28, .iload_n 1, 1), (29, .imul, 1), (30, .iload_n 2, 1), (31, .iadd, 1)], [(32, .iaload, 1), (33, .goto 4, 3), (36, .iconst (-1), 1), (37, .ireturn, 1)]]
def xt_104 : xI := [[(0, .aload_n 0, 1), (1, .iload_n 1, 1), (2, .invokevirtual 173, 3), (5, .ifCond .eq 10, 3), (8, .iload_n 2, 1), (9, .invokestatic 183, 3), (12, .ifCond .ne 5, 3), (15, .iconst (-1), 1)], [(16, .ireturn, 1), (17, .aload_n 0, 1), (18, .getfield 153, 3), (21, .bipush 40, 2), (23, .if_icmp .ne 8, 3), (26, .bipush (-2), 2), (28, .goto 9, 3), (31, .aload_n 0, 1)], [(32, .iload_n 1, 1), (33, .iload_n 2, 1), (34, .invokevirtual 186, 3), (37, .ireturn, 1)]]
def xt_105 : xI := [[(0, .iload_n 1, 1), (1, .iconst 0, 1), (2, .aload_n 0, 1), (3, .getfield 153, 3), (6, .iconst 1, 1), (7, .isub, 1), (8, .invokestatic 81, 3), (11, .ifCond .eq 12, 3), (14, .iload_n 2, 1), (15, .iconst 0, 1)], [(16, .iconst 3, 1), (17, .invokestatic 81, 3), (20, .ifCond .ne 5, 3), (23, .iconst (-1), 1), (24, .ireturn, 1), (25, .aload_n 0, 1), (26, .iload_n 2, 1), (27, .ifCond .ne 12, 3), (30, .aload_n 0, 1), (31, .getfield 40, 3)], [(34, .iload_n 1, 1), (35, .iaload, 1), (36, .goto 35, 3), (39, .iload_n 2, 1), (40, .iconst 1, 1), (41, .if_icmp .ne 12, 3), (44, .aload_n 0, 1), (45, .getfield 43, 3)], [(48, .iload_n 1, 1), (49, .iaload, 1), (50, .goto 21, 3), (53, .iload_n 2, 1), (54, .iconst 2, 1), (55, .if_icmp .ne 11, 3), (58, .aload_n 0, 1), (59, .iload_n 1, 1), (60, .invokevirtual 167, 3), (63, .goto 8, 3)], [(66, .aload_n 0, 1), (67, .iload_n 1, 1), (68, .invokevirtual 176, 3), (71, .invokevirtual 97, 3), (74, .ireturn, 1)]]
def xt_106 : xI := [[(0, .iconst 0, 1), (1, .istore_n 1, 1), (2, .iconst 0, 1), (3, .istore_n 2, 1), (4, .iload_n 2, 1), (5, .aload_n 0, 1), (6, .getfield 153, 3), (9, .if_icmp .ge 27, 3), (12, .iload_n 1, 1), (13, .aload_n 0, 1), (14, .iload_n 2, 1), (15, .invokevirtual 176, 3)], [(18, .bipush (-9), 2), (20, .if_icmp .ne 7, 3), (23, .iconst 0, 1), (24, .goto 4, 3), (27, .iconst 1, 1), (28, .iadd, 1), (29, .istore_n 1, 1), (30, .iinc 2 1, 3)], [(33, .goto (-29), 3), (36, .iload_n 1, 1), (37, .ireturn, 1)]]
def xt_107 : xI := [[(0, .bipush (-9), 2), (2, .istore_n 1, 1), (3, .aload_n 0, 1), (4, .getfield 153, 3), (7, .iconst 1, 1), (8, .isub, 1), (9, .istore_n 2, 1), (10, .iload_n 2, 1), (11, .ifCond .lt 25, 3), (14, .aload_n 0, 1), (15, .iload_n 2, 1)], [(16, .invokevirtual 176, 3), (19, .bipush (-9), 2), (21, .if_icmp .ne 7, 3), (24, .iload_n 1, 1), (25, .goto 4, 3), (28, .iload_n 2, 1), (29, .istore_n 1, 1), (30, .iinc 2 (-1), 3)], [(33, .goto (-23), 3), (36, .aload_n 0, 1), (37, .iload_n 1, 1), (38, .putfield 75, 3), (41, .aload_n 0, 1), (42, .invokevirtual 189, 3), (45, .ireturn, 1)]]
def xt_108 : xI := [[(0, .iload_n 1, 1), (1, .iconst 0, 1), (2, .aload_n 0, 1), (3, .getfield 153, 3), (6, .invokestatic 81, 3), (9, .ifCond .ne 5, 3), (12, .iconst (-1), 1), (13, .ireturn, 1), (14, .aload_n 0, 1), (15, .getfield 153, 3)], [(18, .iload_n 1, 1), (19, .isub, 1), (20, .istore_n 2, 1), (21, .aload_n 0, 1), (22, .iload_n 1, 1), (23, .putfield 153, 3), (26, .iload_n 2, 1), (27, .ireturn, 1)]]
def xt_109 : xI := [[(0, .iload_n 1, 1), (1, .iconst 0, 1), (2, .iconst 2, 1), (3, .invokestatic 81, 3), (6, .ifCond .ne 5, 3), (9, .iconst (-1), 1), (10, .ireturn, 1), (11, .aload_n 0, 1), (12, .getfield 147, 3), (15, .ifCond .ne 6, 3)], [(18, .bipush (-4), 2), (20, .ireturn, 1), (21, .aload_n 0, 1), (22, .getfield 46, 3), (25, .iload_n 1, 1), (26, .aload_n 0, 1), (27, .getfield 153, 3), (30, .iastore, 1), (31, .iconst 0, 1)], [(32, .istore_n 2, 1), (33, .iload_n 2, 1), (34, .aload_n 0, 1), (35, .getfield 153, 3), (38, .if_icmp .ge 43, 3), (41, .aload_n 0, 1), (42, .getfield 49, 3), (45, .bipush 40, 2), (47, .iload_n 1, 1)], [(48, .imul, 1), (49, .iload_n 2, 1), (50, .iadd, 1), (51, .aload_n 0, 1), (52, .getfield 40, 3), (55, .iload_n 2, 1), (56, .iaload, 1), (57, .iastore, 1), (58, .aload_n 0, 1), (59, .getfield 52, 3), (62, .bipush 40, 2)], [(64, .iload_n 1, 1), (65, .imul, 1), (66, .iload_n 2, 1), (67, .iadd, 1), (68, .aload_n 0, 1), (69, .getfield 43, 3), (72, .iload_n 2, 1), (73, .iaload, 1), (74, .iastore, 1), (75, .iinc 2 1, 3), (78, .goto (-45), 3)], [(81, .aload_n 0, 1), (82, .getfield 153, 3), (85, .ireturn, 1)]]
def xt_110 : xI := [[(0, .iload_n 1, 1), (1, .iconst 0, 1), (2, .iconst 2, 1), (3, .invokestatic 81, 3), (6, .ifCond .ne 5, 3), (9, .iconst (-1), 1), (10, .ireturn, 1), (11, .aload_n 0, 1), (12, .getfield 46, 3), (15, .iload_n 1, 1)], [(16, .iaload, 1), (17, .ifCond .ge 9, 3), (20, .aload_n 0, 1), (21, .iconst 1, 1), (22, .invokevirtual 89, 3), (25, .ireturn, 1), (26, .aload_n 0, 1), (27, .aload_n 0, 1), (28, .getfield 46, 3), (31, .iload_n 1, 1)], [(32, .iaload, 1), (33, .putfield 153, 3), (36, .iconst 0, 1), (37, .istore_n 2, 1), (38, .iload_n 2, 1), (39, .aload_n 0, 1), (40, .getfield 153, 3), (43, .if_icmp .ge 43, 3), (46, .aload_n 0, 1), (47, .getfield 40, 3)], [(50, .iload_n 2, 1), (51, .aload_n 0, 1), (52, .getfield 49, 3), (55, .bipush 40, 2), (57, .iload_n 1, 1), (58, .imul, 1), (59, .iload_n 2, 1), (60, .iadd, 1), (61, .iaload, 1), (62, .iastore, 1), (63, .aload_n 0, 1)], [(64, .getfield 43, 3), (67, .iload_n 2, 1), (68, .aload_n 0, 1), (69, .getfield 52, 3), (72, .bipush 40, 2), (74, .iload_n 1, 1), (75, .imul, 1), (76, .iload_n 2, 1), (77, .iadd, 1), (78, .iaload, 1), (79, .iastore, 1)], [(80, .iinc 2 1, 3), (83, .goto (-45), 3), (86, .aload_n 0, 1), (87, .getfield 153, 3), (90, .ireturn, 1)]]
def xt_111 : xI := [[(0, .aload_n 0, 1), (1, .getfield 7, 3), (4, .iload_n 1, 1), (5, .iaload, 1), (6, .ifCond .ge 9, 3), (9, .aload_n 0, 1), (10, .iconst 1, 1), (11, .invokevirtual 89, 3), (14, .ireturn, 1), (15, .aload_n 0, 1)], [(16, .getfield 7, 3), (19, .iload_n 1, 1), (20, .iaload, 1), (21, .iload_n 2, 1), (22, .if_icmp .le 9, 3), (25, .aload_n 0, 1), (26, .iconst 5, 1), (27, .invokevirtual 89, 3), (30, .ireturn, 1), (31, .iconst 1, 1)], [(32, .istore 4, 2), (34, .iconst 0, 1), (35, .istore 5, 2), (37, .iload 5, 2), (39, .aload_n 0, 1), (40, .getfield 7, 3), (43, .iload_n 1, 1), (44, .iaload, 1), (45, .if_icmp .ge 47, 3)], [(48, .aload_n 3, 1), (49, .iload 5, 2), (51, .aload_n 0, 1), (52, .getfield 13, 3), (55, .bipush 40, 2), (57, .iload_n 1, 1), (58, .imul, 1), (59, .iload 5, 2), (61, .iadd, 1), (62, .iaload, 1), (63, .iastore, 1)], [(64, .iload 4, 2), (66, .ifCond .eq 17, 3), (69, .aload_n 3, 1), (70, .iload 5, 2), (72, .iaload, 1), (73, .invokestatic 183, 3), (76, .ifCond .eq 7, 3), (79, .iconst 1, 1)], [(80, .goto 4, 3), (83, .iconst 0, 1), (84, .istore 4, 2), (86, .iinc 5 1, 3), (89, .goto (-52), 3), (92, .iload 4, 2), (94, .ifCond .eq 7, 3)], [(97, .iconst 0, 1), (98, .goto 8, 3), (101, .aload_n 0, 1), (102, .iconst 3, 1), (103, .invokevirtual 89, 3), (106, .ireturn, 1)]]
def xt_112 : xI := [[(0, .aload_n 0, 1), (1, .iload_n 1, 1), (2, .bipush 12, 2), (4, .aload_n 0, 1), (5, .getfield 62, 3), (8, .invokevirtual 192, 3), (11, .istore_n 3, 1), (12, .iload_n 3, 1), (13, .ifCond .ge 7, 3)], [(16, .iload_n 3, 1), (17, .goto 14, 3), (20, .aload_n 0, 1), (21, .iload_n 2, 1), (22, .bipush 12, 2), (24, .aload_n 0, 1), (25, .getfield 65, 3), (28, .invokevirtual 192, 3), (31, .istore_n 3, 1)], [(32, .iload_n 3, 1), (33, .ifCond .ge 7, 3), (36, .iload_n 3, 1), (37, .goto 27, 3), (40, .aload_n 0, 1), (41, .getfield 7, 3), (44, .iload_n 1, 1), (45, .iaload, 1), (46, .aload_n 0, 1), (47, .getfield 7, 3)], [(50, .iload_n 2, 1), (51, .iaload, 1), (52, .if_icmp .eq 11, 3), (55, .aload_n 0, 1), (56, .iconst 5, 1), (57, .invokevirtual 89, 3), (60, .goto 4, 3), (63, .iconst 0, 1)], [(64, .ireturn, 1)]]
def xt_113 : xI := [[(0, .aload_n 0, 1), (1, .iload_n 1, 1), (2, .invokevirtual 173, 3), (5, .ifCond .eq 17, 3), (8, .iload_n 2, 1), (9, .invokestatic 85, 3), (12, .ifCond .eq 10, 3), (15, .iload_n 3, 1)], [(16, .invokestatic 85, 3), (19, .ifCond .ne 5, 3), (22, .iconst (-1), 1), (23, .ireturn, 1), (24, .aload_n 0, 1), (25, .iload_n 2, 1), (26, .bipush 12, 2), (28, .aload_n 0, 1), (29, .getfield 62, 3)], [(32, .invokevirtual 192, 3), (35, .istore 4, 2), (37, .iload 4, 2), (39, .ifCond .ge 6, 3), (42, .iload 4, 2), (44, .ireturn, 1), (45, .aload_n 0, 1), (46, .getfield 7, 3)], [(49, .iload_n 2, 1), (50, .iaload, 1), (51, .istore 5, 2), (53, .iconst 0, 1), (54, .istore 6, 2), (56, .iload 6, 2), (58, .iload 5, 2), (60, .if_icmp .ge 27, 3), (63, .aload_n 0, 1)], [(64, .getfield 68, 3), (67, .iload 6, 2), (69, .aload_n 0, 1), (70, .iload_n 1, 1), (71, .aload_n 0, 1), (72, .getfield 62, 3), (75, .iload 6, 2), (77, .invokevirtual 163, 3)], [(80, .iastore, 1), (81, .iinc 6 1, 3), (84, .goto (-28), 3), (87, .aload_n 0, 1), (88, .iload_n 3, 1), (89, .iload 5, 2), (91, .aload_n 0, 1), (92, .getfield 68, 3), (95, .invokevirtual 196, 3)], [(98, .ireturn, 1)]]
def xt_114 : xI := [[(0, .aload_n 0, 1), (1, .iload_n 1, 1), (2, .invokevirtual 173, 3), (5, .ifCond .eq 10, 3), (8, .iload_n 2, 1), (9, .invokestatic 85, 3), (12, .ifCond .ne 5, 3), (15, .iconst (-1), 1)], [(16, .ireturn, 1), (17, .aload_n 0, 1), (18, .iload_n 2, 1), (19, .bipush 12, 2), (21, .aload_n 0, 1), (22, .getfield 62, 3), (25, .invokevirtual 192, 3), (28, .istore_n 3, 1), (29, .iload_n 3, 1), (30, .ifCond .ge 5, 3)], [(33, .iload_n 3, 1), (34, .ireturn, 1), (35, .bipush (-9), 2), (37, .istore 4, 2), (39, .iconst 0, 1), (40, .istore 5, 2), (42, .aload_n 0, 1), (43, .getfield 7, 3), (46, .iload_n 2, 1), (47, .iaload, 1)], [(48, .iconst 1, 1), (49, .isub, 1), (50, .istore 6, 2), (52, .iload 6, 2), (54, .ifCond .lt 47, 3), (57, .aload_n 0, 1), (58, .iload_n 1, 1), (59, .iload 6, 2), (61, .invokevirtual 199, 3)], [(64, .istore 7, 2), (66, .iload 5, 2), (68, .iload 7, 2), (70, .ifCond .eq 7, 3), (73, .iconst 1, 1), (74, .goto 4, 3), (77, .iconst 0, 1), (78, .iadd, 1), (79, .istore 5, 2)], [(81, .iload 7, 2), (83, .ifCond .eq 8, 3), (86, .iload 6, 2), (88, .goto 5, 3), (91, .iload 4, 2), (93, .istore 4, 2), (95, .iinc 6 (-1), 3)], [(98, .goto (-46), 3), (101, .aload_n 0, 1), (102, .iload 5, 2), (104, .putfield 75, 3), (107, .iload 4, 2), (109, .ireturn, 1)]]
def xt_115 : xI := [[(0, .aload_n 0, 1), (1, .iload_n 1, 1), (2, .invokevirtual 173, 3), (5, .ifCond .eq 10, 3), (8, .iload_n 2, 1), (9, .invokestatic 85, 3), (12, .ifCond .ne 5, 3), (15, .iconst (-1), 1)], [(16, .ireturn, 1), (17, .aload_n 0, 1), (18, .iload_n 2, 1), (19, .bipush 12, 2), (21, .aload_n 0, 1), (22, .getfield 62, 3), (25, .invokevirtual 192, 3), (28, .istore_n 3, 1), (29, .iload_n 3, 1), (30, .ifCond .ge 5, 3)], [(33, .iload_n 3, 1), (34, .ireturn, 1), (35, .iconst 0, 1), (36, .istore 4, 2), (38, .iconst 0, 1), (39, .istore 5, 2), (41, .iload 5, 2), (43, .aload_n 0, 1), (44, .getfield 7, 3), (47, .iload_n 2, 1)], [(48, .iaload, 1), (49, .if_icmp .ge 40, 3), (52, .iload 4, 2), (54, .aload_n 0, 1), (55, .iload_n 1, 1), (56, .aload_n 0, 1), (57, .getfield 62, 3), (60, .iload 5, 2), (62, .invokevirtual 163, 3)], [(65, .aload_n 0, 1), (66, .getfield 62, 3), (69, .iload 5, 2), (71, .iaload, 1), (72, .if_icmp .ne 7, 3), (75, .iconst 1, 1), (76, .goto 4, 3), (79, .iconst 0, 1)], [(80, .iadd, 1), (81, .istore 4, 2), (83, .iinc 5 1, 3), (86, .goto (-45), 3), (89, .iload 4, 2), (91, .ireturn, 1)]]
def xt_116 : xI := [[(0, .iload_n 1, 1), (1, .invokestatic 85, 3), (4, .ifCond .eq 10, 3), (7, .iload_n 2, 1), (8, .invokestatic 85, 3), (11, .ifCond .ne 5, 3), (14, .iconst (-1), 1), (15, .ireturn, 1)], [(16, .aload_n 0, 1), (17, .iload_n 1, 1), (18, .iload_n 2, 1), (19, .invokevirtual 202, 3), (22, .istore_n 3, 1), (23, .iload_n 3, 1), (24, .ifCond .ge 5, 3), (27, .iload_n 3, 1), (28, .ireturn, 1), (29, .bipush (-9), 2), (31, .istore 4, 2)], [(33, .iconst 0, 1), (34, .istore 5, 2), (36, .aload_n 0, 1), (37, .getfield 7, 3), (40, .iload_n 1, 1), (41, .iaload, 1), (42, .iconst 1, 1), (43, .isub, 1), (44, .istore 6, 2), (46, .iload 6, 2)], [(48, .ifCond .lt 62, 3), (51, .iload 5, 2), (53, .aload_n 0, 1), (54, .getfield 62, 3), (57, .iload 6, 2), (59, .iaload, 1), (60, .aload_n 0, 1), (61, .getfield 65, 3)], [(64, .iload 6, 2), (66, .iaload, 1), (67, .if_icmp .ne 7, 3), (70, .iconst 0, 1), (71, .goto 4, 3), (74, .iconst 1, 1), (75, .iadd, 1), (76, .istore 5, 2), (78, .aload_n 0, 1), (79, .getfield 62, 3)], [(82, .iload 6, 2), (84, .iaload, 1), (85, .aload_n 0, 1), (86, .getfield 65, 3), (89, .iload 6, 2), (91, .iaload, 1), (92, .if_icmp .ne 8, 3), (95, .iload 4, 2)], [(97, .goto 5, 3), (100, .iload 6, 2), (102, .istore 4, 2), (104, .iinc 6 (-1), 3), (107, .goto (-61), 3), (110, .aload_n 0, 1), (111, .iload 4, 2)], [(113, .putfield 75, 3), (116, .iload 5, 2), (118, .ireturn, 1)]]
def xt_117 : xI := [[(0, .aload_n 0, 1), (1, .iload_n 1, 1), (2, .invokevirtual 173, 3), (5, .ifCond .eq 10, 3), (8, .iload_n 2, 1), (9, .invokestatic 85, 3), (12, .ifCond .ne 5, 3), (15, .iconst (-1), 1)], [(16, .ireturn, 1), (17, .aload_n 0, 1), (18, .iload_n 2, 1), (19, .bipush 6, 2), (21, .aload_n 0, 1), (22, .getfield 65, 3), (25, .invokevirtual 192, 3), (28, .istore_n 3, 1), (29, .iload_n 3, 1), (30, .ifCond .ge 5, 3)], [(33, .iload_n 3, 1), (34, .ireturn, 1), (35, .aload_n 0, 1), (36, .getfield 7, 3), (39, .iload_n 2, 1), (40, .iaload, 1), (41, .istore 4, 2), (43, .iconst 0, 1), (44, .istore 5, 2), (46, .iconst 0, 1), (47, .istore 6, 2)], [(49, .iload 6, 2), (51, .iload 4, 2), (53, .invokestatic 205, 3), (56, .if_icmp .ge 37, 3), (59, .aload_n 0, 1), (60, .iload 6, 2), (62, .iload 4, 2)], [(64, .invokevirtual 208, 3), (67, .iload 5, 2), (69, .aload_n 0, 1), (70, .iload_n 1, 1), (71, .iload 4, 2), (73, .invokevirtual 212, 3), (76, .ifCond .eq 7, 3), (79, .iconst 1, 1)], [(80, .goto 4, 3), (83, .iconst 0, 1), (84, .iadd, 1), (85, .istore 5, 2), (87, .iinc 6 1, 3), (90, .goto (-41), 3), (93, .aload_n 0, 1), (94, .iload 5, 2)], [(96, .i2l, 1), (97, .lconst 1, 1), (98, .invokevirtual 215, 3), (101, .iconst 1, 1), (102, .ireturn, 1)]]
def xt_118 : xI := [[(0, .aload_n 0, 1), (1, .iload_n 1, 1), (2, .invokevirtual 173, 3), (5, .ifCond .eq 17, 3), (8, .iload_n 2, 1), (9, .invokestatic 85, 3), (12, .ifCond .eq 10, 3), (15, .iload_n 3, 1)], [(16, .invokestatic 85, 3), (19, .ifCond .ne 5, 3), (22, .iconst (-1), 1), (23, .ireturn, 1), (24, .aload_n 0, 1), (25, .iload_n 2, 1), (26, .bipush 6, 2), (28, .aload_n 0, 1), (29, .getfield 65, 3)], [(32, .invokevirtual 192, 3), (35, .istore 4, 2), (37, .iload 4, 2), (39, .ifCond .ge 6, 3), (42, .iload 4, 2), (44, .ireturn, 1), (45, .aload_n 0, 1), (46, .getfield 7, 3)], [(49, .iload_n 2, 1), (50, .iaload, 1), (51, .istore 5, 2), (53, .iconst 0, 1), (54, .istore 6, 2), (56, .iload 6, 2), (58, .iload 5, 2), (60, .invokestatic 205, 3), (63, .if_icmp .ge 39, 3)], [(66, .aload_n 0, 1), (67, .iload 6, 2), (69, .iload 5, 2), (71, .invokevirtual 208, 3), (74, .aload_n 0, 1), (75, .iload_n 1, 1), (76, .iload 5, 2), (78, .invokevirtual 212, 3)], [(81, .ifCond .eq 15, 3), (84, .aload_n 0, 1), (85, .iload_n 3, 1), (86, .iload 5, 2), (88, .aload_n 0, 1), (89, .getfield 62, 3), (92, .invokevirtual 196, 3), (95, .ireturn, 1)], [(96, .iinc 6 1, 3), (99, .goto (-43), 3), (102, .bipush (-9), 2), (104, .ireturn, 1)]]
def xt_119 : xI := [[(0, .aload_n 0, 1), (1, .iload_n 1, 1), (2, .invokevirtual 173, 3), (5, .ifCond .eq 14, 3), (8, .iload_n 2, 1), (9, .invokestatic 85, 3), (12, .ifCond .eq 7, 3), (15, .iload_n 3, 1)], [(16, .ifCond .ge 5, 3), (19, .iconst (-1), 1), (20, .ireturn, 1), (21, .aload_n 0, 1), (22, .iload_n 2, 1), (23, .bipush 6, 2), (25, .aload_n 0, 1), (26, .getfield 65, 3), (29, .invokevirtual 192, 3)], [(32, .istore 4, 2), (34, .iload 4, 2), (36, .ifCond .ge 6, 3), (39, .iload 4, 2), (41, .ireturn, 1), (42, .aload_n 0, 1), (43, .getfield 7, 3), (46, .iload_n 2, 1), (47, .iaload, 1)], [(48, .istore 5, 2), (50, .iload_n 3, 1), (51, .iload 5, 2), (53, .if_icmp .lt 5, 3), (56, .iconst (-1), 1), (57, .ireturn, 1), (58, .iconst 0, 1), (59, .istore 6, 2), (61, .iconst 0, 1), (62, .istore 7, 2)], [(64, .iload 7, 2), (66, .iload 5, 2), (68, .invokestatic 205, 3), (71, .if_icmp .ge 44, 3), (74, .aload_n 0, 1), (75, .iload 7, 2), (77, .iload 5, 2), (79, .invokevirtual 208, 3)], [(82, .iload 6, 2), (84, .aload_n 0, 1), (85, .iload_n 1, 1), (86, .iload 5, 2), (88, .invokevirtual 212, 3), (91, .ifCond .eq 14, 3), (94, .iconst 1, 1), (95, .aload_n 0, 1)], [(96, .getfield 62, 3), (99, .iload_n 3, 1), (100, .iaload, 1), (101, .ishl, 1), (102, .goto 4, 3), (105, .iconst 0, 1), (106, .ior, 1), (107, .istore 6, 2), (109, .iinc 7 1, 3)], [(112, .goto (-48), 3), (115, .iload 6, 2), (117, .ireturn, 1)]]
def xt_120 : xI := [[(0, .iload_n 1, 1), (1, .invokestatic 85, 3), (4, .ifCond .eq 10, 3), (7, .iload_n 2, 1), (8, .invokestatic 85, 3), (11, .ifCond .ne 5, 3), (14, .iconst (-1), 1), (15, .ireturn, 1)], [(16, .aload_n 0, 1), (17, .iload_n 1, 1), (18, .iload_n 2, 1), (19, .invokevirtual 202, 3), (22, .istore_n 3, 1), (23, .iload_n 3, 1), (24, .ifCond .ge 7, 3), (27, .iload_n 3, 1), (28, .goto 13, 3), (31, .aload_n 0, 1)], [(32, .aload_n 0, 1), (33, .getfield 7, 3), (36, .iload_n 1, 1), (37, .iaload, 1), (38, .invokevirtual 219, 3), (41, .ireturn, 1)]]
def xt_121 : xI := [[(0, .iload_n 1, 1), (1, .invokestatic 85, 3), (4, .ifCond .eq 10, 3), (7, .iload_n 2, 1), (8, .invokestatic 85, 3), (11, .ifCond .ne 5, 3), (14, .iconst (-1), 1), (15, .ireturn, 1)], [(16, .aload_n 0, 1), (17, .iload_n 1, 1), (18, .iload_n 2, 1), (19, .invokevirtual 202, 3), (22, .istore_n 3, 1), (23, .iload_n 3, 1), (24, .ifCond .ge 5, 3), (27, .iload_n 3, 1), (28, .ireturn, 1), (29, .aload_n 0, 1), (30, .getfield 7, 3)], [(33, .iload_n 1, 1), (34, .iaload, 1), (35, .istore 4, 2), (37, .iload 4, 2), (39, .bipush 12, 2), (41, .if_icmp .ne 9, 3), (44, .aload_n 0, 1), (45, .iconst 5, 1), (46, .invokevirtual 89, 3)], [(49, .ireturn, 1), (50, .aload_n 0, 1), (51, .iload 4, 2), (53, .invokevirtual 219, 3), (56, .istore 5, 2), (58, .iload 5, 2), (60, .invokestatic 222, 3), (63, .iconst 2, 1)], [(64, .if_icmp .ge 6, 3), (67, .bipush (-9), 2), (69, .ireturn, 1), (70, .bipush (-9), 2), (72, .istore 6, 2), (74, .bipush 99, 2), (76, .istore 7, 2), (78, .iconst 0, 1), (79, .istore 8, 2)], [(81, .iload 8, 2), (83, .bipush 6, 2), (85, .if_icmp .ge 147, 3), (88, .aload_n 0, 1), (89, .getfield 62, 3), (92, .iload 4, 2), (94, .iload 8, 2)], [(96, .iastore, 1), (97, .iconst 0, 1), (98, .istore 9, 2), (100, .iconst 0, 1), (101, .istore 10, 2), (103, .iload 10, 2), (105, .bipush 6, 2), (107, .if_icmp .ge 87, 3), (110, .iconst 0, 1), (111, .istore 11, 2)], [(113, .iconst 0, 1), (114, .istore 12, 2), (116, .iload 12, 2), (118, .bipush 24, 2), (120, .if_icmp .ge 52, 3), (123, .iload 11, 2), (125, .iload 5, 2), (127, .iload 12, 2)], [(129, .invokestatic 225, 3), (132, .ifCond .eq 30, 3), (135, .aload_n 0, 1), (136, .iload 12, 2), (138, .iconst 4, 1), (139, .idiv, 1), (140, .iload 12, 2), (142, .iconst 4, 1), (143, .irem, 1)], [(144, .aload_n 0, 1), (145, .getfield 62, 3), (148, .iload 4, 2), (150, .invokevirtual 159, 3), (153, .iload 10, 2), (155, .if_icmp .ne 7, 3), (158, .iconst 1, 1), (159, .goto 4, 3)], [(162, .iconst 0, 1), (163, .iadd, 1), (164, .istore 11, 2), (166, .iinc 12 1, 3), (169, .goto (-53), 3), (172, .iload 11, 2), (174, .iload 9, 2)], [(176, .if_icmp .le 8, 3), (179, .iload 11, 2), (181, .goto 5, 3), (184, .iload 9, 2), (186, .istore 9, 2), (188, .iinc 10 1, 3), (191, .goto (-88), 3)], [(194, .iload 9, 2), (196, .iload 7, 2), (198, .if_icmp .ge 8, 3), (201, .iload 8, 2), (203, .goto 5, 3), (206, .iload 6, 2)], [(208, .istore 6, 2), (210, .iload 9, 2), (212, .iload 7, 2), (214, .if_icmp .ge 8, 3), (217, .iload 9, 2), (219, .goto 5, 3), (222, .iload 7, 2)], [(224, .istore 7, 2), (226, .iinc 8 1, 3), (229, .goto (-148), 3), (232, .aload_n 0, 1), (233, .iload 7, 2), (235, .putfield 75, 3), (238, .iload 6, 2)], [(240, .ireturn, 1)]]
def xt_122 : xI := [[(0, .aload_n 0, 1), (1, .iload_n 1, 1), (2, .invokevirtual 173, 3), (5, .ifCond .eq 17, 3), (8, .iload_n 2, 1), (9, .invokestatic 85, 3), (12, .ifCond .eq 10, 3), (15, .iload_n 3, 1)], [(16, .invokestatic 85, 3), (19, .ifCond .ne 5, 3), (22, .iconst (-1), 1), (23, .ireturn, 1), (24, .aload_n 0, 1), (25, .iload_n 2, 1), (26, .iload_n 3, 1), (27, .invokevirtual 202, 3), (30, .istore 4, 2)], [(32, .iload 4, 2), (34, .ifCond .ge 6, 3), (37, .iload 4, 2), (39, .ireturn, 1), (40, .iconst 3, 1), (41, .istore 5, 2), (43, .bipush (-9), 2), (45, .istore 6, 2), (47, .iconst 0, 1)], [(48, .istore 7, 2), (50, .iload 7, 2), (52, .aload_n 0, 1), (53, .getfield 7, 3), (56, .iload_n 2, 1), (57, .iaload, 1), (58, .if_icmp .ge 93, 3), (61, .aload_n 0, 1), (62, .iload_n 1, 1), (63, .aload_n 0, 1)], [(64, .getfield 62, 3), (67, .iload 7, 2), (69, .invokevirtual 163, 3), (72, .aload_n 0, 1), (73, .getfield 65, 3), (76, .iload 7, 2), (78, .iaload, 1), (79, .if_icmp .ne 7, 3)], [(82, .iconst 1, 1), (83, .goto 4, 3), (86, .iconst 0, 1), (87, .aload_n 0, 1), (88, .iload_n 1, 1), (89, .aload_n 0, 1), (90, .getfield 65, 3), (93, .iload 7, 2), (95, .invokevirtual 163, 3)], [(98, .aload_n 0, 1), (99, .getfield 62, 3), (102, .iload 7, 2), (104, .iaload, 1), (105, .if_icmp .ne 7, 3), (108, .iconst 2, 1), (109, .goto 4, 3)], [(112, .iconst 0, 1), (113, .iadd, 1), (114, .istore 8, 2), (116, .iload 5, 2), (118, .iload 8, 2), (120, .iand, 1), (121, .istore 5, 2), (123, .iload 6, 2), (125, .bipush (-9), 2), (127, .if_icmp .ne 14, 3)], [(130, .iload 5, 2), (132, .iconst 3, 1), (133, .if_icmp .eq 8, 3), (136, .iload 7, 2), (138, .goto 5, 3), (141, .iload 6, 2), (143, .istore 6, 2)], [(145, .iinc 7 1, 3), (148, .goto (-98), 3), (151, .aload_n 0, 1), (152, .iload 6, 2), (154, .putfield 75, 3), (157, .iload 5, 2), (159, .ireturn, 1)]]
def xt_123 : xI := [[(0, .aload_n 0, 1), (1, .iload_n 1, 1), (2, .invokevirtual 173, 3), (5, .ifCond .eq 12, 3), (8, .iload_n 2, 1), (9, .iconst 0, 1), (10, .iconst 5, 1), (11, .invokestatic 81, 3), (14, .ifCond .ne 5, 3)], [(17, .iconst (-1), 1), (18, .ireturn, 1), (19, .iconst 0, 1), (20, .istore_n 3, 1), (21, .iconst 0, 1), (22, .istore 4, 2), (24, .iconst 0, 1), (25, .istore 5, 2), (27, .iload 5, 2), (29, .iload_n 2, 1), (30, .invokestatic 205, 3)], [(33, .if_icmp .ge 49, 3), (36, .aload_n 0, 1), (37, .iload 5, 2), (39, .iload_n 2, 1), (40, .invokevirtual 208, 3), (43, .aload_n 0, 1), (44, .iload_n 1, 1), (45, .iload_n 2, 1), (46, .invokevirtual 228, 3)], [(49, .ifCond .eq 27, 3), (52, .iinc 3 1, 3), (55, .iload 4, 2), (57, .iload_n 2, 1), (58, .ifCond .le 14, 3), (61, .iconst 1, 1), (62, .aload_n 0, 1), (63, .getfield 62, 3)], [(66, .iconst 0, 1), (67, .iaload, 1), (68, .ishl, 1), (69, .goto 4, 3), (72, .iconst 0, 1), (73, .ior, 1), (74, .istore 4, 2), (76, .iinc 5 1, 3), (79, .goto (-52), 3)], [(82, .aload_n 0, 1), (83, .iload_n 3, 1), (84, .i2l, 1), (85, .lconst 1, 1), (86, .invokevirtual 215, 3), (89, .aload_n 0, 1), (90, .iload 4, 2), (92, .invokevirtual 97, 3), (95, .ireturn, 1)]]
def xt_124 : xI := [[(0, .aload_n 0, 1), (1, .iload_n 1, 1), (2, .invokevirtual 173, 3), (5, .ifCond .eq 12, 3), (8, .iload_n 2, 1), (9, .iconst 0, 1), (10, .iconst 5, 1), (11, .invokestatic 81, 3), (14, .ifCond .ne 5, 3)], [(17, .iconst (-1), 1), (18, .ireturn, 1), (19, .bipush (-9), 2), (21, .istore_n 3, 1), (22, .iconst 0, 1), (23, .istore 4, 2), (25, .iload 4, 2), (27, .iload_n 2, 1), (28, .invokestatic 205, 3), (31, .if_icmp .ge 80, 3)], [(34, .aload_n 0, 1), (35, .iload 4, 2), (37, .iload_n 2, 1), (38, .invokevirtual 208, 3), (41, .aload_n 0, 1), (42, .iload_n 1, 1), (43, .iload_n 2, 1), (44, .invokevirtual 228, 3), (47, .ifCond .eq 58, 3)], [(50, .iconst 0, 1), (51, .istore 5, 2), (53, .iconst 0, 1), (54, .istore 6, 2), (56, .iload 6, 2), (58, .iload_n 2, 1), (59, .if_icmp .ge 29, 3), (62, .iload 5, 2)], [(64, .aload_n 0, 1), (65, .getfield 62, 3), (68, .iload 6, 2), (70, .iaload, 1), (71, .ifCond .ne 7, 3), (74, .iconst 1, 1), (75, .goto 4, 3), (78, .iconst 0, 1), (79, .iadd, 1)], [(80, .istore 5, 2), (82, .iinc 6 1, 3), (85, .goto (-29), 3), (88, .iload_n 3, 1), (89, .ifCond .lt 9, 3), (92, .iload 5, 2), (94, .iload_n 3, 1), (95, .if_icmp .ge 8, 3)], [(98, .iload 5, 2), (100, .goto 4, 3), (103, .iload_n 3, 1), (104, .istore_n 3, 1), (105, .iinc 4 1, 3), (108, .goto (-83), 3), (111, .iload_n 3, 1)], [(112, .ireturn, 1)]]
def xt_125 : xI := [[(0, .iload_n 1, 1), (1, .iconst 0, 1), (2, .iconst 3, 1), (3, .invokestatic 81, 3), (6, .ifCond .ne 5, 3), (9, .iconst (-1), 1), (10, .ireturn, 1), (11, .aload_n 0, 1), (12, .getfield 147, 3), (15, .ifCond .ne 6, 3)], [(18, .bipush (-4), 2), (20, .ireturn, 1), (21, .aload_n 0, 1), (22, .iload_n 1, 1), (23, .invokevirtual 234, 3), (26, .ifCond .lt 7, 3), (29, .iconst 1, 1), (30, .goto 4, 3)], [(33, .iconst 0, 1), (34, .ireturn, 1)]]
def xt_126 : xI := [[(0, .iload_n 1, 1), (1, .iconst 1, 1), (2, .iconst 3, 1), (3, .invokestatic 81, 3), (6, .ifCond .ne 5, 3), (9, .iconst (-1), 1), (10, .ireturn, 1), (11, .aload_n 0, 1), (12, .getfield 147, 3), (15, .ifCond .ne 6, 3)], [(18, .bipush (-4), 2), (20, .ireturn, 1), (21, .aload_n 0, 1), (22, .iload_n 1, 1), (23, .invokevirtual 234, 3), (26, .ifCond .lt 12, 3), (29, .aload_n 0, 1), (30, .getfield 62, 3)], [(33, .iconst 0, 1), (34, .iaload, 1), (35, .goto 5, 3), (38, .bipush (-9), 2), (40, .ireturn, 1)]]
def xt_127 : xI := [[(0, .aload_n 0, 1), (1, .iload_n 1, 1), (2, .invokevirtual 173, 3), (5, .ifCond .eq 20, 3), (8, .iload_n 2, 1), (9, .invokestatic 85, 3), (12, .ifCond .eq 13, 3), (15, .iload_n 3, 1)], [(16, .iconst 0, 1), (17, .bipush 12, 2), (19, .invokestatic 81, 3), (22, .ifCond .ne 5, 3), (25, .iconst (-1), 1), (26, .ireturn, 1), (27, .aload_n 0, 1), (28, .iload_n 2, 1), (29, .bipush 12, 2), (31, .aload_n 0, 1)], [(32, .getfield 62, 3), (35, .invokevirtual 192, 3), (38, .istore 4, 2), (40, .iload 4, 2), (42, .ifCond .ge 6, 3), (45, .iload 4, 2), (47, .ireturn, 1)], [(48, .lconst 1, 1), (49, .lstore 5, 2), (51, .lconst 1, 1), (52, .lstore 7, 2), (54, .iconst 0, 1), (55, .istore 9, 2), (57, .iload 9, 2), (59, .aload_n 0, 1), (60, .getfield 7, 3), (63, .iload_n 2, 1)], [(64, .iaload, 1), (65, .if_icmp .ge 64, 3), (68, .lload 5, 2), (70, .aload_n 0, 1), (71, .iload_n 1, 1), (72, .iload 9, 2), (74, .invokevirtual 199, 3), (77, .ifCond .eq 7, 3)], [(80, .iconst 0, 1), (81, .goto 7, 3), (84, .bipush 12, 2), (86, .iload_n 3, 1), (87, .isub, 1), (88, .aload_n 0, 1), (89, .aload_n 0, 1), (90, .getfield 62, 3), (93, .iload 9, 2), (95, .iaload, 1)], [(96, .iconst 0, 1), (97, .invokevirtual 170, 3), (100, .bipush (-9), 2), (102, .if_icmp .ne 7, 3), (105, .iload_n 3, 1), (106, .goto 4, 3), (109, .iconst 0, 1), (110, .iadd, 1), (111, .i2l, 1)], [(112, .lmul, 1), (113, .lstore 5, 2), (115, .lload 7, 2), (117, .ldc2_w 237, 3), (120, .lmul, 1), (121, .lstore 7, 2), (123, .iinc 9 1, 3), (126, .goto (-69), 3)], [(129, .aload_n 0, 1), (130, .lload 5, 2), (132, .lload 7, 2), (134, .invokevirtual 215, 3), (137, .iconst 1, 1), (138, .ireturn, 1)]]
def xt_128 : xI := [[(0, .aload_n 0, 1), (1, .iload_n 1, 1), (2, .invokevirtual 173, 3), (5, .ifCond .eq 20, 3), (8, .iload_n 2, 1), (9, .invokestatic 85, 3), (12, .ifCond .eq 13, 3), (15, .iload_n 3, 1)], [(16, .iconst 0, 1), (17, .bipush 12, 2), (19, .invokestatic 81, 3), (22, .ifCond .ne 5, 3), (25, .iconst (-1), 1), (26, .ireturn, 1), (27, .aload_n 0, 1), (28, .iload_n 2, 1), (29, .bipush 12, 2), (31, .aload_n 0, 1)], [(32, .getfield 62, 3), (35, .invokevirtual 192, 3), (38, .istore 4, 2), (40, .iload 4, 2), (42, .ifCond .ge 6, 3), (45, .iload 4, 2), (47, .ireturn, 1)], [(48, .lconst 0, 1), (49, .lstore 5, 2), (51, .iconst 0, 1), (52, .istore 7, 2), (54, .iload 7, 2), (56, .aload_n 0, 1), (57, .getfield 7, 3), (60, .iload_n 2, 1), (61, .iaload, 1), (62, .if_icmp .ge 56, 3)], [(65, .lload 5, 2), (67, .aload_n 0, 1), (68, .iload_n 1, 1), (69, .iload 7, 2), (71, .invokevirtual 199, 3), (74, .ifCond .eq 10, 3), (77, .bipush 12, 2), (79, .iload_n 3, 1)], [(80, .isub, 1), (81, .goto 4, 3), (84, .iconst 0, 1), (85, .aload_n 0, 1), (86, .aload_n 0, 1), (87, .getfield 62, 3), (90, .iload 7, 2), (92, .iaload, 1), (93, .iconst 0, 1), (94, .invokevirtual 170, 3)], [(97, .bipush (-9), 2), (99, .if_icmp .ne 7, 3), (102, .iconst 0, 1), (103, .goto 4, 3), (106, .iload_n 3, 1), (107, .iadd, 1), (108, .i2l, 1), (109, .ladd, 1), (110, .lstore 5, 2)], [(112, .iinc 7 1, 3), (115, .goto (-61), 3), (118, .aload_n 0, 1), (119, .lload 5, 2), (121, .ldc2_w 237, 3), (124, .invokevirtual 215, 3), (127, .iconst 1, 1)], [(128, .ireturn, 1)]]
def xt_129 : xI := [[(0, .iload_n 1, 1), (1, .iconst 1, 1), (2, .bipush 20, 2), (4, .invokestatic 81, 3), (7, .ifCond .eq 13, 3), (10, .iload_n 2, 1), (11, .iconst 1, 1), (12, .ldc 239, 2), (14, .invokestatic 81, 3)], [(17, .ifCond .ne 5, 3), (20, .iconst (-1), 1), (21, .ireturn, 1), (22, .aload_n 0, 1), (23, .getfield 147, 3), (26, .ifCond .ne 6, 3), (29, .bipush (-4), 2), (31, .ireturn, 1)], [(32, .aload_n 0, 1), (33, .getfield 153, 3), (36, .iload_n 1, 1), (37, .iadd, 1), (38, .bipush 40, 2), (40, .if_icmp .le 6, 3), (43, .bipush (-2), 2), (45, .ireturn, 1), (46, .iload_n 2, 1), (47, .i2l, 1)], [(48, .lstore_n 3, 1), (49, .iconst 0, 1), (50, .istore 5, 2), (52, .iconst 0, 1), (53, .istore 6, 2), (55, .iload 6, 2), (57, .iload_n 1, 1), (58, .if_icmp .ge 67, 3), (61, .lload_n 3, 1), (62, .ldc2_w 240, 3)], [(65, .lmul, 1), (66, .ldc2_w 242, 3), (69, .lrem, 1), (70, .lstore_n 3, 1), (71, .aload_n 0, 1), (72, .lload_n 3, 1), (73, .aload_n 0, 1), (74, .getfield 147, 3), (77, .i2l, 1), (78, .lrem, 1), (79, .l2i, 1)], [(80, .lload_n 3, 1), (81, .ldc2_w 244, 3), (84, .ldiv, 1), (85, .ldc2_w 246, 3), (88, .lrem, 1), (89, .l2i, 1), (90, .invokevirtual 186, 3), (93, .pop, 1), (94, .iload 5, 2)], [(96, .aload_n 0, 1), (97, .aload_n 0, 1), (98, .getfield 153, 3), (101, .iconst 1, 1), (102, .isub, 1), (103, .invokevirtual 176, 3), (106, .bipush (-9), 2), (108, .if_icmp .ne 7, 3), (111, .iconst 0, 1)], [(112, .goto 4, 3), (115, .iconst 1, 1), (116, .iadd, 1), (117, .istore 5, 2), (119, .iinc 6 1, 3), (122, .goto (-67), 3), (125, .iload 5, 2), (127, .ireturn, 1)]]
def xt_130 : xI := [[(0, .aload_n 0, 1), (1, .getfield 75, 3), (4, .ireturn, 1)]]
def xt_131 : xI := [[(0, .aload_n 0, 1), (1, .getfield 78, 3), (4, .lreturn, 1)]]
def xt_132 : xI := [[(0, .aload_n 0, 1), (1, .getfield 55, 3), (4, .lreturn, 1)]]
def xt_133 : xI := [[(0, .iconst 0, 1), (1, .istore_n 2, 1), (2, .iconst 0, 1), (3, .istore_n 3, 1), (4, .iload_n 3, 1), (5, .aload_n 0, 1), (6, .getfield 147, 3), (9, .if_icmp .ge 32, 3), (12, .iload_n 2, 1), (13, .aload_n 0, 1), (14, .getfield 34, 3)], [(17, .iconst 2, 1), (18, .iload_n 3, 1), (19, .imul, 1), (20, .iaload, 1), (21, .iload_n 1, 1), (22, .invokestatic 179, 3), (25, .ifCond .eq 7, 3), (28, .iconst 1, 1), (29, .goto 4, 3)], [(32, .iconst 0, 1), (33, .iadd, 1), (34, .istore_n 2, 1), (35, .iinc 3 1, 3), (38, .goto (-34), 3), (41, .iload_n 2, 1), (42, .ireturn, 1)]]
def xt_134 : xI := [[(0, .iconst 0, 1), (1, .istore_n 2, 1), (2, .iconst 0, 1), (3, .istore_n 3, 1), (4, .iload_n 3, 1), (5, .iload_n 1, 1), (6, .if_icmp .ge 23, 3), (9, .iload_n 2, 1), (10, .aload_n 0, 1), (11, .iload_n 3, 1), (12, .iaload, 1), (13, .ifCond .ge 7, 3)], [(16, .iconst 0, 1), (17, .goto 4, 3), (20, .iconst 1, 1), (21, .iadd, 1), (22, .istore_n 2, 1), (23, .iinc 3 1, 3), (26, .goto (-22), 3), (29, .iload_n 2, 1), (30, .ireturn, 1)]]
def xt_135 : xI := [[(0, .iload_n 1, 1), (1, .tableswitch 111 0 8 #[51, 56, 61, 66, 71, 77, 83, 93, 102], 51)], [], [], [(52, .aload_n 0, 1), (53, .getfield 147, 3), (56, .ireturn, 1), (57, .aload_n 0, 1), (58, .getfield 150, 3), (61, .ireturn, 1), (62, .aload_n 0, 1), (63, .getfield 153, 3)], [(66, .ireturn, 1), (67, .aload_n 0, 1), (68, .invokevirtual 189, 3), (71, .ireturn, 1), (72, .aload_n 0, 1), (73, .iconst 1, 1), (74, .invokevirtual 248, 3), (77, .ireturn, 1), (78, .aload_n 0, 1), (79, .iconst 2, 1)], [(80, .invokevirtual 248, 3), (83, .ireturn, 1), (84, .aload_n 0, 1), (85, .getfield 7, 3), (88, .bipush 6, 2), (90, .invokestatic 251, 3), (93, .ireturn, 1), (94, .aload_n 0, 1), (95, .getfield 16, 3)], [(98, .iconst 4, 1), (99, .invokestatic 251, 3), (102, .ireturn, 1), (103, .aload_n 0, 1), (104, .getfield 46, 3), (107, .iconst 3, 1), (108, .invokestatic 251, 3), (111, .ireturn, 1)], [(112, .iconst (-1), 1), (113, .ireturn, 1)]]
def xt_136 : xI := [[(0, .aload_n 0, 1), (1, .iload_n 1, 1), (2, .invokevirtual 255, 3), (5, .ireturn, 1)]]
def xt_137 : xI := [[(0, .aload_n 0, 1), (1, .getfield 71, 3), (4, .ireturn, 1)]]
def xt_138 : xI := [[(0, .iload_n 1, 1), (1, .iconst 1, 1), (2, .iconst 5, 1), (3, .invokestatic 81, 3), (6, .ifCond .eq 12, 3), (9, .aload_n 0, 1), (10, .getfield 59, 3), (13, .iload_n 1, 1), (14, .iaload, 1), (15, .goto 4, 3)], [(18, .iconst (-1), 1), (19, .ireturn, 1)]]
def xt_139 : xI := [[(0, .aload_n 0, 1), (1, .ldc2_w 258, 3), (4, .aload_n 0, 1), (5, .getfield 260, 3), (8, .lmul, 1), (9, .iload_n 1, 1), (10, .i2l, 1), (11, .ladd, 1), (12, .putfield 260, 3), (15, .return_, 1)]]
def xt_140 : xI := [[(0, .aload_n 0, 1), (1, .ldc2_w 263, 3), (4, .putfield 260, 3), (7, .iconst 0, 1), (8, .istore_n 1, 1), (9, .iload_n 1, 1), (10, .bipush 9, 2), (12, .if_icmp .ge 18, 3), (15, .aload_n 0, 1)], [(16, .aload_n 0, 1), (17, .iload_n 1, 1), (18, .invokevirtual 255, 3), (21, .invokevirtual 265, 3), (24, .iinc 1 1, 3), (27, .goto (-18), 3), (30, .iconst 0, 1), (31, .istore_n 1, 1)], [(32, .iload_n 1, 1), (33, .bipush 6, 2), (35, .if_icmp .ge 19, 3), (38, .aload_n 0, 1), (39, .aload_n 0, 1), (40, .getfield 31, 3), (43, .iload_n 1, 1), (44, .iaload, 1), (45, .invokevirtual 265, 3)], [(48, .iinc 1 1, 3), (51, .goto (-19), 3), (54, .iconst 0, 1), (55, .istore_n 1, 1), (56, .iload_n 1, 1), (57, .aload_n 0, 1), (58, .getfield 147, 3), (61, .if_icmp .ge 116, 3)], [(64, .iconst 0, 1), (65, .istore_n 2, 1), (66, .iconst 0, 1), (67, .istore_n 3, 1), (68, .iconst 0, 1), (69, .istore 4, 2), (71, .iload 4, 2), (73, .aload_n 0, 1), (74, .getfield 153, 3), (77, .if_icmp .ge 58, 3)], [(80, .iload_n 2, 1), (81, .aload_n 0, 1), (82, .getfield 43, 3), (85, .iload 4, 2), (87, .iaload, 1), (88, .iload_n 1, 1), (89, .if_icmp .ne 7, 3), (92, .iconst 1, 1), (93, .goto 4, 3)], [(96, .iconst 0, 1), (97, .iadd, 1), (98, .istore_n 2, 1), (99, .iload_n 3, 1), (100, .aload_n 0, 1), (101, .getfield 43, 3), (104, .iload 4, 2), (106, .iaload, 1), (107, .iload_n 1, 1), (108, .if_icmp .ne 18, 3), (111, .aload_n 0, 1)], [(112, .iload 4, 2), (114, .invokevirtual 176, 3), (117, .bipush (-9), 2), (119, .if_icmp .eq 7, 3), (122, .iconst 1, 1), (123, .goto 4, 3), (126, .iconst 0, 1), (127, .iadd, 1)], [(128, .istore_n 3, 1), (129, .iinc 4 1, 3), (132, .goto (-61), 3), (135, .aload_n 0, 1), (136, .aload_n 0, 1), (137, .getfield 34, 3), (140, .iconst 2, 1), (141, .iload_n 1, 1), (142, .imul, 1), (143, .iaload, 1)], [(144, .invokevirtual 265, 3), (147, .aload_n 0, 1), (148, .aload_n 0, 1), (149, .getfield 34, 3), (152, .iconst 2, 1), (153, .iload_n 1, 1), (154, .imul, 1), (155, .iconst 1, 1), (156, .iadd, 1), (157, .iaload, 1), (158, .invokevirtual 265, 3)], [(161, .aload_n 0, 1), (162, .iload_n 2, 1), (163, .invokevirtual 265, 3), (166, .aload_n 0, 1), (167, .iload_n 3, 1), (168, .invokevirtual 265, 3), (171, .iinc 1 1, 3), (174, .goto (-118), 3)], [(177, .iconst 0, 1), (178, .istore_n 1, 1), (179, .iload_n 1, 1), (180, .iconst 2, 1), (181, .aload_n 0, 1), (182, .getfield 150, 3), (185, .imul, 1), (186, .if_icmp .ge 19, 3), (189, .aload_n 0, 1), (190, .aload_n 0, 1), (191, .getfield 37, 3)], [(194, .iload_n 1, 1), (195, .iaload, 1), (196, .invokevirtual 265, 3), (199, .iinc 1 1, 3), (202, .goto (-23), 3), (205, .iconst 0, 1), (206, .istore_n 1, 1), (207, .iload_n 1, 1)], [(208, .aload_n 0, 1), (209, .getfield 153, 3), (212, .if_icmp .ge 47, 3), (215, .aload_n 0, 1), (216, .aload_n 0, 1), (217, .getfield 40, 3), (220, .iload_n 1, 1), (221, .iaload, 1), (222, .invokevirtual 265, 3)], [(225, .aload_n 0, 1), (226, .aload_n 0, 1), (227, .getfield 43, 3), (230, .iload_n 1, 1), (231, .iaload, 1), (232, .invokevirtual 265, 3), (235, .aload_n 0, 1), (236, .aload_n 0, 1), (237, .iload_n 1, 1), (238, .invokevirtual 167, 3)], [(241, .invokevirtual 265, 3), (244, .aload_n 0, 1), (245, .aload_n 0, 1), (246, .iload_n 1, 1), (247, .invokevirtual 176, 3), (250, .invokevirtual 265, 3), (253, .iinc 1 1, 3)], [(256, .goto (-49), 3), (259, .iconst 0, 1), (260, .istore_n 1, 1), (261, .iload_n 1, 1), (262, .iconst 3, 1), (263, .if_icmp .ge 19, 3), (266, .aload_n 0, 1), (267, .aload_n 0, 1), (268, .getfield 46, 3), (271, .iload_n 1, 1)], [(272, .iaload, 1), (273, .invokevirtual 265, 3), (276, .iinc 1 1, 3), (279, .goto (-18), 3), (282, .iconst 0, 1), (283, .istore_n 1, 1), (284, .iload_n 1, 1), (285, .bipush 6, 2), (287, .if_icmp .ge 52, 3)], [(290, .aload_n 0, 1), (291, .aload_n 0, 1), (292, .getfield 7, 3), (295, .iload_n 1, 1), (296, .iaload, 1), (297, .invokevirtual 265, 3), (300, .iconst 0, 1), (301, .istore_n 2, 1), (302, .iload_n 2, 1), (303, .aload_n 0, 1)], [(304, .getfield 7, 3), (307, .iload_n 1, 1), (308, .iaload, 1), (309, .if_icmp .ge 24, 3), (312, .aload_n 0, 1), (313, .aload_n 0, 1), (314, .getfield 13, 3), (317, .bipush 40, 2), (319, .iload_n 1, 1)], [(320, .imul, 1), (321, .iload_n 2, 1), (322, .iadd, 1), (323, .iaload, 1), (324, .invokevirtual 265, 3), (327, .iinc 2 1, 3), (330, .goto (-28), 3), (333, .iinc 1 1, 3)], [(336, .goto (-52), 3), (339, .iconst 0, 1), (340, .istore_n 1, 1), (341, .iload_n 1, 1), (342, .iconst 4, 1), (343, .if_icmp .ge 52, 3), (346, .aload_n 0, 1), (347, .aload_n 0, 1), (348, .getfield 16, 3), (351, .iload_n 1, 1)], [(352, .iaload, 1), (353, .invokevirtual 265, 3), (356, .iconst 0, 1), (357, .istore_n 2, 1), (358, .iload_n 2, 1), (359, .aload_n 0, 1), (360, .getfield 16, 3), (363, .iload_n 1, 1), (364, .iaload, 1), (365, .if_icmp .ge 24, 3)], [(368, .aload_n 0, 1), (369, .aload_n 0, 1), (370, .getfield 19, 3), (373, .bipush 60, 2), (375, .iload_n 1, 1), (376, .imul, 1), (377, .iload_n 2, 1), (378, .iadd, 1), (379, .iaload, 1), (380, .invokevirtual 265, 3), (383, .iinc 2 1, 3)], [(386, .goto (-28), 3), (389, .iinc 1 1, 3), (392, .goto (-51), 3), (395, .aload_n 0, 1), (396, .getfield 260, 3), (399, .lreturn, 1)]]
def xt_L_0 : xI := [[(0, .new 7, 3), (3, .dup, 1), (4, .invokespecial 9, 3), (7, .astore_n 1, 1), (8, .new 10, 3), (11, .dup, 1), (12, .invokespecial 12, 3), (15, .astore_n 2, 1)], [(16, .iconst 0, 1), (17, .istore_n 3, 1), (18, .iload_n 3, 1), (19, .aload_n 0, 1), (20, .arraylength, 1), (21, .bipush 6, 2), (23, .isub, 1), (24, .if_icmp .gt 1531, 3), (27, .aload_n 0, 1), (28, .iload_n 3, 1), (29, .iaload, 1), (30, .bipush 63, 2)], [(32, .iand, 1), (33, .tableswitch 1516 0 43 #[191, 224, 267, 300, 323, 386, 409, 442, 485, 508, 531, 564, 597, 620, 653, 686, 719, 732, 755, 778, 801, 844, 877, 910, 943, 976, 1019, 1062, 1095, 1128, 1171, 1204, 1237, 1260, 1283, 1326, 1369, 1402, 1415, 1429, 1443, 1466, 1479, 1502], 191)], [], [], []]
def xt_L_1 : xI := [[], [], [], [], [], []]
def xt_L_2 : xI := [[], [], [(224, .aload_n 1, 1), (225, .aload_n 0, 1), (226, .iload_n 3, 1), (227, .iconst 1, 1), (228, .iadd, 1), (229, .iaload, 1), (230, .aload_n 0, 1), (231, .iload_n 3, 1), (232, .iconst 2, 1), (233, .iadd, 1), (234, .iaload, 1), (235, .invokevirtual 13, 3), (238, .aload_n 2, 1), (239, .aload_n 0, 1)], [(240, .iload_n 3, 1), (241, .iconst 1, 1), (242, .iadd, 1), (243, .iaload, 1), (244, .aload_n 0, 1), (245, .iload_n 3, 1), (246, .iconst 2, 1), (247, .iadd, 1), (248, .iaload, 1), (249, .invokevirtual 17, 3), (252, .if_icmp .eq 1297, 3), (255, .iconst 0, 1)], [(256, .ireturn, 1), (257, .aload_n 1, 1), (258, .aload_n 0, 1), (259, .iload_n 3, 1), (260, .iconst 1, 1), (261, .iadd, 1), (262, .iaload, 1), (263, .aload_n 0, 1), (264, .iload_n 3, 1), (265, .iconst 2, 1), (266, .iadd, 1), (267, .iaload, 1), (268, .aload_n 0, 1), (269, .iload_n 3, 1), (270, .iconst 3, 1), (271, .iadd, 1)], [(272, .iaload, 1), (273, .invokevirtual 18, 3), (276, .aload_n 2, 1), (277, .aload_n 0, 1), (278, .iload_n 3, 1), (279, .iconst 1, 1), (280, .iadd, 1), (281, .iaload, 1), (282, .aload_n 0, 1), (283, .iload_n 3, 1), (284, .iconst 2, 1), (285, .iadd, 1), (286, .iaload, 1), (287, .aload_n 0, 1)]]
def xt_L_3 : xI := [[(288, .iload_n 3, 1), (289, .iconst 3, 1), (290, .iadd, 1), (291, .iaload, 1), (292, .invokevirtual 22, 3), (295, .if_icmp .eq 1254, 3), (298, .iconst 0, 1), (299, .ireturn, 1), (300, .aload_n 1, 1), (301, .aload_n 0, 1), (302, .iload_n 3, 1), (303, .iconst 1, 1)], [(304, .iadd, 1), (305, .iaload, 1), (306, .aload_n 0, 1), (307, .iload_n 3, 1), (308, .iconst 2, 1), (309, .iadd, 1), (310, .iaload, 1), (311, .invokevirtual 23, 3), (314, .aload_n 2, 1), (315, .aload_n 0, 1), (316, .iload_n 3, 1), (317, .iconst 1, 1), (318, .iadd, 1), (319, .iaload, 1)], [(320, .aload_n 0, 1), (321, .iload_n 3, 1), (322, .iconst 2, 1), (323, .iadd, 1), (324, .iaload, 1), (325, .invokevirtual 26, 3), (328, .if_icmp .eq 1221, 3), (331, .iconst 0, 1), (332, .ireturn, 1), (333, .aload_n 1, 1), (334, .aload_n 0, 1), (335, .iload_n 3, 1)], [(336, .iconst 1, 1), (337, .iadd, 1), (338, .iaload, 1), (339, .invokevirtual 27, 3), (342, .aload_n 2, 1), (343, .aload_n 0, 1), (344, .iload_n 3, 1), (345, .iconst 1, 1), (346, .iadd, 1), (347, .iaload, 1), (348, .invokevirtual 31, 3), (351, .if_icmp .eq 1198, 3)], [(354, .iconst 0, 1), (355, .ireturn, 1), (356, .aload_n 1, 1), (357, .aload_n 0, 1), (358, .iload_n 3, 1), (359, .iconst 1, 1), (360, .iadd, 1), (361, .iaload, 1), (362, .aload_n 0, 1), (363, .iload_n 3, 1), (364, .iconst 2, 1), (365, .iadd, 1), (366, .iaload, 1), (367, .aload_n 0, 1)], [(368, .iload_n 3, 1), (369, .iconst 3, 1), (370, .iadd, 1), (371, .iaload, 1), (372, .aload_n 0, 1), (373, .iload_n 3, 1), (374, .iconst 4, 1), (375, .iadd, 1), (376, .iaload, 1), (377, .aload_n 0, 1), (378, .iload_n 3, 1), (379, .iconst 5, 1), (380, .iadd, 1), (381, .iaload, 1), (382, .invokevirtual 32, 3)]]
def xt_L_4 : xI := [[(385, .aload_n 2, 1), (386, .aload_n 0, 1), (387, .iload_n 3, 1), (388, .iconst 1, 1), (389, .iadd, 1), (390, .iaload, 1), (391, .aload_n 0, 1), (392, .iload_n 3, 1), (393, .iconst 2, 1), (394, .iadd, 1), (395, .iaload, 1), (396, .aload_n 0, 1), (397, .iload_n 3, 1), (398, .iconst 3, 1), (399, .iadd, 1)], [(400, .iaload, 1), (401, .aload_n 0, 1), (402, .iload_n 3, 1), (403, .iconst 4, 1), (404, .iadd, 1), (405, .iaload, 1), (406, .aload_n 0, 1), (407, .iload_n 3, 1), (408, .iconst 5, 1), (409, .iadd, 1), (410, .iaload, 1), (411, .invokevirtual 36, 3), (414, .if_icmp .eq 1135, 3)], [(417, .iconst 0, 1), (418, .ireturn, 1), (419, .aload_n 1, 1), (420, .aload_n 0, 1), (421, .iload_n 3, 1), (422, .iconst 1, 1), (423, .iadd, 1), (424, .iaload, 1), (425, .invokevirtual 37, 3), (428, .aload_n 2, 1), (429, .aload_n 0, 1), (430, .iload_n 3, 1), (431, .iconst 1, 1)], [(432, .iadd, 1), (433, .iaload, 1), (434, .invokevirtual 40, 3), (437, .if_icmp .eq 1112, 3), (440, .iconst 0, 1), (441, .ireturn, 1), (442, .aload_n 1, 1), (443, .aload_n 0, 1), (444, .iload_n 3, 1), (445, .iconst 1, 1), (446, .iadd, 1), (447, .iaload, 1)], [(448, .aload_n 0, 1), (449, .iload_n 3, 1), (450, .iconst 2, 1), (451, .iadd, 1), (452, .iaload, 1), (453, .invokevirtual 41, 3), (456, .aload_n 2, 1), (457, .aload_n 0, 1), (458, .iload_n 3, 1), (459, .iconst 1, 1), (460, .iadd, 1), (461, .iaload, 1), (462, .aload_n 0, 1), (463, .iload_n 3, 1)], [(464, .iconst 2, 1), (465, .iadd, 1), (466, .iaload, 1), (467, .invokevirtual 44, 3), (470, .if_icmp .eq 1079, 3), (473, .iconst 0, 1), (474, .ireturn, 1), (475, .aload_n 1, 1), (476, .aload_n 0, 1), (477, .iload_n 3, 1), (478, .iconst 1, 1), (479, .iadd, 1)]]
def xt_L_5 : xI := [[(480, .iaload, 1), (481, .aload_n 0, 1), (482, .iload_n 3, 1), (483, .iconst 2, 1), (484, .iadd, 1), (485, .iaload, 1), (486, .aload_n 0, 1), (487, .iload_n 3, 1), (488, .iconst 3, 1), (489, .iadd, 1), (490, .iaload, 1), (491, .invokevirtual 45, 3), (494, .aload_n 2, 1), (495, .aload_n 0, 1)], [(496, .iload_n 3, 1), (497, .iconst 1, 1), (498, .iadd, 1), (499, .iaload, 1), (500, .aload_n 0, 1), (501, .iload_n 3, 1), (502, .iconst 2, 1), (503, .iadd, 1), (504, .iaload, 1), (505, .aload_n 0, 1), (506, .iload_n 3, 1), (507, .iconst 3, 1), (508, .iadd, 1), (509, .iaload, 1), (510, .invokevirtual 48, 3)], [(513, .if_icmp .eq 1036, 3), (516, .iconst 0, 1), (517, .ireturn, 1), (518, .aload_n 1, 1), (519, .aload_n 0, 1), (520, .iload_n 3, 1), (521, .iconst 1, 1), (522, .iadd, 1), (523, .iaload, 1), (524, .invokevirtual 49, 3), (527, .aload_n 2, 1)], [(528, .aload_n 0, 1), (529, .iload_n 3, 1), (530, .iconst 1, 1), (531, .iadd, 1), (532, .iaload, 1), (533, .invokevirtual 52, 3), (536, .if_icmp .eq 1013, 3), (539, .iconst 0, 1), (540, .ireturn, 1), (541, .aload_n 1, 1), (542, .aload_n 0, 1), (543, .iload_n 3, 1)], [(544, .iconst 1, 1), (545, .iadd, 1), (546, .iaload, 1), (547, .invokevirtual 53, 3), (550, .aload_n 2, 1), (551, .aload_n 0, 1), (552, .iload_n 3, 1), (553, .iconst 1, 1), (554, .iadd, 1), (555, .iaload, 1), (556, .invokevirtual 56, 3), (559, .if_icmp .eq 990, 3)], [(562, .iconst 0, 1), (563, .ireturn, 1), (564, .aload_n 1, 1), (565, .aload_n 0, 1), (566, .iload_n 3, 1), (567, .iconst 1, 1), (568, .iadd, 1), (569, .iaload, 1), (570, .aload_n 0, 1), (571, .iload_n 3, 1), (572, .iconst 2, 1), (573, .iadd, 1), (574, .iaload, 1), (575, .invokevirtual 57, 3)]]
def xt_L_6 : xI := [[(578, .aload_n 2, 1), (579, .aload_n 0, 1), (580, .iload_n 3, 1), (581, .iconst 1, 1), (582, .iadd, 1), (583, .iaload, 1), (584, .aload_n 0, 1), (585, .iload_n 3, 1), (586, .iconst 2, 1), (587, .iadd, 1), (588, .iaload, 1), (589, .invokevirtual 60, 3)], [(592, .if_icmp .eq 957, 3), (595, .iconst 0, 1), (596, .ireturn, 1), (597, .aload_n 1, 1), (598, .aload_n 0, 1), (599, .iload_n 3, 1), (600, .iconst 1, 1), (601, .iadd, 1), (602, .iaload, 1), (603, .aload_n 0, 1), (604, .iload_n 3, 1), (605, .iconst 2, 1), (606, .iadd, 1), (607, .iaload, 1)], [(608, .invokevirtual 61, 3), (611, .aload_n 2, 1), (612, .aload_n 0, 1), (613, .iload_n 3, 1), (614, .iconst 1, 1), (615, .iadd, 1), (616, .iaload, 1), (617, .aload_n 0, 1), (618, .iload_n 3, 1), (619, .iconst 2, 1), (620, .iadd, 1), (621, .iaload, 1), (622, .invokevirtual 64, 3)], [(625, .if_icmp .eq 924, 3), (628, .iconst 0, 1), (629, .ireturn, 1), (630, .aload_n 1, 1), (631, .aload_n 0, 1), (632, .iload_n 3, 1), (633, .iconst 1, 1), (634, .iadd, 1), (635, .iaload, 1), (636, .invokevirtual 65, 3), (639, .aload_n 2, 1)], [(640, .aload_n 0, 1), (641, .iload_n 3, 1), (642, .iconst 1, 1), (643, .iadd, 1), (644, .iaload, 1), (645, .invokevirtual 68, 3), (648, .if_icmp .eq 901, 3), (651, .iconst 0, 1), (652, .ireturn, 1), (653, .aload_n 1, 1), (654, .aload_n 0, 1), (655, .iload_n 3, 1)], [(656, .iconst 1, 1), (657, .iadd, 1), (658, .iaload, 1), (659, .aload_n 0, 1), (660, .iload_n 3, 1), (661, .iconst 2, 1), (662, .iadd, 1), (663, .iaload, 1), (664, .invokevirtual 69, 3), (667, .aload_n 2, 1), (668, .aload_n 0, 1), (669, .iload_n 3, 1), (670, .iconst 1, 1), (671, .iadd, 1)]]
def xt_L_7 : xI := [[(672, .iaload, 1), (673, .aload_n 0, 1), (674, .iload_n 3, 1), (675, .iconst 2, 1), (676, .iadd, 1), (677, .iaload, 1), (678, .invokevirtual 72, 3), (681, .if_icmp .eq 868, 3), (684, .iconst 0, 1), (685, .ireturn, 1), (686, .aload_n 1, 1), (687, .aload_n 0, 1)], [(688, .iload_n 3, 1), (689, .iconst 1, 1), (690, .iadd, 1), (691, .iaload, 1), (692, .aload_n 0, 1), (693, .iload_n 3, 1), (694, .iconst 2, 1), (695, .iadd, 1), (696, .iaload, 1), (697, .invokevirtual 73, 3), (700, .aload_n 2, 1), (701, .aload_n 0, 1), (702, .iload_n 3, 1), (703, .iconst 1, 1)], [(704, .iadd, 1), (705, .iaload, 1), (706, .aload_n 0, 1), (707, .iload_n 3, 1), (708, .iconst 2, 1), (709, .iadd, 1), (710, .iaload, 1), (711, .invokevirtual 76, 3), (714, .if_icmp .eq 835, 3), (717, .iconst 0, 1), (718, .ireturn, 1), (719, .aload_n 1, 1)], [(720, .aload_n 0, 1), (721, .iload_n 3, 1), (722, .iconst 1, 1), (723, .iadd, 1), (724, .iaload, 1), (725, .aload_n 0, 1), (726, .iload_n 3, 1), (727, .iconst 2, 1), (728, .iadd, 1), (729, .iaload, 1), (730, .invokevirtual 77, 3), (733, .aload_n 2, 1), (734, .aload_n 0, 1), (735, .iload_n 3, 1)], [(736, .iconst 1, 1), (737, .iadd, 1), (738, .iaload, 1), (739, .aload_n 0, 1), (740, .iload_n 3, 1), (741, .iconst 2, 1), (742, .iadd, 1), (743, .iaload, 1), (744, .invokevirtual 80, 3), (747, .if_icmp .eq 802, 3), (750, .iconst 0, 1), (751, .ireturn, 1)], [(752, .aload_n 1, 1), (753, .invokevirtual 81, 3), (756, .aload_n 2, 1), (757, .invokevirtual 85, 3), (760, .if_icmp .eq 789, 3), (763, .iconst 0, 1), (764, .ireturn, 1), (765, .aload_n 1, 1), (766, .aload_n 0, 1), (767, .iload_n 3, 1)]]
def xt_L_8 : xI := [[(768, .iconst 1, 1), (769, .iadd, 1), (770, .iaload, 1), (771, .invokevirtual 86, 3), (774, .aload_n 2, 1), (775, .aload_n 0, 1), (776, .iload_n 3, 1), (777, .iconst 1, 1), (778, .iadd, 1), (779, .iaload, 1), (780, .invokevirtual 89, 3), (783, .if_icmp .eq 766, 3)], [(786, .iconst 0, 1), (787, .ireturn, 1), (788, .aload_n 1, 1), (789, .aload_n 0, 1), (790, .iload_n 3, 1), (791, .iconst 1, 1), (792, .iadd, 1), (793, .iaload, 1), (794, .invokevirtual 90, 3), (797, .aload_n 2, 1), (798, .aload_n 0, 1), (799, .iload_n 3, 1)], [(800, .iconst 1, 1), (801, .iadd, 1), (802, .iaload, 1), (803, .invokevirtual 93, 3), (806, .if_icmp .eq 743, 3), (809, .iconst 0, 1), (810, .ireturn, 1), (811, .aload_n 1, 1), (812, .aload_n 0, 1), (813, .iload_n 3, 1), (814, .iconst 1, 1), (815, .iadd, 1)], [(816, .iaload, 1), (817, .invokevirtual 94, 3), (820, .aload_n 2, 1), (821, .aload_n 0, 1), (822, .iload_n 3, 1), (823, .iconst 1, 1), (824, .iadd, 1), (825, .iaload, 1), (826, .invokevirtual 97, 3), (829, .if_icmp .eq 720, 3)], [(832, .iconst 0, 1), (833, .ireturn, 1), (834, .aload_n 1, 1), (835, .aload_n 0, 1), (836, .iload_n 3, 1), (837, .iconst 1, 1), (838, .iadd, 1), (839, .iaload, 1), (840, .aload_n 0, 1), (841, .iload_n 3, 1), (842, .iconst 2, 1), (843, .iadd, 1), (844, .iaload, 1), (845, .aload_n 0, 1), (846, .iload_n 3, 1), (847, .iconst 3, 1)], [(848, .iadd, 1), (849, .iaload, 1), (850, .invokevirtual 98, 3), (853, .aload_n 2, 1), (854, .aload_n 0, 1), (855, .iload_n 3, 1), (856, .iconst 1, 1), (857, .iadd, 1), (858, .iaload, 1), (859, .aload_n 0, 1), (860, .iload_n 3, 1), (861, .iconst 2, 1), (862, .iadd, 1), (863, .iaload, 1)]]
def xt_L_9 : xI := [[(864, .aload_n 0, 1), (865, .iload_n 3, 1), (866, .iconst 3, 1), (867, .iadd, 1), (868, .iaload, 1), (869, .invokevirtual 101, 3), (872, .if_icmp .eq 677, 3), (875, .iconst 0, 1), (876, .ireturn, 1), (877, .aload_n 1, 1), (878, .aload_n 0, 1), (879, .iload_n 3, 1)], [(880, .iconst 1, 1), (881, .iadd, 1), (882, .iaload, 1), (883, .aload_n 0, 1), (884, .iload_n 3, 1), (885, .iconst 2, 1), (886, .iadd, 1), (887, .iaload, 1), (888, .invokevirtual 102, 3), (891, .aload_n 2, 1), (892, .aload_n 0, 1), (893, .iload_n 3, 1), (894, .iconst 1, 1), (895, .iadd, 1)], [(896, .iaload, 1), (897, .aload_n 0, 1), (898, .iload_n 3, 1), (899, .iconst 2, 1), (900, .iadd, 1), (901, .iaload, 1), (902, .invokevirtual 105, 3), (905, .if_icmp .eq 644, 3), (908, .iconst 0, 1), (909, .ireturn, 1), (910, .aload_n 1, 1), (911, .aload_n 0, 1)], [(912, .iload_n 3, 1), (913, .iconst 1, 1), (914, .iadd, 1), (915, .iaload, 1), (916, .aload_n 0, 1), (917, .iload_n 3, 1), (918, .iconst 2, 1), (919, .iadd, 1), (920, .iaload, 1), (921, .invokevirtual 106, 3), (924, .aload_n 2, 1), (925, .aload_n 0, 1), (926, .iload_n 3, 1), (927, .iconst 1, 1)], [(928, .iadd, 1), (929, .iaload, 1), (930, .aload_n 0, 1), (931, .iload_n 3, 1), (932, .iconst 2, 1), (933, .iadd, 1), (934, .iaload, 1), (935, .invokevirtual 109, 3), (938, .if_icmp .eq 611, 3), (941, .iconst 0, 1), (942, .ireturn, 1), (943, .aload_n 1, 1)], [(944, .aload_n 0, 1), (945, .iload_n 3, 1), (946, .iconst 1, 1), (947, .iadd, 1), (948, .iaload, 1), (949, .aload_n 0, 1), (950, .iload_n 3, 1), (951, .iconst 2, 1), (952, .iadd, 1), (953, .iaload, 1), (954, .invokevirtual 110, 3), (957, .aload_n 2, 1), (958, .aload_n 0, 1), (959, .iload_n 3, 1)]]
def xt_L_10 : xI := [[(960, .iconst 1, 1), (961, .iadd, 1), (962, .iaload, 1), (963, .aload_n 0, 1), (964, .iload_n 3, 1), (965, .iconst 2, 1), (966, .iadd, 1), (967, .iaload, 1), (968, .invokevirtual 113, 3), (971, .if_icmp .eq 578, 3), (974, .iconst 0, 1), (975, .ireturn, 1)], [(976, .aload_n 1, 1), (977, .aload_n 0, 1), (978, .iload_n 3, 1), (979, .iconst 1, 1), (980, .iadd, 1), (981, .iaload, 1), (982, .aload_n 0, 1), (983, .iload_n 3, 1), (984, .iconst 2, 1), (985, .iadd, 1), (986, .iaload, 1), (987, .invokevirtual 114, 3), (990, .aload_n 2, 1), (991, .aload_n 0, 1)], [(992, .iload_n 3, 1), (993, .iconst 1, 1), (994, .iadd, 1), (995, .iaload, 1), (996, .aload_n 0, 1), (997, .iload_n 3, 1), (998, .iconst 2, 1), (999, .iadd, 1), (1000, .iaload, 1), (1001, .invokevirtual 117, 3), (1004, .if_icmp .eq 545, 3), (1007, .iconst 0, 1)], [(1008, .ireturn, 1), (1009, .aload_n 1, 1), (1010, .aload_n 0, 1), (1011, .iload_n 3, 1), (1012, .iconst 1, 1), (1013, .iadd, 1), (1014, .iaload, 1), (1015, .aload_n 0, 1), (1016, .iload_n 3, 1), (1017, .iconst 2, 1), (1018, .iadd, 1), (1019, .iaload, 1), (1020, .aload_n 0, 1), (1021, .iload_n 3, 1), (1022, .iconst 3, 1), (1023, .iadd, 1)], [(1024, .iaload, 1), (1025, .invokevirtual 118, 3), (1028, .aload_n 2, 1), (1029, .aload_n 0, 1), (1030, .iload_n 3, 1), (1031, .iconst 1, 1), (1032, .iadd, 1), (1033, .iaload, 1), (1034, .aload_n 0, 1), (1035, .iload_n 3, 1), (1036, .iconst 2, 1), (1037, .iadd, 1), (1038, .iaload, 1), (1039, .aload_n 0, 1)], [(1040, .iload_n 3, 1), (1041, .iconst 3, 1), (1042, .iadd, 1), (1043, .iaload, 1), (1044, .invokevirtual 121, 3), (1047, .if_icmp .eq 502, 3), (1050, .iconst 0, 1), (1051, .ireturn, 1), (1052, .aload_n 1, 1), (1053, .aload_n 0, 1), (1054, .iload_n 3, 1), (1055, .iconst 1, 1)]]
def xt_L_11 : xI := [[(1056, .iadd, 1), (1057, .iaload, 1), (1058, .aload_n 0, 1), (1059, .iload_n 3, 1), (1060, .iconst 2, 1), (1061, .iadd, 1), (1062, .iaload, 1), (1063, .aload_n 0, 1), (1064, .iload_n 3, 1), (1065, .iconst 3, 1), (1066, .iadd, 1), (1067, .iaload, 1), (1068, .invokevirtual 122, 3), (1071, .aload_n 2, 1)], [(1072, .aload_n 0, 1), (1073, .iload_n 3, 1), (1074, .iconst 1, 1), (1075, .iadd, 1), (1076, .iaload, 1), (1077, .aload_n 0, 1), (1078, .iload_n 3, 1), (1079, .iconst 2, 1), (1080, .iadd, 1), (1081, .iaload, 1), (1082, .aload_n 0, 1), (1083, .iload_n 3, 1), (1084, .iconst 3, 1), (1085, .iadd, 1), (1086, .iaload, 1), (1087, .invokevirtual 125, 3)], [(1090, .if_icmp .eq 459, 3), (1093, .iconst 0, 1), (1094, .ireturn, 1), (1095, .aload_n 1, 1), (1096, .aload_n 0, 1), (1097, .iload_n 3, 1), (1098, .iconst 1, 1), (1099, .iadd, 1), (1100, .iaload, 1), (1101, .aload_n 0, 1), (1102, .iload_n 3, 1), (1103, .iconst 2, 1)], [(1104, .iadd, 1), (1105, .iaload, 1), (1106, .invokevirtual 126, 3), (1109, .aload_n 2, 1), (1110, .aload_n 0, 1), (1111, .iload_n 3, 1), (1112, .iconst 1, 1), (1113, .iadd, 1), (1114, .iaload, 1), (1115, .aload_n 0, 1), (1116, .iload_n 3, 1), (1117, .iconst 2, 1), (1118, .iadd, 1), (1119, .iaload, 1)], [(1120, .invokevirtual 129, 3), (1123, .if_icmp .eq 426, 3), (1126, .iconst 0, 1), (1127, .ireturn, 1), (1128, .aload_n 1, 1), (1129, .aload_n 0, 1), (1130, .iload_n 3, 1), (1131, .iconst 1, 1), (1132, .iadd, 1), (1133, .iaload, 1), (1134, .aload_n 0, 1), (1135, .iload_n 3, 1)], [(1136, .iconst 2, 1), (1137, .iadd, 1), (1138, .iaload, 1), (1139, .invokevirtual 130, 3), (1142, .aload_n 2, 1), (1143, .aload_n 0, 1), (1144, .iload_n 3, 1), (1145, .iconst 1, 1), (1146, .iadd, 1), (1147, .iaload, 1), (1148, .aload_n 0, 1), (1149, .iload_n 3, 1), (1150, .iconst 2, 1), (1151, .iadd, 1)]]
def xt_L_12 : xI := [[(1152, .iaload, 1), (1153, .invokevirtual 133, 3), (1156, .if_icmp .eq 393, 3), (1159, .iconst 0, 1), (1160, .ireturn, 1), (1161, .aload_n 1, 1), (1162, .aload_n 0, 1), (1163, .iload_n 3, 1), (1164, .iconst 1, 1), (1165, .iadd, 1), (1166, .iaload, 1), (1167, .aload_n 0, 1)], [(1168, .iload_n 3, 1), (1169, .iconst 2, 1), (1170, .iadd, 1), (1171, .iaload, 1), (1172, .aload_n 0, 1), (1173, .iload_n 3, 1), (1174, .iconst 3, 1), (1175, .iadd, 1), (1176, .iaload, 1), (1177, .invokevirtual 134, 3), (1180, .aload_n 2, 1), (1181, .aload_n 0, 1), (1182, .iload_n 3, 1), (1183, .iconst 1, 1)], [(1184, .iadd, 1), (1185, .iaload, 1), (1186, .aload_n 0, 1), (1187, .iload_n 3, 1), (1188, .iconst 2, 1), (1189, .iadd, 1), (1190, .iaload, 1), (1191, .aload_n 0, 1), (1192, .iload_n 3, 1), (1193, .iconst 3, 1), (1194, .iadd, 1), (1195, .iaload, 1), (1196, .invokevirtual 137, 3), (1199, .if_icmp .eq 350, 3)], [(1202, .iconst 0, 1), (1203, .ireturn, 1), (1204, .aload_n 1, 1), (1205, .aload_n 0, 1), (1206, .iload_n 3, 1), (1207, .iconst 1, 1), (1208, .iadd, 1), (1209, .iaload, 1), (1210, .aload_n 0, 1), (1211, .iload_n 3, 1), (1212, .iconst 2, 1), (1213, .iadd, 1), (1214, .iaload, 1), (1215, .invokevirtual 138, 3)], [(1218, .aload_n 2, 1), (1219, .aload_n 0, 1), (1220, .iload_n 3, 1), (1221, .iconst 1, 1), (1222, .iadd, 1), (1223, .iaload, 1), (1224, .aload_n 0, 1), (1225, .iload_n 3, 1), (1226, .iconst 2, 1), (1227, .iadd, 1), (1228, .iaload, 1), (1229, .invokevirtual 141, 3)], [(1232, .if_icmp .eq 317, 3), (1235, .iconst 0, 1), (1236, .ireturn, 1), (1237, .aload_n 1, 1), (1238, .aload_n 0, 1), (1239, .iload_n 3, 1), (1240, .iconst 1, 1), (1241, .iadd, 1), (1242, .iaload, 1), (1243, .aload_n 0, 1), (1244, .iload_n 3, 1), (1245, .iconst 2, 1), (1246, .iadd, 1), (1247, .iaload, 1)]]
def xt_L_13 : xI := [[(1248, .invokevirtual 142, 3), (1251, .aload_n 2, 1), (1252, .aload_n 0, 1), (1253, .iload_n 3, 1), (1254, .iconst 1, 1), (1255, .iadd, 1), (1256, .iaload, 1), (1257, .aload_n 0, 1), (1258, .iload_n 3, 1), (1259, .iconst 2, 1), (1260, .iadd, 1), (1261, .iaload, 1), (1262, .invokevirtual 145, 3)], [(1265, .if_icmp .eq 284, 3), (1268, .iconst 0, 1), (1269, .ireturn, 1), (1270, .aload_n 1, 1), (1271, .aload_n 0, 1), (1272, .iload_n 3, 1), (1273, .iconst 1, 1), (1274, .iadd, 1), (1275, .iaload, 1), (1276, .invokevirtual 146, 3), (1279, .aload_n 2, 1)], [(1280, .aload_n 0, 1), (1281, .iload_n 3, 1), (1282, .iconst 1, 1), (1283, .iadd, 1), (1284, .iaload, 1), (1285, .invokevirtual 149, 3), (1288, .if_icmp .eq 261, 3), (1291, .iconst 0, 1), (1292, .ireturn, 1), (1293, .aload_n 1, 1), (1294, .aload_n 0, 1), (1295, .iload_n 3, 1)], [(1296, .iconst 1, 1), (1297, .iadd, 1), (1298, .iaload, 1), (1299, .invokevirtual 150, 3), (1302, .aload_n 2, 1), (1303, .aload_n 0, 1), (1304, .iload_n 3, 1), (1305, .iconst 1, 1), (1306, .iadd, 1), (1307, .iaload, 1), (1308, .invokevirtual 153, 3), (1311, .if_icmp .eq 238, 3)], [(1314, .iconst 0, 1), (1315, .ireturn, 1), (1316, .aload_n 1, 1), (1317, .aload_n 0, 1), (1318, .iload_n 3, 1), (1319, .iconst 1, 1), (1320, .iadd, 1), (1321, .iaload, 1), (1322, .aload_n 0, 1), (1323, .iload_n 3, 1), (1324, .iconst 2, 1), (1325, .iadd, 1), (1326, .iaload, 1), (1327, .aload_n 0, 1)], [(1328, .iload_n 3, 1), (1329, .iconst 3, 1), (1330, .iadd, 1), (1331, .iaload, 1), (1332, .invokevirtual 154, 3), (1335, .aload_n 2, 1), (1336, .aload_n 0, 1), (1337, .iload_n 3, 1), (1338, .iconst 1, 1), (1339, .iadd, 1), (1340, .iaload, 1), (1341, .aload_n 0, 1), (1342, .iload_n 3, 1), (1343, .iconst 2, 1)]]
def xt_L_14 : xI := [[(1344, .iadd, 1), (1345, .iaload, 1), (1346, .aload_n 0, 1), (1347, .iload_n 3, 1), (1348, .iconst 3, 1), (1349, .iadd, 1), (1350, .iaload, 1), (1351, .invokevirtual 157, 3), (1354, .if_icmp .eq 195, 3), (1357, .iconst 0, 1), (1358, .ireturn, 1), (1359, .aload_n 1, 1)], [(1360, .aload_n 0, 1), (1361, .iload_n 3, 1), (1362, .iconst 1, 1), (1363, .iadd, 1), (1364, .iaload, 1), (1365, .aload_n 0, 1), (1366, .iload_n 3, 1), (1367, .iconst 2, 1), (1368, .iadd, 1), (1369, .iaload, 1), (1370, .aload_n 0, 1), (1371, .iload_n 3, 1), (1372, .iconst 3, 1), (1373, .iadd, 1), (1374, .iaload, 1), (1375, .invokevirtual 158, 3)], [(1378, .aload_n 2, 1), (1379, .aload_n 0, 1), (1380, .iload_n 3, 1), (1381, .iconst 1, 1), (1382, .iadd, 1), (1383, .iaload, 1), (1384, .aload_n 0, 1), (1385, .iload_n 3, 1), (1386, .iconst 2, 1), (1387, .iadd, 1), (1388, .iaload, 1), (1389, .aload_n 0, 1), (1390, .iload_n 3, 1), (1391, .iconst 3, 1)], [(1392, .iadd, 1), (1393, .iaload, 1), (1394, .invokevirtual 161, 3), (1397, .if_icmp .eq 152, 3), (1400, .iconst 0, 1), (1401, .ireturn, 1), (1402, .aload_n 1, 1), (1403, .aload_n 0, 1), (1404, .iload_n 3, 1), (1405, .iconst 1, 1), (1406, .iadd, 1), (1407, .iaload, 1)], [(1408, .aload_n 0, 1), (1409, .iload_n 3, 1), (1410, .iconst 2, 1), (1411, .iadd, 1), (1412, .iaload, 1), (1413, .invokevirtual 162, 3), (1416, .aload_n 2, 1), (1417, .aload_n 0, 1), (1418, .iload_n 3, 1), (1419, .iconst 1, 1), (1420, .iadd, 1), (1421, .iaload, 1), (1422, .aload_n 0, 1), (1423, .iload_n 3, 1)], [(1424, .iconst 2, 1), (1425, .iadd, 1), (1426, .iaload, 1), (1427, .invokevirtual 165, 3), (1430, .if_icmp .eq 119, 3), (1433, .iconst 0, 1), (1434, .ireturn, 1), (1435, .aload_n 1, 1), (1436, .invokevirtual 166, 3), (1439, .aload_n 2, 1)]]
def xt_L_15 : xI := [[(1440, .invokevirtual 169, 3), (1443, .if_icmp .eq 106, 3), (1446, .iconst 0, 1), (1447, .ireturn, 1), (1448, .aload_n 1, 1), (1449, .invokevirtual 170, 3), (1452, .aload_n 2, 1), (1453, .invokevirtual 174, 3)], [(1456, .lcmp, 1), (1457, .ifCond .eq 92, 3), (1460, .iconst 0, 1), (1461, .ireturn, 1), (1462, .aload_n 1, 1), (1463, .invokevirtual 175, 3), (1466, .aload_n 2, 1), (1467, .invokevirtual 178, 3), (1470, .lcmp, 1), (1471, .ifCond .eq 78, 3)], [(1474, .iconst 0, 1), (1475, .ireturn, 1), (1476, .aload_n 1, 1), (1477, .aload_n 0, 1), (1478, .iload_n 3, 1), (1479, .iconst 1, 1), (1480, .iadd, 1), (1481, .iaload, 1), (1482, .invokevirtual 179, 3), (1485, .aload_n 2, 1), (1486, .aload_n 0, 1), (1487, .iload_n 3, 1)], [(1488, .iconst 1, 1), (1489, .iadd, 1), (1490, .iaload, 1), (1491, .invokevirtual 182, 3), (1494, .if_icmp .eq 55, 3), (1497, .iconst 0, 1), (1498, .ireturn, 1), (1499, .aload_n 1, 1), (1500, .invokevirtual 183, 3), (1503, .aload_n 2, 1)], [(1504, .invokevirtual 186, 3), (1507, .if_icmp .eq 42, 3), (1510, .iconst 0, 1), (1511, .ireturn, 1), (1512, .aload_n 1, 1), (1513, .aload_n 0, 1), (1514, .iload_n 3, 1), (1515, .iconst 1, 1), (1516, .iadd, 1), (1517, .iaload, 1), (1518, .invokevirtual 187, 3)], [(1521, .aload_n 2, 1), (1522, .aload_n 0, 1), (1523, .iload_n 3, 1), (1524, .iconst 1, 1), (1525, .iadd, 1), (1526, .iaload, 1), (1527, .invokevirtual 190, 3), (1530, .if_icmp .eq 19, 3), (1533, .iconst 0, 1), (1534, .ireturn, 1), (1535, .aload_n 1, 1)]]
def xt_L_16 : xI := [[(1536, .invokevirtual 191, 3), (1539, .aload_n 2, 1), (1540, .invokevirtual 194, 3), (1543, .lcmp, 1), (1544, .ifCond .eq 5, 3), (1547, .iconst 0, 1), (1548, .ireturn, 1), (1549, .iinc 3 6, 3)], [(1552, .goto (-1534), 3), (1555, .iconst 1, 1), (1556, .ireturn, 1)]]
def xt_L : xI := xt_L_0 ++ (xt_L_1 ++ (xt_L_2 ++ (xt_L_3 ++ (xt_L_4 ++ (xt_L_5 ++ (xt_L_6 ++ (xt_L_7 ++ (xt_L_8 ++ (xt_L_9 ++ (xt_L_10 ++ (xt_L_11 ++ (xt_L_12 ++ (xt_L_13 ++ (xt_L_14 ++ (xt_L_15 ++ (xt_L_16))))))))))))))))
def xMX_0 : List xME := [((xt_0, 0, 2, 0, true), (yX0_init, cX0_init, none, 1)),
  ((xt_1, 0, 1, 2, false), (yX0_isMissing, cX0_isMissing, (some .boolean), 0)),
  ((xt_2, 0, 1, 1, false), (yX0_size, cX0_size, (some .int), 0)),
  ((xt_3, 0, 4, 0, false), (yX0_open, cX0_open, none, 2)),
  ((xt_4, 1, 1, 0, true), (yX1_init, cX1_init, none, 0)),
  ((xt_5, 2, 1, 0, true), (yX2_init, cX2_init, none, 0)),
  ((xt_6, 2, 1, 1, false), (yX2_size, cX2_size, (some .int), 0)),
  ((xt_7, 2, 1, 2, false), (yX2_isMissing, cX2_isMissing, (some .boolean), 0)),
  ((xt_8, 2, 1, 0, false), (yX2_drop, cX2_drop, none, 0)),
  ((xt_9, 2, 2, 0, false), (yX2_cutTo, cX2_cutTo, none, 1)),
  ((xt_10, 2, 4, 1, false), (yX2_howManyBroke, cX2_howManyBroke, (some .int), 1)),
  ((xt_11, 2, 2, 1, false), (yX2_firstThatBroke, cX2_firstThatBroke, (some .int), 0)),
  ((xt_12, 3, 1, 0, true), (yX3_init, cX3_init, none, 0)),
  ((xt_13, 4, 3, 0, true), (yX4_init, cX4_init, none, 2)),
  ((xt_14, 5, 3, 0, true), (yX5_init, cX5_init, none, 2)),
  ((xt_15, 6, 3, 0, true), (yX6_init, cX6_init, none, 2))]
def xMX_1 : List xME := [((xt_16, 7, 3, 0, true), (yX7_init, cX7_init, none, 2)),
  ((xt_17, 8, 1, 0, true), (yX8_init, cX8_init, none, 0)),
  ((xt_18, 8, 1, 1, false), (yX8_glasses, cX8_glasses, (some .int), 0)),
  ((xt_19, 8, 1, 1, false), (yX8_terms, cX8_terms, (some .int), 0)),
  ((xt_20, 8, 2, 1, false), (yX8_thought, cX8_thought, (some .int), 1)),
  ((xt_21, 9, 3, 0, true), (yX9_init, cX9_init, none, 2)),
  ((xt_22, 10, 3, 0, true), (yX10_init, cX10_init, none, 2)),
  ((xt_23, 11, 2, 0, true), (yX11_init, cX11_init, none, 0)),
  ((xt_24, 11, 3, 1, false), (yX11_row, cX11_row, (some .int), 2)),
  ((xt_25, 11, 5, 1, false), (yX11_lay, cX11_lay, (some .int), 3)),
  ((xt_26, 11, 4, 1, false), (yX11_at, cX11_at, (some .int), 2)),
  ((xt_27, 11, 2, 1, false), (yX11_tear, cX11_tear, (some .int), 1)),
  ((xt_28, 11, 6, 1, false), (yX11_copy, cX11_copy, (some .int), 5)),
  ((xt_29, 11, 7, 1, false), (yX11_mean, cX11_mean, (some .int), 1)),
  ((xt_30, 11, 3, 1, false), (yX11_text, cX11_text, (some .int), 2)),
  ((xt_31, 11, 6, 1, false), (yX11_put, cX11_put, (some .int), 3))]
def xMX_2 : List xME := [((xt_32, 11, 2, 1, false), (yX11_fault, cX11_fault, (some .int), 1)),
  ((xt_33, 11, 4, 1, false), (yX11_room, cX11_room, (some .int), 1)),
  ((xt_34, 11, 3, 1, false), (yX11_glass, cX11_glass, (some .int), 2)),
  ((xt_35, 11, 5, 1, false), (yX11_mark, cX11_mark, (some .int), 2)),
  ((xt_36, 11, 2, 1, false), (yX11_habit, cX11_habit, (some .int), 1)),
  ((xt_37, 11, 3, 1, false), (yX11_term, cX11_term, (some .int), 2)),
  ((xt_38, 11, 3, 1, false), (yX11_step, cX11_step, (some .int), 2)),
  ((xt_39, 11, 3, 1, false), (yX11_deed, cX11_deed, (some .int), 2)),
  ((xt_40, 11, 1, 1, false), (yX11_broken, cX11_broken, (some .int), 0)),
  ((xt_41, 11, 3, 1, false), (yX11_undo, cX11_undo, (some .int), 1)),
  ((xt_42, 11, 2, 1, false), (yX11_keep, cX11_keep, (some .int), 1)),
  ((xt_43, 11, 2, 1, false), (yX11_on, cX11_on, (some .int), 1)),
  ((xt_44, 11, 8, 1, false), (yX11_show, cX11_show, (some .int), 3)),
  ((xt_45, 11, 8, 1, false), (yX11_breaks, cX11_breaks, (some .int), 2)),
  ((xt_46, 11, 7, 1, false), (yX11_alike, cX11_alike, (some .int), 2)),
  ((xt_47, 11, 7, 1, false), (yX11_fit, cX11_fit, (some .int), 2))]
def xMX_3 : List xME := [((xt_48, 11, 7, 1, false), (yX11_ways, cX11_ways, (some .int), 2)),
  ((xt_49, 11, 7, 1, false), (yX11_first, cX11_first, (some .int), 3)),
  ((xt_50, 11, 5, 1, false), (yX11_can, cX11_can, (some .int), 3)),
  ((xt_51, 11, 4, 1, false), (yX11_laws, cX11_laws, (some .int), 2)),
  ((xt_52, 11, 10, 1, false), (yX11_next, cX11_next, (some .int), 2)),
  ((xt_53, 11, 7, 1, false), (yX11_he, cX11_he, (some .int), 3)),
  ((xt_54, 11, 3, 1, false), (yX11_keeps, cX11_keeps, (some .int), 2)),
  ((xt_55, 11, 3, 1, false), (yX11_still, cX11_still, (some .int), 2)),
  ((xt_56, 11, 2, 1, false), (yX11_game, cX11_game, (some .int), 1)),
  ((xt_57, 11, 2, 1, false), (yX11_picks, cX11_picks, (some .int), 1)),
  ((xt_58, 11, 10, 1, false), (yX11_odds, cX11_odds, (some .int), 3)),
  ((xt_59, 11, 8, 1, false), (yX11_mid, cX11_mid, (some .int), 3)),
  ((xt_60, 11, 8, 1, false), (yX11_lots, cX11_lots, (some .int), 2)),
  ((xt_61, 11, 1, 1, false), (yX11_asked, cX11_asked, (some .int), 0)),
  ((xt_62, 11, 1, 3, false), (yX11_upper, cX11_upper, (some .long), 0)),
  ((xt_63, 11, 1, 3, false), (yX11_lower, cX11_lower, (some .long), 0))]
def xMX_4 : List xME := [((xt_64, 11, 2, 1, false), (yX11_count, cX11_count, (some .int), 1)),
  ((xt_65, 11, 1, 1, false), (yX11_finding, cX11_finding, (some .int), 0)),
  ((xt_66, 11, 2, 1, false), (yX11_findings, cX11_findings, (some .int), 1)),
  ((xt_67, 11, 5, 3, false), (yX11_digest, cX11_digest, (some .long), 0)),
  ((xt_68, 11, 2, 1, false), (yX11_refuse, cX11_refuse, (some .int), 1)),
  ((xt_69, 11, 1, 2, false), (yX11_isRow, cX11_isRow, (some .boolean), 1)),
  ((xt_70, 11, 1, 2, false), (yX11_isText, cX11_isText, (some .boolean), 1)),
  ((xt_71, 11, 1, 2, false), (yX11_isKept, cX11_isKept, (some .boolean), 1)),
  ((xt_72, 11, 1, 2, false), (yX11_isStep, cX11_isStep, (some .boolean), 1)),
  ((xt_73, 11, 2, 2, false), (yX11_isGlass, cX11_isGlass, (some .boolean), 1)),
  ((xt_74, 11, 2, 1, false), (yX11_findingOfPlace, cX11_findingOfPlace, (some .int), 2)),
  ((xt_75, 11, 3, 1, false), (yX11_findingOfSteps, cX11_findingOfSteps, (some .int), 2)),
  ((xt_76, 11, 4, 1, false), (yX11_findingOfPair, cX11_findingOfPair, (some .int), 3)),
  ((xt_77, 11, 2, 4, false), (yX11_newPane, cX11_newPane, (some (.object "LimpMirror$Pane")), 2)),
  ((xt_78, 11, 4, 1, false), (yX11_glassesOf, cX11_glassesOf, (some .int), 1)),
  ((xt_79, 11, 3, 1, false), (yX11_keptOnes, cX11_keptOnes, (some .int), 0))]
def xMX_5 : List xME := [((xt_80, 11, 3, 1, false), (yX11_howManyThere, cX11_howManyThere, (some .int), 1)),
  ((xt_81, 11, 7, 3, false), (yX11_digestOf, cX11_digestOf, (some .long), 2)),
  ((xt_82, 12, 2, 0, true), (yX12_init, cX12_init, none, 0)),
  ((xt_83, 12, 3, 2, false), (yX12_in, cX12_in, (some .boolean), 3)),
  ((xt_84, 12, 2, 1, false), (yX12_finds, cX12_finds, (some .int), 1)),
  ((xt_85, 12, 1, 2, false), (yX12_isRow, cX12_isRow, (some .boolean), 1)),
  ((xt_86, 12, 1, 2, false), (yX12_isText, cX12_isText, (some .boolean), 1)),
  ((xt_87, 12, 4, 1, false), (yX12_row, cX12_row, (some .int), 2)),
  ((xt_88, 12, 3, 1, false), (yX12_wrongAt, cX12_wrongAt, (some .int), 2)),
  ((xt_89, 12, 6, 1, false), (yX12_lay, cX12_lay, (some .int), 3)),
  ((xt_90, 12, 4, 1, false), (yX12_at, cX12_at, (some .int), 2)),
  ((xt_91, 12, 2, 1, false), (yX12_tear, cX12_tear, (some .int), 1)),
  ((xt_92, 12, 9, 1, false), (yX12_copy, cX12_copy, (some .int), 5)),
  ((xt_93, 12, 5, 1, false), (yX12_mean, cX12_mean, (some .int), 1)),
  ((xt_94, 12, 4, 1, false), (yX12_text, cX12_text, (some .int), 2)),
  ((xt_95, 12, 5, 1, false), (yX12_put, cX12_put, (some .int), 3))]
def xMX_6 : List xME := [((xt_96, 12, 2, 1, false), (yX12_fault, cX12_fault, (some .int), 1)),
  ((xt_97, 12, 3, 1, false), (yX12_room, cX12_room, (some .int), 1)),
  ((xt_98, 12, 2, 2, false), (yX12_isGlass, cX12_isGlass, (some .boolean), 1)),
  ((xt_99, 12, 1, 2, false), (yX12_isStep, cX12_isStep, (some .boolean), 1)),
  ((xt_100, 12, 5, 1, false), (yX12_glass, cX12_glass, (some .int), 2)),
  ((xt_101, 12, 5, 1, false), (yX12_mark, cX12_mark, (some .int), 2)),
  ((xt_102, 12, 2, 1, false), (yX12_habit, cX12_habit, (some .int), 1)),
  ((xt_103, 12, 3, 1, false), (yX12_term, cX12_term, (some .int), 2)),
  ((xt_104, 12, 3, 1, false), (yX12_step, cX12_step, (some .int), 2)),
  ((xt_105, 12, 3, 1, false), (yX12_deed, cX12_deed, (some .int), 2)),
  ((xt_106, 12, 3, 1, false), (yX12_brokenMany, cX12_brokenMany, (some .int), 0)),
  ((xt_107, 12, 3, 1, false), (yX12_broken, cX12_broken, (some .int), 0)),
  ((xt_108, 12, 3, 1, false), (yX12_undo, cX12_undo, (some .int), 1)),
  ((xt_109, 12, 3, 1, false), (yX12_keep, cX12_keep, (some .int), 1)),
  ((xt_110, 12, 3, 1, false), (yX12_on, cX12_on, (some .int), 1)),
  ((xt_111, 12, 6, 1, false), (yX12_takeOut, cX12_takeOut, (some .int), 3))]
def xMX_7 : List xME := [((xt_112, 12, 4, 1, false), (yX12_takeTwo, cX12_takeTwo, (some .int), 2)),
  ((xt_113, 12, 7, 1, false), (yX12_show, cX12_show, (some .int), 3)),
  ((xt_114, 12, 8, 1, false), (yX12_breaks, cX12_breaks, (some .int), 2)),
  ((xt_115, 12, 6, 1, false), (yX12_alike, cX12_alike, (some .int), 2)),
  ((xt_116, 12, 7, 1, false), (yX12_fit, cX12_fit, (some .int), 2)),
  ((xt_117, 12, 7, 1, false), (yX12_ways, cX12_ways, (some .int), 2)),
  ((xt_118, 12, 7, 1, false), (yX12_first, cX12_first, (some .int), 3)),
  ((xt_119, 12, 8, 1, false), (yX12_can, cX12_can, (some .int), 3)),
  ((xt_120, 12, 4, 1, false), (yX12_laws, cX12_laws, (some .int), 2)),
  ((xt_121, 12, 13, 1, false), (yX12_next, cX12_next, (some .int), 2)),
  ((xt_122, 12, 9, 1, false), (yX12_he, cX12_he, (some .int), 3)),
  ((xt_123, 12, 6, 1, false), (yX12_keeps, cX12_keeps, (some .int), 2)),
  ((xt_124, 12, 7, 1, false), (yX12_still, cX12_still, (some .int), 2)),
  ((xt_125, 12, 2, 1, false), (yX12_game, cX12_game, (some .int), 1)),
  ((xt_126, 12, 2, 1, false), (yX12_picks, cX12_picks, (some .int), 1)),
  ((xt_127, 12, 10, 1, false), (yX12_odds, cX12_odds, (some .int), 3))]
def xMX_8 : List xME := [((xt_128, 12, 8, 1, false), (yX12_mid, cX12_mid, (some .int), 3)),
  ((xt_129, 12, 7, 1, false), (yX12_lots, cX12_lots, (some .int), 2)),
  ((xt_130, 12, 1, 1, false), (yX12_asked, cX12_asked, (some .int), 0)),
  ((xt_131, 12, 1, 3, false), (yX12_upper, cX12_upper, (some .long), 0)),
  ((xt_132, 12, 1, 3, false), (yX12_lower, cX12_lower, (some .long), 0)),
  ((xt_133, 12, 4, 1, false), (yX12_kindsOf, cX12_kindsOf, (some .int), 1)),
  ((xt_134, 12, 4, 1, false), (yX12_thereOf, cX12_thereOf, (some .int), 2)),
  ((xt_135, 12, 2, 1, false), (yX12_countOf, cX12_countOf, (some .int), 1)),
  ((xt_136, 12, 2, 1, false), (yX12_count, cX12_count, (some .int), 1)),
  ((xt_137, 12, 1, 1, false), (yX12_finding, cX12_finding, (some .int), 0)),
  ((xt_138, 12, 2, 1, false), (yX12_findings, cX12_findings, (some .int), 1)),
  ((xt_139, 12, 2, 0, false), (yX12_add, cX12_add, none, 1)),
  ((xt_140, 12, 5, 3, false), (yX12_digest, cX12_digest, (some .long), 0))]
def xMX : List (List xME) := [xMX_0, xMX_1, xMX_2, xMX_3, xMX_4, xMX_5, xMX_6, xMX_7, xMX_8]
def xm (k : Nat) : Option xME := match xMX[k / 16]? with
  | some r => r[k % 16]?
  | none => none
def xnw : List Cond := [Cond.methodLinkNest RX0 3 yX3_init "LimpMirror", Cond.methodLinkNest RX2 3 yX3_init "LimpMirror", Cond.methodLinkNest RX8 28 yX11_isStep "LimpMirror", Cond.methodLinkNest RX11 26 yX2_init "LimpMirror", Cond.methodLinkNest RX11 37 yX8_init "LimpMirror", Cond.methodLinkNest RX11 61 yX1_init "LimpMirror", Cond.castable RX4 RX7, Cond.castable RX5 RX7, Cond.castable RX6 RX7, Cond.castable RX9 RX7, Cond.castable RX10 RX7]
theorem xnw_0 : Cond.methodLinkNest RX0 3 yX3_init "LimpMirror" ∈ xnw := List.Mem.head _
theorem xnt_0 : Cond.methodLinkNest RX0 3 yX3_init "LimpMirror" ∈ lw_tbl := xw_in (q := 1073) rfl
theorem xnw_1 : Cond.methodLinkNest RX2 3 yX3_init "LimpMirror" ∈ xnw := List.Mem.tail _ (List.Mem.head _)
theorem xnt_1 : Cond.methodLinkNest RX2 3 yX3_init "LimpMirror" ∈ lw_tbl := xw_in (q := 1034) rfl
theorem xnw_2 : Cond.methodLinkNest RX8 28 yX11_isStep "LimpMirror" ∈ xnw := List.Mem.tail _ (List.Mem.tail _ (List.Mem.head _))
theorem xnt_2 : Cond.methodLinkNest RX8 28 yX11_isStep "LimpMirror" ∈ lw_tbl := xw_in (q := 3019) rfl
theorem xnw_3 : Cond.methodLinkNest RX11 26 yX2_init "LimpMirror" ∈ xnw := List.Mem.tail _ (List.Mem.tail _ (List.Mem.tail _ (List.Mem.head _)))
theorem xnt_3 : Cond.methodLinkNest RX11 26 yX2_init "LimpMirror" ∈ lw_tbl := xw_in (q := 1031) rfl
theorem xnw_4 : Cond.methodLinkNest RX11 37 yX8_init "LimpMirror" ∈ xnw := List.Mem.tail _ (List.Mem.tail _ (List.Mem.tail _ (List.Mem.tail _ (List.Mem.head _))))
theorem xnt_4 : Cond.methodLinkNest RX11 37 yX8_init "LimpMirror" ∈ lw_tbl := xw_in (q := 1049) rfl
theorem xnw_5 : Cond.methodLinkNest RX11 61 yX1_init "LimpMirror" ∈ xnw := List.Mem.tail _ (List.Mem.tail _ (List.Mem.tail _ (List.Mem.tail _ (List.Mem.tail _ (List.Mem.head _)))))
theorem xnt_5 : Cond.methodLinkNest RX11 61 yX1_init "LimpMirror" ∈ lw_tbl := xw_in (q := 1086) rfl
theorem xnw_6 : Cond.castable RX4 RX7 ∈ xnw := List.Mem.tail _ (List.Mem.tail _ (List.Mem.tail _ (List.Mem.tail _ (List.Mem.tail _ (List.Mem.tail _ (List.Mem.head _))))))
theorem xnt_6 : Cond.castable RX4 RX7 ∈ lw_tbl := xw_in (q := 6071) rfl
theorem xnw_7 : Cond.castable RX5 RX7 ∈ xnw := List.Mem.tail _ (List.Mem.tail _ (List.Mem.tail _ (List.Mem.tail _ (List.Mem.tail _ (List.Mem.tail _ (List.Mem.tail _ (List.Mem.head _)))))))
theorem xnt_7 : Cond.castable RX5 RX7 ∈ lw_tbl := xw_in (q := 6067) rfl
theorem xnw_8 : Cond.castable RX6 RX7 ∈ xnw := List.Mem.tail _ (List.Mem.tail _ (List.Mem.tail _ (List.Mem.tail _ (List.Mem.tail _ (List.Mem.tail _ (List.Mem.tail _ (List.Mem.tail _ (List.Mem.head _))))))))
theorem xnt_8 : Cond.castable RX6 RX7 ∈ lw_tbl := xw_in (q := 6070) rfl
theorem xnw_9 : Cond.castable RX9 RX7 ∈ xnw := List.Mem.tail _ (List.Mem.tail _ (List.Mem.tail _ (List.Mem.tail _ (List.Mem.tail _ (List.Mem.tail _ (List.Mem.tail _ (List.Mem.tail _ (List.Mem.tail _ (List.Mem.head _)))))))))
theorem xnt_9 : Cond.castable RX9 RX7 ∈ lw_tbl := xw_in (q := 6068) rfl
theorem xnw_10 : Cond.castable RX10 RX7 ∈ xnw := List.Mem.tail _ (List.Mem.tail _ (List.Mem.tail _ (List.Mem.tail _ (List.Mem.tail _ (List.Mem.tail _ (List.Mem.tail _ (List.Mem.tail _ (List.Mem.tail _ (List.Mem.tail _ (List.Mem.head _))))))))))
theorem xnt_10 : Cond.castable RX10 RX7 ∈ lw_tbl := xw_in (q := 6069) rfl
theorem xnw_in : ∀ w ∈ xnw, w ∈ lw_tbl := List.forall_mem_cons.mpr ⟨xnt_0, List.forall_mem_cons.mpr ⟨xnt_1, List.forall_mem_cons.mpr ⟨xnt_2, List.forall_mem_cons.mpr ⟨xnt_3, List.forall_mem_cons.mpr ⟨xnt_4, List.forall_mem_cons.mpr ⟨xnt_5, List.forall_mem_cons.mpr ⟨xnt_6, List.forall_mem_cons.mpr ⟨xnt_7, List.forall_mem_cons.mpr ⟨xnt_8, List.forall_mem_cons.mpr ⟨xnt_9, List.forall_mem_cons.mpr ⟨xnt_10, fun _ h => absurd h List.not_mem_nil⟩⟩⟩⟩⟩⟩⟩⟩⟩⟩⟩
theorem xao_Cells : Cond.arrayOver (.object "LimpMirror$Cells") ∈ lw_tbl := xw_in (q := 1026) rfl
theorem xao_Deeds : Cond.arrayOver (.object "LimpMirror$Deeds") ∈ lw_tbl := xw_in (q := 1046) rfl
theorem xao_Pane : Cond.arrayOver (.object "LimpMirror$Pane") ∈ lw_tbl := xw_in (q := 1028) rfl
theorem xai : Cond.arrayClass .int ∈ xWS := xw_mem (q := 1045) rfl rfl
def xe_tag (t : FieldType) : Nat := match t with
  | .int => 0
  | .long => 1
  | .object _ => 2
  | .array _ => 2
  | _ => 3
def xe_rt (t : Option FieldType) : Nat := match t with
  | none => 0
  | some .int => 1
  | some .boolean => 2
  | some .long => 3
  | some (.object _) => 4
  | some (.array _) => 4
  | _ => 9
end
section
set_option maxRecDepth 100000 in
theorem xt_ok_0 : xe_ok cX0_init xt_0 = true := by decide +kernel
set_option maxRecDepth 100000 in
theorem xt_ok_1 : xe_ok cX0_isMissing xt_1 = true := by decide +kernel
set_option maxRecDepth 100000 in
theorem xt_ok_2 : xe_ok cX0_size xt_2 = true := by decide +kernel
set_option maxRecDepth 100000 in
theorem xt_ok_3 : xe_ok cX0_open xt_3 = true := by decide +kernel
set_option maxRecDepth 100000 in
theorem xt_ok_4 : xe_ok cX1_init xt_4 = true := by decide +kernel
set_option maxRecDepth 100000 in
theorem xt_ok_5 : xe_ok cX2_init xt_5 = true := by decide +kernel
set_option maxRecDepth 100000 in
theorem xt_ok_6 : xe_ok cX2_size xt_6 = true := by decide +kernel
set_option maxRecDepth 100000 in
theorem xt_ok_7 : xe_ok cX2_isMissing xt_7 = true := by decide +kernel
set_option maxRecDepth 100000 in
theorem xt_ok_8 : xe_ok cX2_drop xt_8 = true := by decide +kernel
set_option maxRecDepth 100000 in
theorem xt_ok_9 : xe_ok cX2_cutTo xt_9 = true := by decide +kernel
set_option maxRecDepth 100000 in
theorem xt_ok_10 : xe_ok cX2_howManyBroke xt_10 = true := by decide +kernel
set_option maxRecDepth 100000 in
theorem xt_ok_11 : xe_ok cX2_firstThatBroke xt_11 = true := by decide +kernel
set_option maxRecDepth 100000 in
theorem xt_ok_12 : xe_ok cX3_init xt_12 = true := by decide +kernel
set_option maxRecDepth 100000 in
theorem xt_ok_13 : xe_ok cX4_init xt_13 = true := by decide +kernel
set_option maxRecDepth 100000 in
theorem xt_ok_14 : xe_ok cX5_init xt_14 = true := by decide +kernel
set_option maxRecDepth 100000 in
theorem xt_ok_15 : xe_ok cX6_init xt_15 = true := by decide +kernel
set_option maxRecDepth 100000 in
theorem xt_ok_16 : xe_ok cX7_init xt_16 = true := by decide +kernel
set_option maxRecDepth 100000 in
theorem xt_ok_17 : xe_ok cX8_init xt_17 = true := by decide +kernel
set_option maxRecDepth 100000 in
theorem xt_ok_18 : xe_ok cX8_glasses xt_18 = true := by decide +kernel
set_option maxRecDepth 100000 in
theorem xt_ok_19 : xe_ok cX8_terms xt_19 = true := by decide +kernel
set_option maxRecDepth 100000 in
theorem xt_ok_20 : xe_ok cX8_thought xt_20 = true := by decide +kernel
set_option maxRecDepth 100000 in
theorem xt_ok_21 : xe_ok cX9_init xt_21 = true := by decide +kernel
set_option maxRecDepth 100000 in
theorem xt_ok_22 : xe_ok cX10_init xt_22 = true := by decide +kernel
set_option maxRecDepth 100000 in
theorem xt_ok_23 : xe_ok cX11_init xt_23 = true := by decide +kernel
set_option maxRecDepth 100000 in
theorem xt_ok_24 : xe_ok cX11_row xt_24 = true := by decide +kernel
set_option maxRecDepth 100000 in
theorem xt_ok_25 : xe_ok cX11_lay xt_25 = true := by decide +kernel
set_option maxRecDepth 100000 in
theorem xt_ok_26 : xe_ok cX11_at xt_26 = true := by decide +kernel
set_option maxRecDepth 100000 in
theorem xt_ok_27 : xe_ok cX11_tear xt_27 = true := by decide +kernel
set_option maxRecDepth 100000 in
theorem xt_ok_28 : xe_ok cX11_copy xt_28 = true := by decide +kernel
set_option maxRecDepth 100000 in
theorem xt_ok_29 : xe_ok cX11_mean xt_29 = true := by decide +kernel
set_option maxRecDepth 100000 in
theorem xt_ok_30 : xe_ok cX11_text xt_30 = true := by decide +kernel
set_option maxRecDepth 100000 in
theorem xt_ok_31 : xe_ok cX11_put xt_31 = true := by decide +kernel
set_option maxRecDepth 100000 in
theorem xt_ok_32 : xe_ok cX11_fault xt_32 = true := by decide +kernel
set_option maxRecDepth 100000 in
theorem xt_ok_33 : xe_ok cX11_room xt_33 = true := by decide +kernel
set_option maxRecDepth 100000 in
theorem xt_ok_34 : xe_ok cX11_glass xt_34 = true := by decide +kernel
set_option maxRecDepth 100000 in
theorem xt_ok_35 : xe_ok cX11_mark xt_35 = true := by decide +kernel
set_option maxRecDepth 100000 in
theorem xt_ok_36 : xe_ok cX11_habit xt_36 = true := by decide +kernel
set_option maxRecDepth 100000 in
theorem xt_ok_37 : xe_ok cX11_term xt_37 = true := by decide +kernel
set_option maxRecDepth 100000 in
theorem xt_ok_38 : xe_ok cX11_step xt_38 = true := by decide +kernel
set_option maxRecDepth 100000 in
theorem xt_ok_39 : xe_ok cX11_deed xt_39 = true := by decide +kernel
set_option maxRecDepth 100000 in
theorem xt_ok_40 : xe_ok cX11_broken xt_40 = true := by decide +kernel
set_option maxRecDepth 100000 in
theorem xt_ok_41 : xe_ok cX11_undo xt_41 = true := by decide +kernel
set_option maxRecDepth 100000 in
theorem xt_ok_42 : xe_ok cX11_keep xt_42 = true := by decide +kernel
set_option maxRecDepth 100000 in
theorem xt_ok_43 : xe_ok cX11_on xt_43 = true := by decide +kernel
set_option maxRecDepth 100000 in
theorem xt_ok_44 : xe_ok cX11_show xt_44 = true := by decide +kernel
set_option maxRecDepth 100000 in
theorem xt_ok_45 : xe_ok cX11_breaks xt_45 = true := by decide +kernel
set_option maxRecDepth 100000 in
theorem xt_ok_46 : xe_ok cX11_alike xt_46 = true := by decide +kernel
set_option maxRecDepth 100000 in
theorem xt_ok_47 : xe_ok cX11_fit xt_47 = true := by decide +kernel
set_option maxRecDepth 100000 in
theorem xt_ok_48 : xe_ok cX11_ways xt_48 = true := by decide +kernel
set_option maxRecDepth 100000 in
theorem xt_ok_49 : xe_ok cX11_first xt_49 = true := by decide +kernel
set_option maxRecDepth 100000 in
theorem xt_ok_50 : xe_ok cX11_can xt_50 = true := by decide +kernel
set_option maxRecDepth 100000 in
theorem xt_ok_51 : xe_ok cX11_laws xt_51 = true := by decide +kernel
set_option maxRecDepth 100000 in
theorem xt_ok_52 : xe_ok cX11_next xt_52 = true := by decide +kernel
set_option maxRecDepth 100000 in
theorem xt_ok_53 : xe_ok cX11_he xt_53 = true := by decide +kernel
set_option maxRecDepth 100000 in
theorem xt_ok_54 : xe_ok cX11_keeps xt_54 = true := by decide +kernel
set_option maxRecDepth 100000 in
theorem xt_ok_55 : xe_ok cX11_still xt_55 = true := by decide +kernel
set_option maxRecDepth 100000 in
theorem xt_ok_56 : xe_ok cX11_game xt_56 = true := by decide +kernel
set_option maxRecDepth 100000 in
theorem xt_ok_57 : xe_ok cX11_picks xt_57 = true := by decide +kernel
set_option maxRecDepth 100000 in
theorem xt_ok_58 : xe_ok cX11_odds xt_58 = true := by decide +kernel
set_option maxRecDepth 100000 in
theorem xt_ok_59 : xe_ok cX11_mid xt_59 = true := by decide +kernel
set_option maxRecDepth 100000 in
theorem xt_ok_60 : xe_ok cX11_lots xt_60 = true := by decide +kernel
set_option maxRecDepth 100000 in
theorem xt_ok_61 : xe_ok cX11_asked xt_61 = true := by decide +kernel
set_option maxRecDepth 100000 in
theorem xt_ok_62 : xe_ok cX11_upper xt_62 = true := by decide +kernel
set_option maxRecDepth 100000 in
theorem xt_ok_63 : xe_ok cX11_lower xt_63 = true := by decide +kernel
set_option maxRecDepth 100000 in
theorem xt_ok_64 : xe_ok cX11_count xt_64 = true := by decide +kernel
set_option maxRecDepth 100000 in
theorem xt_ok_65 : xe_ok cX11_finding xt_65 = true := by decide +kernel
set_option maxRecDepth 100000 in
theorem xt_ok_66 : xe_ok cX11_findings xt_66 = true := by decide +kernel
set_option maxRecDepth 100000 in
theorem xt_ok_67 : xe_ok cX11_digest xt_67 = true := by decide +kernel
set_option maxRecDepth 100000 in
theorem xt_ok_68 : xe_ok cX11_refuse xt_68 = true := by decide +kernel
set_option maxRecDepth 100000 in
theorem xt_ok_69 : xe_ok cX11_isRow xt_69 = true := by decide +kernel
set_option maxRecDepth 100000 in
theorem xt_ok_70 : xe_ok cX11_isText xt_70 = true := by decide +kernel
set_option maxRecDepth 100000 in
theorem xt_ok_71 : xe_ok cX11_isKept xt_71 = true := by decide +kernel
set_option maxRecDepth 100000 in
theorem xt_ok_72 : xe_ok cX11_isStep xt_72 = true := by decide +kernel
set_option maxRecDepth 100000 in
theorem xt_ok_73 : xe_ok cX11_isGlass xt_73 = true := by decide +kernel
set_option maxRecDepth 100000 in
theorem xt_ok_74 : xe_ok cX11_findingOfPlace xt_74 = true := by decide +kernel
set_option maxRecDepth 100000 in
theorem xt_ok_75 : xe_ok cX11_findingOfSteps xt_75 = true := by decide +kernel
set_option maxRecDepth 100000 in
theorem xt_ok_76 : xe_ok cX11_findingOfPair xt_76 = true := by decide +kernel
set_option maxRecDepth 100000 in
theorem xt_ok_77 : xe_ok cX11_newPane xt_77 = true := by decide +kernel
set_option maxRecDepth 100000 in
theorem xt_ok_78 : xe_ok cX11_glassesOf xt_78 = true := by decide +kernel
set_option maxRecDepth 100000 in
theorem xt_ok_79 : xe_ok cX11_keptOnes xt_79 = true := by decide +kernel
set_option maxRecDepth 100000 in
theorem xt_ok_80 : xe_ok cX11_howManyThere xt_80 = true := by decide +kernel
set_option maxRecDepth 100000 in
theorem xt_ok_81 : xe_ok cX11_digestOf xt_81 = true := by decide +kernel
set_option maxRecDepth 100000 in
theorem xt_ok_82 : xe_ok cX12_init xt_82 = true := by decide +kernel
set_option maxRecDepth 100000 in
theorem xt_ok_83 : xe_ok cX12_in xt_83 = true := by decide +kernel
set_option maxRecDepth 100000 in
theorem xt_ok_84 : xe_ok cX12_finds xt_84 = true := by decide +kernel
set_option maxRecDepth 100000 in
theorem xt_ok_85 : xe_ok cX12_isRow xt_85 = true := by decide +kernel
set_option maxRecDepth 100000 in
theorem xt_ok_86 : xe_ok cX12_isText xt_86 = true := by decide +kernel
set_option maxRecDepth 100000 in
theorem xt_ok_87 : xe_ok cX12_row xt_87 = true := by decide +kernel
set_option maxRecDepth 100000 in
theorem xt_ok_88 : xe_ok cX12_wrongAt xt_88 = true := by decide +kernel
set_option maxRecDepth 100000 in
theorem xt_ok_89 : xe_ok cX12_lay xt_89 = true := by decide +kernel
set_option maxRecDepth 100000 in
theorem xt_ok_90 : xe_ok cX12_at xt_90 = true := by decide +kernel
set_option maxRecDepth 100000 in
theorem xt_ok_91 : xe_ok cX12_tear xt_91 = true := by decide +kernel
set_option maxRecDepth 100000 in
theorem xt_ok_92 : xe_ok cX12_copy xt_92 = true := by decide +kernel
set_option maxRecDepth 100000 in
theorem xt_ok_93 : xe_ok cX12_mean xt_93 = true := by decide +kernel
set_option maxRecDepth 100000 in
theorem xt_ok_94 : xe_ok cX12_text xt_94 = true := by decide +kernel
set_option maxRecDepth 100000 in
theorem xt_ok_95 : xe_ok cX12_put xt_95 = true := by decide +kernel
set_option maxRecDepth 100000 in
theorem xt_ok_96 : xe_ok cX12_fault xt_96 = true := by decide +kernel
set_option maxRecDepth 100000 in
theorem xt_ok_97 : xe_ok cX12_room xt_97 = true := by decide +kernel
set_option maxRecDepth 100000 in
theorem xt_ok_98 : xe_ok cX12_isGlass xt_98 = true := by decide +kernel
set_option maxRecDepth 100000 in
theorem xt_ok_99 : xe_ok cX12_isStep xt_99 = true := by decide +kernel
set_option maxRecDepth 100000 in
theorem xt_ok_100 : xe_ok cX12_glass xt_100 = true := by decide +kernel
set_option maxRecDepth 100000 in
theorem xt_ok_101 : xe_ok cX12_mark xt_101 = true := by decide +kernel
set_option maxRecDepth 100000 in
theorem xt_ok_102 : xe_ok cX12_habit xt_102 = true := by decide +kernel
set_option maxRecDepth 100000 in
theorem xt_ok_103 : xe_ok cX12_term xt_103 = true := by decide +kernel
set_option maxRecDepth 100000 in
theorem xt_ok_104 : xe_ok cX12_step xt_104 = true := by decide +kernel
set_option maxRecDepth 100000 in
theorem xt_ok_105 : xe_ok cX12_deed xt_105 = true := by decide +kernel
set_option maxRecDepth 100000 in
theorem xt_ok_106 : xe_ok cX12_brokenMany xt_106 = true := by decide +kernel
set_option maxRecDepth 100000 in
theorem xt_ok_107 : xe_ok cX12_broken xt_107 = true := by decide +kernel
set_option maxRecDepth 100000 in
theorem xt_ok_108 : xe_ok cX12_undo xt_108 = true := by decide +kernel
set_option maxRecDepth 100000 in
theorem xt_ok_109 : xe_ok cX12_keep xt_109 = true := by decide +kernel
set_option maxRecDepth 100000 in
theorem xt_ok_110 : xe_ok cX12_on xt_110 = true := by decide +kernel
set_option maxRecDepth 100000 in
theorem xt_ok_111 : xe_ok cX12_takeOut xt_111 = true := by decide +kernel
set_option maxRecDepth 100000 in
theorem xt_ok_112 : xe_ok cX12_takeTwo xt_112 = true := by decide +kernel
set_option maxRecDepth 100000 in
theorem xt_ok_113 : xe_ok cX12_show xt_113 = true := by decide +kernel
set_option maxRecDepth 100000 in
theorem xt_ok_114 : xe_ok cX12_breaks xt_114 = true := by decide +kernel
set_option maxRecDepth 100000 in
theorem xt_ok_115 : xe_ok cX12_alike xt_115 = true := by decide +kernel
set_option maxRecDepth 100000 in
theorem xt_ok_116 : xe_ok cX12_fit xt_116 = true := by decide +kernel
set_option maxRecDepth 100000 in
theorem xt_ok_117 : xe_ok cX12_ways xt_117 = true := by decide +kernel
set_option maxRecDepth 100000 in
theorem xt_ok_118 : xe_ok cX12_first xt_118 = true := by decide +kernel
set_option maxRecDepth 100000 in
theorem xt_ok_119 : xe_ok cX12_can xt_119 = true := by decide +kernel
set_option maxRecDepth 100000 in
theorem xt_ok_120 : xe_ok cX12_laws xt_120 = true := by decide +kernel
set_option maxRecDepth 100000 in
theorem xt_ok_121 : xe_ok cX12_next xt_121 = true := by decide +kernel
set_option maxRecDepth 100000 in
theorem xt_ok_122 : xe_ok cX12_he xt_122 = true := by decide +kernel
set_option maxRecDepth 100000 in
theorem xt_ok_123 : xe_ok cX12_keeps xt_123 = true := by decide +kernel
set_option maxRecDepth 100000 in
theorem xt_ok_124 : xe_ok cX12_still xt_124 = true := by decide +kernel
set_option maxRecDepth 100000 in
theorem xt_ok_125 : xe_ok cX12_game xt_125 = true := by decide +kernel
set_option maxRecDepth 100000 in
theorem xt_ok_126 : xe_ok cX12_picks xt_126 = true := by decide +kernel
set_option maxRecDepth 100000 in
theorem xt_ok_127 : xe_ok cX12_odds xt_127 = true := by decide +kernel
set_option maxRecDepth 100000 in
theorem xt_ok_128 : xe_ok cX12_mid xt_128 = true := by decide +kernel
set_option maxRecDepth 100000 in
theorem xt_ok_129 : xe_ok cX12_lots xt_129 = true := by decide +kernel
set_option maxRecDepth 100000 in
theorem xt_ok_130 : xe_ok cX12_asked xt_130 = true := by decide +kernel
set_option maxRecDepth 100000 in
theorem xt_ok_131 : xe_ok cX12_upper xt_131 = true := by decide +kernel
set_option maxRecDepth 100000 in
theorem xt_ok_132 : xe_ok cX12_lower xt_132 = true := by decide +kernel
set_option maxRecDepth 100000 in
theorem xt_ok_133 : xe_ok cX12_kindsOf xt_133 = true := by decide +kernel
set_option maxRecDepth 100000 in
theorem xt_ok_134 : xe_ok cX12_thereOf xt_134 = true := by decide +kernel
set_option maxRecDepth 100000 in
theorem xt_ok_135 : xe_ok cX12_countOf xt_135 = true := by decide +kernel
set_option maxRecDepth 100000 in
theorem xt_ok_136 : xe_ok cX12_count xt_136 = true := by decide +kernel
set_option maxRecDepth 100000 in
theorem xt_ok_137 : xe_ok cX12_finding xt_137 = true := by decide +kernel
set_option maxRecDepth 100000 in
theorem xt_ok_138 : xe_ok cX12_findings xt_138 = true := by decide +kernel
set_option maxRecDepth 100000 in
theorem xt_ok_139 : xe_ok cX12_add xt_139 = true := by decide +kernel
set_option maxRecDepth 100000 in
theorem xt_ok_140 : xe_ok cX12_digest xt_140 = true := by decide +kernel
set_option maxRecDepth 100000 in
theorem xt_ok_L_0 : xe_ok cL_law xt_L_0 = true := by decide +kernel
set_option maxRecDepth 100000 in
theorem xt_ok_L_1 : xe_ok cL_law xt_L_1 = true := by decide +kernel
set_option maxRecDepth 100000 in
theorem xt_ok_L_2 : xe_ok cL_law xt_L_2 = true := by decide +kernel
set_option maxRecDepth 100000 in
theorem xt_ok_L_3 : xe_ok cL_law xt_L_3 = true := by decide +kernel
set_option maxRecDepth 100000 in
theorem xt_ok_L_4 : xe_ok cL_law xt_L_4 = true := by decide +kernel
set_option maxRecDepth 100000 in
theorem xt_ok_L_5 : xe_ok cL_law xt_L_5 = true := by decide +kernel
set_option maxRecDepth 100000 in
theorem xt_ok_L_6 : xe_ok cL_law xt_L_6 = true := by decide +kernel
set_option maxRecDepth 100000 in
theorem xt_ok_L_7 : xe_ok cL_law xt_L_7 = true := by decide +kernel
set_option maxRecDepth 100000 in
theorem xt_ok_L_8 : xe_ok cL_law xt_L_8 = true := by decide +kernel
set_option maxRecDepth 100000 in
theorem xt_ok_L_9 : xe_ok cL_law xt_L_9 = true := by decide +kernel
set_option maxRecDepth 100000 in
theorem xt_ok_L_10 : xe_ok cL_law xt_L_10 = true := by decide +kernel
set_option maxRecDepth 100000 in
theorem xt_ok_L_11 : xe_ok cL_law xt_L_11 = true := by decide +kernel
set_option maxRecDepth 100000 in
theorem xt_ok_L_12 : xe_ok cL_law xt_L_12 = true := by decide +kernel
set_option maxRecDepth 100000 in
theorem xt_ok_L_13 : xe_ok cL_law xt_L_13 = true := by decide +kernel
set_option maxRecDepth 100000 in
theorem xt_ok_L_14 : xe_ok cL_law xt_L_14 = true := by decide +kernel
set_option maxRecDepth 100000 in
theorem xt_ok_L_15 : xe_ok cL_law xt_L_15 = true := by decide +kernel
set_option maxRecDepth 100000 in
theorem xt_ok_L_16 : xe_ok cL_law xt_L_16 = true := by decide +kernel
theorem xe_ok_app {cc : ByteArray} {a b : xI} (ha : xe_ok cc a = true) (hb : xe_ok cc b = true) : xe_ok cc (a ++ b) = true := by
  unfold xe_ok at *
  rw [List.all_append, ha, hb]
  rfl
set_option maxRecDepth 100000 in
theorem xt_ok_L : xe_ok cL_law xt_L = true := xe_ok_app xt_ok_L_0 (xe_ok_app xt_ok_L_1 (xe_ok_app xt_ok_L_2 (xe_ok_app xt_ok_L_3 (xe_ok_app xt_ok_L_4 (xe_ok_app xt_ok_L_5 (xe_ok_app xt_ok_L_6 (xe_ok_app xt_ok_L_7 (xe_ok_app xt_ok_L_8 (xe_ok_app xt_ok_L_9 (xe_ok_app xt_ok_L_10 (xe_ok_app xt_ok_L_11 (xe_ok_app xt_ok_L_12 (xe_ok_app xt_ok_L_13 (xe_ok_app xt_ok_L_14 (xe_ok_app xt_ok_L_15 (xt_ok_L_16))))))))))))))))
end
section
/-! what the tables' rows say -/
def xf_G (oc : Nat) (e : xFE) : Prop := ∀ ci ∈ e.2.2.2.2, ∃ (C : String) (T : u_T) (N : Nat), vwCl[ci]? = some (C, T, N) ∧ e.2.1 < N ∧ Cond.fieldLink (RO oc) e.1 (T e.2.1).1 (T e.2.1).2.1 (T e.2.1).2.2.1 ∈ xWS ∧ (T e.2.1).2.2.2 = e.2.2.2.1 ∧ (parseFieldDescriptor (T e.2.1).2.2.1).map xe_tag = some e.2.2.1 ∧ (T e.2.1).1 = RO oc
def xm_G (q : xME) : Prop := xe_ok q.2.2.1 q.1.1 = true ∧ Cond.code q.2.1 q.2.2.1 q.1.2.2.1 q.2.2.2.1 ∈ xWS ∧ Cond.initialized q.2.1.cls ∈ xWS ∧ (plainName q.2.1.cls = true ∧ q.2.1.cls ≠ "java/lang/invoke/MethodHandle" ∧ q.2.1.cls ≠ "java/lang/invoke/VarHandle") ∧ q.2.1.cls = RO q.1.2.1 ∧ (q.1.2.2.2.2 = true → q.2.1.name = "<init>") ∧ xe_rt q.2.2.2.1 = q.1.2.2.2.1 ∧ q.1.2.2.1 ≤ 40 ∧ (parseMethodDescriptor q.2.1.desc).map (fun d => d.parameters.length) = some q.2.2.2.2
def xc_G (oc : Nat) (e : xCE) : Prop := match e.2.1 with
  | 0 => ∃ q, xm e.2.2.1 = some q ∧ Cond.methodLink (RO oc) e.1 q.2.1 ∈ xWS ∧ Cond.static q.2.1 ∈ xWS
  | 1 => ∃ q, xm e.2.2.1 = some q ∧ Cond.methodLink (RO oc) e.1 q.2.1 ∈ xWS ∧ Cond.instanceMethod q.2.1 ∈ xWS ∧ q.2.1.name = "<init>" ∧ q.2.2.2.1 = none
  | 2 => ∃ q, xm e.2.2.1 = some q ∧ Cond.methodLinkNest (RO oc) e.1 q.2.1 "LimpMirror" ∈ xnw ∧ Cond.instanceMethod q.2.1 ∈ xWS ∧ q.2.1.name = "<init>" ∧ q.2.2.2.1 = none
  | 3 => ∃ q, xm e.2.2.1 = some q ∧ Cond.methodLink (RO oc) e.1 q.2.1 ∈ xWS ∧ Cond.instanceMethod q.2.1 ∈ xWS ∧ ∀ ci ∈ e.2.2.2, ∃ (C : String) (T : u_T) (N : Nat), vwCl[ci]? = some (C, T, N) ∧ Cond.selects C q.2.1 q.2.1 ∈ xWS
  | 4 => Cond.methodLink (RO oc) e.1 objectInit ∈ xWS ∧ Cond.instanceMethod objectInit ∈ xWS ∧ Cond.code objectInit ⟨#[0xb1]⟩ 1 none ∈ xWS
  | 5 => Cond.methodLink (RO oc) e.1 Lib.Math.max.name ∈ xWS ∧ Cond.static Lib.Math.max.name ∈ xWS ∧ Cond.initialized "java/lang/Math" ∈ xWS ∧ Cond.code Lib.Math.max.name Lib.Math.max.code 2 (some .int) ∈ xWS
  | 6 => Cond.methodLink (RO oc) e.1 Lib.Math.min.name ∈ xWS ∧ Cond.static Lib.Math.min.name ∈ xWS ∧ Cond.initialized "java/lang/Math" ∈ xWS ∧ Cond.code Lib.Math.min.name Lib.Math.min.code 2 (some .int) ∈ xWS
  | 7 => ∃ q, xm e.2.2.1 = some q ∧ Cond.methodLinkNest (RO oc) e.1 q.2.1 "LimpMirror" ∈ xnw ∧ Cond.static q.2.1 ∈ xWS
  | _ => False
def xn_G (oc : Nat) (e : Nat × Nat × List Value) : Prop := ∃ (C : String) (T : u_T) (N : Nat) (ty : Nat → FieldType), vwCl[e.2.1]? = some (C, T, N) ∧ Cond.classLink (RO oc) e.1 C ∈ xWS ∧ Cond.instantiable C N ∈ xWS ∧ Cond.initialized C ∈ xWS ∧ (∀ k, k < N → parseFieldDescriptor (T k).2.2.1 = some (ty k)) ∧ (∀ j, j < N → defaultValue (ty j) = vp_V e.2.2 j) ∧ e.2.2.length = N
def xAC : List String := [RX0, RX2, RX7]
def xa_G (oc : Nat) (e : Nat × Nat) : Prop := ∃ C, xAC[e.2]? = some C ∧ Cond.classLink (RO oc) e.1 C ∈ xWS
def xk_G (oc : Nat) (e : Nat × Value) : Prop := match e.2 with
  | .int v => Cond.constant (RO oc) e.1 v ∈ xWS
  | .long v => Cond.constantLong (RO oc) e.1 v ∈ xWS
  | _ => False
theorem xf_ok_0 : ∀ e ∈ xFL_0, xf_G 0 e := List.forall_mem_cons.mpr ⟨List.forall_mem_cons.mpr ⟨⟨RX0, TX0, 2, rfl, by decide, mw_23, rfl, by decide +kernel, rfl⟩, fun _ h => absurd h List.not_mem_nil⟩, List.forall_mem_cons.mpr ⟨List.forall_mem_cons.mpr ⟨⟨RX0, TX0, 2, rfl, by decide, mw_24, rfl, by decide +kernel, rfl⟩, fun _ h => absurd h List.not_mem_nil⟩, fun _ h => absurd h List.not_mem_nil⟩⟩
theorem xc_ok_0 : ∀ e ∈ xCL_0, xc_G 0 e := List.forall_mem_cons.mpr ⟨⟨_, rfl, xnw_0, mw_218, rfl, rfl⟩, List.forall_mem_cons.mpr ⟨⟨mw_219, mw_220, mw_221, mw_222⟩, List.forall_mem_cons.mpr ⟨⟨mw_223, mw_224, mw_221, mw_225⟩, fun _ h => absurd h List.not_mem_nil⟩⟩⟩
theorem xn_ok_0 : ∀ e ∈ xNL_0, xn_G 0 e := fun _ h => absurd h List.not_mem_nil
theorem xa_ok_0 : ∀ e ∈ xAL_0, xa_G 0 e := fun _ h => absurd h List.not_mem_nil
theorem xk_ok_0 : ∀ e ∈ xKL_0, xk_G 0 e := fun _ h => absurd h List.not_mem_nil
theorem xf_ok_1 : ∀ e ∈ xFL_1, xf_G 1 e := List.forall_mem_cons.mpr ⟨List.forall_mem_cons.mpr ⟨⟨RX1, TX1, 5, rfl, by decide, mw_25, rfl, by decide +kernel, rfl⟩, fun _ h => absurd h List.not_mem_nil⟩, List.forall_mem_cons.mpr ⟨List.forall_mem_cons.mpr ⟨⟨RX1, TX1, 5, rfl, by decide, mw_26, rfl, by decide +kernel, rfl⟩, fun _ h => absurd h List.not_mem_nil⟩, List.forall_mem_cons.mpr ⟨List.forall_mem_cons.mpr ⟨⟨RX1, TX1, 5, rfl, by decide, mw_27, rfl, by decide +kernel, rfl⟩, fun _ h => absurd h List.not_mem_nil⟩, List.forall_mem_cons.mpr ⟨List.forall_mem_cons.mpr ⟨⟨RX1, TX1, 5, rfl, by decide, mw_28, rfl, by decide +kernel, rfl⟩, fun _ h => absurd h List.not_mem_nil⟩, List.forall_mem_cons.mpr ⟨List.forall_mem_cons.mpr ⟨⟨RX1, TX1, 5, rfl, by decide, mw_29, rfl, by decide +kernel, rfl⟩, fun _ h => absurd h List.not_mem_nil⟩, fun _ h => absurd h List.not_mem_nil⟩⟩⟩⟩⟩
theorem xc_ok_1 : ∀ e ∈ xCL_1, xc_G 1 e := List.forall_mem_cons.mpr ⟨⟨mw_226, mw_227, mw_228⟩, fun _ h => absurd h List.not_mem_nil⟩
theorem xn_ok_1 : ∀ e ∈ xNL_1, xn_G 1 e := fun _ h => absurd h List.not_mem_nil
theorem xa_ok_1 : ∀ e ∈ xAL_1, xa_G 1 e := fun _ h => absurd h List.not_mem_nil
theorem xk_ok_1 : ∀ e ∈ xKL_1, xk_G 1 e := fun _ h => absurd h List.not_mem_nil
theorem xf_ok_2 : ∀ e ∈ xFL_2, xf_G 2 e := List.forall_mem_cons.mpr ⟨List.forall_mem_cons.mpr ⟨⟨RX2, TX2, 2, rfl, by decide, mw_16, rfl, by decide +kernel, rfl⟩, fun _ h => absurd h List.not_mem_nil⟩, List.forall_mem_cons.mpr ⟨List.forall_mem_cons.mpr ⟨⟨RX2, TX2, 2, rfl, by decide, mw_17, rfl, by decide +kernel, rfl⟩, fun _ h => absurd h List.not_mem_nil⟩, fun _ h => absurd h List.not_mem_nil⟩⟩
theorem xc_ok_2 : ∀ e ∈ xCL_2, xc_G 2 e := List.forall_mem_cons.mpr ⟨⟨_, rfl, xnw_1, mw_218, rfl, rfl⟩, fun _ h => absurd h List.not_mem_nil⟩
theorem xn_ok_2 : ∀ e ∈ xNL_2, xn_G 2 e := fun _ h => absurd h List.not_mem_nil
theorem xa_ok_2 : ∀ e ∈ xAL_2, xa_G 2 e := fun _ h => absurd h List.not_mem_nil
theorem xk_ok_2 : ∀ e ∈ xKL_2, xk_G 2 e := fun _ h => absurd h List.not_mem_nil
theorem xf_ok_3 : ∀ e ∈ xFL_3, xf_G 3 e := fun _ h => absurd h List.not_mem_nil
theorem xc_ok_3 : ∀ e ∈ xCL_3, xc_G 3 e := List.forall_mem_cons.mpr ⟨⟨mw_229, mw_227, mw_228⟩, fun _ h => absurd h List.not_mem_nil⟩
theorem xn_ok_3 : ∀ e ∈ xNL_3, xn_G 3 e := fun _ h => absurd h List.not_mem_nil
theorem xa_ok_3 : ∀ e ∈ xAL_3, xa_G 3 e := fun _ h => absurd h List.not_mem_nil
theorem xk_ok_3 : ∀ e ∈ xKL_3, xk_G 3 e := fun _ h => absurd h List.not_mem_nil
theorem xf_ok_4 : ∀ e ∈ xFL_4, xf_G 4 e := fun _ h => absurd h List.not_mem_nil
theorem xc_ok_4 : ∀ e ∈ xCL_4, xc_G 4 e := List.forall_mem_cons.mpr ⟨⟨_, rfl, mw_230, mw_231, rfl, rfl⟩, fun _ h => absurd h List.not_mem_nil⟩
theorem xn_ok_4 : ∀ e ∈ xNL_4, xn_G 4 e := fun _ h => absurd h List.not_mem_nil
theorem xa_ok_4 : ∀ e ∈ xAL_4, xa_G 4 e := fun _ h => absurd h List.not_mem_nil
theorem xk_ok_4 : ∀ e ∈ xKL_4, xk_G 4 e := fun _ h => absurd h List.not_mem_nil
theorem xf_ok_5 : ∀ e ∈ xFL_5, xf_G 5 e := fun _ h => absurd h List.not_mem_nil
theorem xc_ok_5 : ∀ e ∈ xCL_5, xc_G 5 e := List.forall_mem_cons.mpr ⟨⟨_, rfl, mw_232, mw_233, rfl, rfl⟩, fun _ h => absurd h List.not_mem_nil⟩
theorem xn_ok_5 : ∀ e ∈ xNL_5, xn_G 5 e := fun _ h => absurd h List.not_mem_nil
theorem xa_ok_5 : ∀ e ∈ xAL_5, xa_G 5 e := fun _ h => absurd h List.not_mem_nil
theorem xk_ok_5 : ∀ e ∈ xKL_5, xk_G 5 e := fun _ h => absurd h List.not_mem_nil
theorem xf_ok_6 : ∀ e ∈ xFL_6, xf_G 6 e := fun _ h => absurd h List.not_mem_nil
theorem xc_ok_6 : ∀ e ∈ xCL_6, xc_G 6 e := List.forall_mem_cons.mpr ⟨⟨_, rfl, mw_234, mw_235, rfl, rfl⟩, fun _ h => absurd h List.not_mem_nil⟩
theorem xn_ok_6 : ∀ e ∈ xNL_6, xn_G 6 e := fun _ h => absurd h List.not_mem_nil
theorem xa_ok_6 : ∀ e ∈ xAL_6, xa_G 6 e := fun _ h => absurd h List.not_mem_nil
theorem xk_ok_6 : ∀ e ∈ xKL_6, xk_G 6 e := fun _ h => absurd h List.not_mem_nil
theorem xf_ok_7 : ∀ e ∈ xFL_7, xf_G 7 e := List.forall_mem_cons.mpr ⟨List.forall_mem_cons.mpr ⟨⟨RX4, TX4, 2, rfl, by decide, mw_30, rfl, by decide +kernel, rfl⟩, List.forall_mem_cons.mpr ⟨⟨RX5, TX5, 2, rfl, by decide, mw_30, rfl, by decide +kernel, rfl⟩, List.forall_mem_cons.mpr ⟨⟨RX6, TX6, 2, rfl, by decide, mw_30, rfl, by decide +kernel, rfl⟩, List.forall_mem_cons.mpr ⟨⟨RX7, TX7, 2, rfl, by decide, mw_30, rfl, by decide +kernel, rfl⟩, List.forall_mem_cons.mpr ⟨⟨RX9, TX9, 2, rfl, by decide, mw_30, rfl, by decide +kernel, rfl⟩, List.forall_mem_cons.mpr ⟨⟨RX10, TX10, 2, rfl, by decide, mw_30, rfl, by decide +kernel, rfl⟩, fun _ h => absurd h List.not_mem_nil⟩⟩⟩⟩⟩⟩, List.forall_mem_cons.mpr ⟨List.forall_mem_cons.mpr ⟨⟨RX4, TX4, 2, rfl, by decide, mw_31, rfl, by decide +kernel, rfl⟩, List.forall_mem_cons.mpr ⟨⟨RX5, TX5, 2, rfl, by decide, mw_31, rfl, by decide +kernel, rfl⟩, List.forall_mem_cons.mpr ⟨⟨RX6, TX6, 2, rfl, by decide, mw_31, rfl, by decide +kernel, rfl⟩, List.forall_mem_cons.mpr ⟨⟨RX7, TX7, 2, rfl, by decide, mw_31, rfl, by decide +kernel, rfl⟩, List.forall_mem_cons.mpr ⟨⟨RX9, TX9, 2, rfl, by decide, mw_31, rfl, by decide +kernel, rfl⟩, List.forall_mem_cons.mpr ⟨⟨RX10, TX10, 2, rfl, by decide, mw_31, rfl, by decide +kernel, rfl⟩, fun _ h => absurd h List.not_mem_nil⟩⟩⟩⟩⟩⟩, fun _ h => absurd h List.not_mem_nil⟩⟩
theorem xc_ok_7 : ∀ e ∈ xCL_7, xc_G 7 e := List.forall_mem_cons.mpr ⟨⟨mw_236, mw_227, mw_228⟩, fun _ h => absurd h List.not_mem_nil⟩
theorem xn_ok_7 : ∀ e ∈ xNL_7, xn_G 7 e := fun _ h => absurd h List.not_mem_nil
theorem xa_ok_7 : ∀ e ∈ xAL_7, xa_G 7 e := fun _ h => absurd h List.not_mem_nil
theorem xk_ok_7 : ∀ e ∈ xKL_7, xk_G 7 e := fun _ h => absurd h List.not_mem_nil
theorem xf_ok_8 : ∀ e ∈ xFL_8, xf_G 8 e := List.forall_mem_cons.mpr ⟨List.forall_mem_cons.mpr ⟨⟨RX8, TX8, 5, rfl, by decide, mw_18, rfl, by decide +kernel, rfl⟩, fun _ h => absurd h List.not_mem_nil⟩, List.forall_mem_cons.mpr ⟨List.forall_mem_cons.mpr ⟨⟨RX8, TX8, 5, rfl, by decide, mw_19, rfl, by decide +kernel, rfl⟩, fun _ h => absurd h List.not_mem_nil⟩, List.forall_mem_cons.mpr ⟨List.forall_mem_cons.mpr ⟨⟨RX8, TX8, 5, rfl, by decide, mw_20, rfl, by decide +kernel, rfl⟩, fun _ h => absurd h List.not_mem_nil⟩, List.forall_mem_cons.mpr ⟨List.forall_mem_cons.mpr ⟨⟨RX8, TX8, 5, rfl, by decide, mw_21, rfl, by decide +kernel, rfl⟩, fun _ h => absurd h List.not_mem_nil⟩, List.forall_mem_cons.mpr ⟨List.forall_mem_cons.mpr ⟨⟨RX8, TX8, 5, rfl, by decide, mw_22, rfl, by decide +kernel, rfl⟩, fun _ h => absurd h List.not_mem_nil⟩, fun _ h => absurd h List.not_mem_nil⟩⟩⟩⟩⟩
theorem xc_ok_8 : ∀ e ∈ xCL_8, xc_G 8 e := List.forall_mem_cons.mpr ⟨⟨mw_237, mw_227, mw_228⟩, List.forall_mem_cons.mpr ⟨⟨_, rfl, xnw_2, mw_238⟩, fun _ h => absurd h List.not_mem_nil⟩⟩
theorem xn_ok_8 : ∀ e ∈ xNL_8, xn_G 8 e := fun _ h => absurd h List.not_mem_nil
theorem xa_ok_8 : ∀ e ∈ xAL_8, xa_G 8 e := fun _ h => absurd h List.not_mem_nil
theorem xk_ok_8 : ∀ e ∈ xKL_8, xk_G 8 e := fun _ h => absurd h List.not_mem_nil
theorem xf_ok_9 : ∀ e ∈ xFL_9, xf_G 9 e := fun _ h => absurd h List.not_mem_nil
theorem xc_ok_9 : ∀ e ∈ xCL_9, xc_G 9 e := List.forall_mem_cons.mpr ⟨⟨_, rfl, mw_239, mw_233, rfl, rfl⟩, fun _ h => absurd h List.not_mem_nil⟩
theorem xn_ok_9 : ∀ e ∈ xNL_9, xn_G 9 e := fun _ h => absurd h List.not_mem_nil
theorem xa_ok_9 : ∀ e ∈ xAL_9, xa_G 9 e := fun _ h => absurd h List.not_mem_nil
theorem xk_ok_9 : ∀ e ∈ xKL_9, xk_G 9 e := fun _ h => absurd h List.not_mem_nil
theorem xf_ok_10 : ∀ e ∈ xFL_10, xf_G 10 e := fun _ h => absurd h List.not_mem_nil
theorem xc_ok_10 : ∀ e ∈ xCL_10, xc_G 10 e := List.forall_mem_cons.mpr ⟨⟨_, rfl, mw_240, mw_233, rfl, rfl⟩, fun _ h => absurd h List.not_mem_nil⟩
theorem xn_ok_10 : ∀ e ∈ xNL_10, xn_G 10 e := fun _ h => absurd h List.not_mem_nil
theorem xa_ok_10 : ∀ e ∈ xAL_10, xa_G 10 e := fun _ h => absurd h List.not_mem_nil
theorem xk_ok_10 : ∀ e ∈ xKL_10, xk_G 10 e := fun _ h => absurd h List.not_mem_nil
theorem xf_ok_11 : ∀ e ∈ xFL_11, xf_G 11 e := List.forall_mem_cons.mpr ⟨List.forall_mem_cons.mpr ⟨⟨RX11, TX11, 16, rfl, by decide, mw_0, rfl, by decide +kernel, rfl⟩, fun _ h => absurd h List.not_mem_nil⟩, List.forall_mem_cons.mpr ⟨List.forall_mem_cons.mpr ⟨⟨RX11, TX11, 16, rfl, by decide, mw_1, rfl, by decide +kernel, rfl⟩, fun _ h => absurd h List.not_mem_nil⟩, List.forall_mem_cons.mpr ⟨List.forall_mem_cons.mpr ⟨⟨RX11, TX11, 16, rfl, by decide, mw_2, rfl, by decide +kernel, rfl⟩, fun _ h => absurd h List.not_mem_nil⟩, List.forall_mem_cons.mpr ⟨List.forall_mem_cons.mpr ⟨⟨RX11, TX11, 16, rfl, by decide, mw_3, rfl, by decide +kernel, rfl⟩, fun _ h => absurd h List.not_mem_nil⟩, List.forall_mem_cons.mpr ⟨List.forall_mem_cons.mpr ⟨⟨RX11, TX11, 16, rfl, by decide, mw_4, rfl, by decide +kernel, rfl⟩, fun _ h => absurd h List.not_mem_nil⟩, List.forall_mem_cons.mpr ⟨List.forall_mem_cons.mpr ⟨⟨RX11, TX11, 16, rfl, by decide, mw_5, rfl, by decide +kernel, rfl⟩, fun _ h => absurd h List.not_mem_nil⟩, List.forall_mem_cons.mpr ⟨List.forall_mem_cons.mpr ⟨⟨RX11, TX11, 16, rfl, by decide, mw_6, rfl, by decide +kernel, rfl⟩, fun _ h => absurd h List.not_mem_nil⟩, List.forall_mem_cons.mpr ⟨List.forall_mem_cons.mpr ⟨⟨RX11, TX11, 16, rfl, by decide, mw_7, rfl, by decide +kernel, rfl⟩, fun _ h => absurd h List.not_mem_nil⟩, List.forall_mem_cons.mpr ⟨List.forall_mem_cons.mpr ⟨⟨RX11, TX11, 16, rfl, by decide, mw_8, rfl, by decide +kernel, rfl⟩, fun _ h => absurd h List.not_mem_nil⟩, List.forall_mem_cons.mpr ⟨List.forall_mem_cons.mpr ⟨⟨RX11, TX11, 16, rfl, by decide, mw_9, rfl, by decide +kernel, rfl⟩, fun _ h => absurd h List.not_mem_nil⟩, List.forall_mem_cons.mpr ⟨List.forall_mem_cons.mpr ⟨⟨RX11, TX11, 16, rfl, by decide, mw_10, rfl, by decide +kernel, rfl⟩, fun _ h => absurd h List.not_mem_nil⟩, List.forall_mem_cons.mpr ⟨List.forall_mem_cons.mpr ⟨⟨RX11, TX11, 16, rfl, by decide, mw_11, rfl, by decide +kernel, rfl⟩, fun _ h => absurd h List.not_mem_nil⟩, List.forall_mem_cons.mpr ⟨List.forall_mem_cons.mpr ⟨⟨RX11, TX11, 16, rfl, by decide, mw_12, rfl, by decide +kernel, rfl⟩, fun _ h => absurd h List.not_mem_nil⟩, List.forall_mem_cons.mpr ⟨List.forall_mem_cons.mpr ⟨⟨RX11, TX11, 16, rfl, by decide, mw_13, rfl, by decide +kernel, rfl⟩, fun _ h => absurd h List.not_mem_nil⟩, List.forall_mem_cons.mpr ⟨List.forall_mem_cons.mpr ⟨⟨RX11, TX11, 16, rfl, by decide, mw_14, rfl, by decide +kernel, rfl⟩, fun _ h => absurd h List.not_mem_nil⟩, List.forall_mem_cons.mpr ⟨List.forall_mem_cons.mpr ⟨⟨RX11, TX11, 16, rfl, by decide, mw_15, rfl, by decide +kernel, rfl⟩, fun _ h => absurd h List.not_mem_nil⟩, fun _ h => absurd h List.not_mem_nil⟩⟩⟩⟩⟩⟩⟩⟩⟩⟩⟩⟩⟩⟩⟩⟩
theorem xc_ok_11 : ∀ e ∈ xCL_11, xc_G 11 e := List.forall_mem_cons.mpr ⟨⟨mw_241, mw_227, mw_228⟩, List.forall_mem_cons.mpr ⟨⟨_, rfl, xnw_3, mw_242, rfl, rfl⟩, List.forall_mem_cons.mpr ⟨⟨_, rfl, xnw_4, mw_243, rfl, rfl⟩, List.forall_mem_cons.mpr ⟨⟨_, rfl, mw_244, mw_245, rfl, rfl⟩, List.forall_mem_cons.mpr ⟨⟨_, rfl, xnw_5, mw_246, rfl, rfl⟩, List.forall_mem_cons.mpr ⟨⟨_, rfl, mw_247, mw_248⟩, List.forall_mem_cons.mpr ⟨⟨_, rfl, mw_249, mw_250, List.forall_mem_cons.mpr ⟨⟨RX2, TX2, 2, rfl, mw_251⟩, fun _ h => absurd h List.not_mem_nil⟩⟩, List.forall_mem_cons.mpr ⟨⟨_, rfl, mw_252, mw_253⟩, List.forall_mem_cons.mpr ⟨⟨_, rfl, mw_254, mw_255, List.forall_mem_cons.mpr ⟨⟨RX11, TX11, 16, rfl, mw_256⟩, fun _ h => absurd h List.not_mem_nil⟩⟩, List.forall_mem_cons.mpr ⟨⟨_, rfl, mw_257, mw_258, List.forall_mem_cons.mpr ⟨⟨RX0, TX0, 2, rfl, mw_259⟩, fun _ h => absurd h List.not_mem_nil⟩⟩, List.forall_mem_cons.mpr ⟨⟨_, rfl, mw_260, mw_261⟩, List.forall_mem_cons.mpr ⟨⟨_, rfl, mw_262, mw_263, List.forall_mem_cons.mpr ⟨⟨RX0, TX0, 2, rfl, mw_264⟩, fun _ h => absurd h List.not_mem_nil⟩⟩, List.forall_mem_cons.mpr ⟨⟨_, rfl, mw_265, mw_266, List.forall_mem_cons.mpr ⟨⟨RX0, TX0, 2, rfl, mw_267⟩, fun _ h => absurd h List.not_mem_nil⟩⟩, List.forall_mem_cons.mpr ⟨⟨_, rfl, mw_268, mw_269⟩, List.forall_mem_cons.mpr ⟨⟨_, rfl, mw_270, mw_271, List.forall_mem_cons.mpr ⟨⟨RX2, TX2, 2, rfl, mw_272⟩, fun _ h => absurd h List.not_mem_nil⟩⟩, List.forall_mem_cons.mpr ⟨⟨_, rfl, mw_273, mw_274, List.forall_mem_cons.mpr ⟨⟨RX8, TX8, 5, rfl, mw_275⟩, fun _ h => absurd h List.not_mem_nil⟩⟩, List.forall_mem_cons.mpr ⟨⟨_, rfl, mw_276, mw_277, List.forall_mem_cons.mpr ⟨⟨RX11, TX11, 16, rfl, mw_278⟩, fun _ h => absurd h List.not_mem_nil⟩⟩, List.forall_mem_cons.mpr ⟨⟨_, rfl, mw_279, mw_280, List.forall_mem_cons.mpr ⟨⟨RX2, TX2, 2, rfl, mw_281⟩, fun _ h => absurd h List.not_mem_nil⟩⟩, List.forall_mem_cons.mpr ⟨⟨_, rfl, mw_282, mw_238⟩, List.forall_mem_cons.mpr ⟨⟨_, rfl, mw_283, mw_284, List.forall_mem_cons.mpr ⟨⟨RX8, TX8, 5, rfl, mw_285⟩, fun _ h => absurd h List.not_mem_nil⟩⟩, List.forall_mem_cons.mpr ⟨⟨_, rfl, mw_286, mw_287, List.forall_mem_cons.mpr ⟨⟨RX8, TX8, 5, rfl, mw_288⟩, fun _ h => absurd h List.not_mem_nil⟩⟩, List.forall_mem_cons.mpr ⟨⟨_, rfl, mw_289, mw_290, List.forall_mem_cons.mpr ⟨⟨RX2, TX2, 2, rfl, mw_291⟩, fun _ h => absurd h List.not_mem_nil⟩⟩, List.forall_mem_cons.mpr ⟨⟨_, rfl, mw_292, mw_293, List.forall_mem_cons.mpr ⟨⟨RX2, TX2, 2, rfl, mw_294⟩, fun _ h => absurd h List.not_mem_nil⟩⟩, List.forall_mem_cons.mpr ⟨⟨_, rfl, mw_295, mw_296⟩, List.forall_mem_cons.mpr ⟨⟨_, rfl, mw_297, mw_298, List.forall_mem_cons.mpr ⟨⟨RX2, TX2, 2, rfl, mw_299⟩, fun _ h => absurd h List.not_mem_nil⟩⟩, List.forall_mem_cons.mpr ⟨⟨_, rfl, mw_300, mw_301⟩, List.forall_mem_cons.mpr ⟨⟨_, rfl, mw_302, mw_303⟩, List.forall_mem_cons.mpr ⟨⟨mw_304, mw_224, mw_221, mw_225⟩, List.forall_mem_cons.mpr ⟨⟨_, rfl, mw_305, mw_306, List.forall_mem_cons.mpr ⟨⟨RX11, TX11, 16, rfl, mw_307⟩, fun _ h => absurd h List.not_mem_nil⟩⟩, List.forall_mem_cons.mpr ⟨⟨_, rfl, mw_308, mw_309⟩, List.forall_mem_cons.mpr ⟨⟨_, rfl, mw_310, mw_311, List.forall_mem_cons.mpr ⟨⟨RX11, TX11, 16, rfl, mw_312⟩, fun _ h => absurd h List.not_mem_nil⟩⟩, List.forall_mem_cons.mpr ⟨⟨_, rfl, mw_313, mw_314, List.forall_mem_cons.mpr ⟨⟨RX11, TX11, 16, rfl, mw_315⟩, fun _ h => absurd h List.not_mem_nil⟩⟩, List.forall_mem_cons.mpr ⟨⟨_, rfl, mw_316, mw_317⟩, List.forall_mem_cons.mpr ⟨⟨_, rfl, mw_318, mw_235, rfl, rfl⟩, List.forall_mem_cons.mpr ⟨⟨_, rfl, mw_319, mw_231, rfl, rfl⟩, List.forall_mem_cons.mpr ⟨⟨_, rfl, mw_320, mw_321, rfl, rfl⟩, List.forall_mem_cons.mpr ⟨⟨_, rfl, mw_322, mw_323, rfl, rfl⟩, List.forall_mem_cons.mpr ⟨⟨_, rfl, mw_324, mw_325, rfl, rfl⟩, List.forall_mem_cons.mpr ⟨⟨_, rfl, mw_326, mw_233, rfl, rfl⟩, fun _ h => absurd h List.not_mem_nil⟩⟩⟩⟩⟩⟩⟩⟩⟩⟩⟩⟩⟩⟩⟩⟩⟩⟩⟩⟩⟩⟩⟩⟩⟩⟩⟩⟩⟩⟩⟩⟩⟩⟩⟩⟩⟩⟩⟩
theorem xn_ok_11 : ∀ e ∈ xNL_11, xn_G 11 e := List.forall_mem_cons.mpr ⟨⟨RX0, TX0, 2, tyX0, rfl, mw_631, mw_638, mw_65, tyX0_ok, by decide +kernel, rfl⟩, List.forall_mem_cons.mpr ⟨⟨RX7, TX7, 2, tyX7, rfl, mw_632, mw_639, mw_88, tyX7_ok, by decide +kernel, rfl⟩, List.forall_mem_cons.mpr ⟨⟨RX2, TX2, 2, tyX2, rfl, mw_633, mw_640, mw_72, tyX2_ok, by decide +kernel, rfl⟩, List.forall_mem_cons.mpr ⟨⟨RX8, TX8, 5, tyX8, rfl, mw_641, mw_642, mw_90, tyX8_ok, by decide +kernel, rfl⟩, List.forall_mem_cons.mpr ⟨⟨RX1, TX1, 5, tyX1, rfl, mw_643, mw_644, mw_70, tyX1_ok, by decide +kernel, rfl⟩, List.forall_mem_cons.mpr ⟨⟨RX6, TX6, 2, tyX6, rfl, mw_645, mw_646, mw_86, tyX6_ok, by decide +kernel, rfl⟩, List.forall_mem_cons.mpr ⟨⟨RX5, TX5, 2, tyX5, rfl, mw_647, mw_648, mw_84, tyX5_ok, by decide +kernel, rfl⟩, List.forall_mem_cons.mpr ⟨⟨RX9, TX9, 2, tyX9, rfl, mw_649, mw_650, mw_95, tyX9_ok, by decide +kernel, rfl⟩, List.forall_mem_cons.mpr ⟨⟨RX10, TX10, 2, tyX10, rfl, mw_651, mw_652, mw_97, tyX10_ok, by decide +kernel, rfl⟩, List.forall_mem_cons.mpr ⟨⟨RX4, TX4, 2, tyX4, rfl, mw_653, mw_654, mw_82, tyX4_ok, by decide +kernel, rfl⟩, fun _ h => absurd h List.not_mem_nil⟩⟩⟩⟩⟩⟩⟩⟩⟩⟩
theorem xa_ok_11 : ∀ e ∈ xAL_11, xa_G 11 e := List.forall_mem_cons.mpr ⟨⟨_, rfl, mw_631⟩, List.forall_mem_cons.mpr ⟨⟨_, rfl, mw_632⟩, List.forall_mem_cons.mpr ⟨⟨_, rfl, mw_633⟩, fun _ h => absurd h List.not_mem_nil⟩⟩⟩
theorem xk_ok_11 : ∀ e ∈ xKL_11, xk_G 11 e := List.forall_mem_cons.mpr ⟨mw_655, List.forall_mem_cons.mpr ⟨mw_657, List.forall_mem_cons.mpr ⟨mw_658, List.forall_mem_cons.mpr ⟨mw_659, List.forall_mem_cons.mpr ⟨mw_660, List.forall_mem_cons.mpr ⟨mw_666, List.forall_mem_cons.mpr ⟨mw_667, fun _ h => absurd h List.not_mem_nil⟩⟩⟩⟩⟩⟩⟩
theorem xf_ok_12 : ∀ e ∈ xFL_12, xf_G 12 e := List.forall_mem_cons.mpr ⟨List.forall_mem_cons.mpr ⟨⟨RX12, TX12, 32, rfl, by decide, mw_32, rfl, by decide +kernel, rfl⟩, fun _ h => absurd h List.not_mem_nil⟩, List.forall_mem_cons.mpr ⟨List.forall_mem_cons.mpr ⟨⟨RX12, TX12, 32, rfl, by decide, mw_33, rfl, by decide +kernel, rfl⟩, fun _ h => absurd h List.not_mem_nil⟩, List.forall_mem_cons.mpr ⟨List.forall_mem_cons.mpr ⟨⟨RX12, TX12, 32, rfl, by decide, mw_34, rfl, by decide +kernel, rfl⟩, fun _ h => absurd h List.not_mem_nil⟩, List.forall_mem_cons.mpr ⟨List.forall_mem_cons.mpr ⟨⟨RX12, TX12, 32, rfl, by decide, mw_35, rfl, by decide +kernel, rfl⟩, fun _ h => absurd h List.not_mem_nil⟩, List.forall_mem_cons.mpr ⟨List.forall_mem_cons.mpr ⟨⟨RX12, TX12, 32, rfl, by decide, mw_36, rfl, by decide +kernel, rfl⟩, fun _ h => absurd h List.not_mem_nil⟩, List.forall_mem_cons.mpr ⟨List.forall_mem_cons.mpr ⟨⟨RX12, TX12, 32, rfl, by decide, mw_37, rfl, by decide +kernel, rfl⟩, fun _ h => absurd h List.not_mem_nil⟩, List.forall_mem_cons.mpr ⟨List.forall_mem_cons.mpr ⟨⟨RX12, TX12, 32, rfl, by decide, mw_38, rfl, by decide +kernel, rfl⟩, fun _ h => absurd h List.not_mem_nil⟩, List.forall_mem_cons.mpr ⟨List.forall_mem_cons.mpr ⟨⟨RX12, TX12, 32, rfl, by decide, mw_39, rfl, by decide +kernel, rfl⟩, fun _ h => absurd h List.not_mem_nil⟩, List.forall_mem_cons.mpr ⟨List.forall_mem_cons.mpr ⟨⟨RX12, TX12, 32, rfl, by decide, mw_40, rfl, by decide +kernel, rfl⟩, fun _ h => absurd h List.not_mem_nil⟩, List.forall_mem_cons.mpr ⟨List.forall_mem_cons.mpr ⟨⟨RX12, TX12, 32, rfl, by decide, mw_41, rfl, by decide +kernel, rfl⟩, fun _ h => absurd h List.not_mem_nil⟩, List.forall_mem_cons.mpr ⟨List.forall_mem_cons.mpr ⟨⟨RX12, TX12, 32, rfl, by decide, mw_42, rfl, by decide +kernel, rfl⟩, fun _ h => absurd h List.not_mem_nil⟩, List.forall_mem_cons.mpr ⟨List.forall_mem_cons.mpr ⟨⟨RX12, TX12, 32, rfl, by decide, mw_43, rfl, by decide +kernel, rfl⟩, fun _ h => absurd h List.not_mem_nil⟩, List.forall_mem_cons.mpr ⟨List.forall_mem_cons.mpr ⟨⟨RX12, TX12, 32, rfl, by decide, mw_44, rfl, by decide +kernel, rfl⟩, fun _ h => absurd h List.not_mem_nil⟩, List.forall_mem_cons.mpr ⟨List.forall_mem_cons.mpr ⟨⟨RX12, TX12, 32, rfl, by decide, mw_45, rfl, by decide +kernel, rfl⟩, fun _ h => absurd h List.not_mem_nil⟩, List.forall_mem_cons.mpr ⟨List.forall_mem_cons.mpr ⟨⟨RX12, TX12, 32, rfl, by decide, mw_46, rfl, by decide +kernel, rfl⟩, fun _ h => absurd h List.not_mem_nil⟩, List.forall_mem_cons.mpr ⟨List.forall_mem_cons.mpr ⟨⟨RX12, TX12, 32, rfl, by decide, mw_47, rfl, by decide +kernel, rfl⟩, fun _ h => absurd h List.not_mem_nil⟩, List.forall_mem_cons.mpr ⟨List.forall_mem_cons.mpr ⟨⟨RX12, TX12, 32, rfl, by decide, mw_48, rfl, by decide +kernel, rfl⟩, fun _ h => absurd h List.not_mem_nil⟩, List.forall_mem_cons.mpr ⟨List.forall_mem_cons.mpr ⟨⟨RX12, TX12, 32, rfl, by decide, mw_49, rfl, by decide +kernel, rfl⟩, fun _ h => absurd h List.not_mem_nil⟩, List.forall_mem_cons.mpr ⟨List.forall_mem_cons.mpr ⟨⟨RX12, TX12, 32, rfl, by decide, mw_50, rfl, by decide +kernel, rfl⟩, fun _ h => absurd h List.not_mem_nil⟩, List.forall_mem_cons.mpr ⟨List.forall_mem_cons.mpr ⟨⟨RX12, TX12, 32, rfl, by decide, mw_51, rfl, by decide +kernel, rfl⟩, fun _ h => absurd h List.not_mem_nil⟩, List.forall_mem_cons.mpr ⟨List.forall_mem_cons.mpr ⟨⟨RX12, TX12, 32, rfl, by decide, mw_52, rfl, by decide +kernel, rfl⟩, fun _ h => absurd h List.not_mem_nil⟩, List.forall_mem_cons.mpr ⟨List.forall_mem_cons.mpr ⟨⟨RX12, TX12, 32, rfl, by decide, mw_53, rfl, by decide +kernel, rfl⟩, fun _ h => absurd h List.not_mem_nil⟩, List.forall_mem_cons.mpr ⟨List.forall_mem_cons.mpr ⟨⟨RX12, TX12, 32, rfl, by decide, mw_54, rfl, by decide +kernel, rfl⟩, fun _ h => absurd h List.not_mem_nil⟩, List.forall_mem_cons.mpr ⟨List.forall_mem_cons.mpr ⟨⟨RX12, TX12, 32, rfl, by decide, mw_55, rfl, by decide +kernel, rfl⟩, fun _ h => absurd h List.not_mem_nil⟩, List.forall_mem_cons.mpr ⟨List.forall_mem_cons.mpr ⟨⟨RX12, TX12, 32, rfl, by decide, mw_56, rfl, by decide +kernel, rfl⟩, fun _ h => absurd h List.not_mem_nil⟩, List.forall_mem_cons.mpr ⟨List.forall_mem_cons.mpr ⟨⟨RX12, TX12, 32, rfl, by decide, mw_57, rfl, by decide +kernel, rfl⟩, fun _ h => absurd h List.not_mem_nil⟩, List.forall_mem_cons.mpr ⟨List.forall_mem_cons.mpr ⟨⟨RX12, TX12, 32, rfl, by decide, mw_58, rfl, by decide +kernel, rfl⟩, fun _ h => absurd h List.not_mem_nil⟩, List.forall_mem_cons.mpr ⟨List.forall_mem_cons.mpr ⟨⟨RX12, TX12, 32, rfl, by decide, mw_59, rfl, by decide +kernel, rfl⟩, fun _ h => absurd h List.not_mem_nil⟩, List.forall_mem_cons.mpr ⟨List.forall_mem_cons.mpr ⟨⟨RX12, TX12, 32, rfl, by decide, mw_60, rfl, by decide +kernel, rfl⟩, fun _ h => absurd h List.not_mem_nil⟩, List.forall_mem_cons.mpr ⟨List.forall_mem_cons.mpr ⟨⟨RX12, TX12, 32, rfl, by decide, mw_61, rfl, by decide +kernel, rfl⟩, fun _ h => absurd h List.not_mem_nil⟩, List.forall_mem_cons.mpr ⟨List.forall_mem_cons.mpr ⟨⟨RX12, TX12, 32, rfl, by decide, mw_62, rfl, by decide +kernel, rfl⟩, fun _ h => absurd h List.not_mem_nil⟩, List.forall_mem_cons.mpr ⟨List.forall_mem_cons.mpr ⟨⟨RX12, TX12, 32, rfl, by decide, mw_63, rfl, by decide +kernel, rfl⟩, fun _ h => absurd h List.not_mem_nil⟩, fun _ h => absurd h List.not_mem_nil⟩⟩⟩⟩⟩⟩⟩⟩⟩⟩⟩⟩⟩⟩⟩⟩⟩⟩⟩⟩⟩⟩⟩⟩⟩⟩⟩⟩⟩⟩⟩⟩
theorem xc_ok_12 : ∀ e ∈ xCL_12, xc_G 12 e := List.forall_mem_cons.mpr ⟨⟨mw_327, mw_227, mw_228⟩, List.forall_mem_cons.mpr ⟨⟨_, rfl, mw_328, mw_329⟩, List.forall_mem_cons.mpr ⟨⟨_, rfl, mw_330, mw_331⟩, List.forall_mem_cons.mpr ⟨⟨_, rfl, mw_332, mw_333, List.forall_mem_cons.mpr ⟨⟨RX12, TX12, 32, rfl, mw_334⟩, fun _ h => absurd h List.not_mem_nil⟩⟩, List.forall_mem_cons.mpr ⟨⟨_, rfl, mw_335, mw_336, List.forall_mem_cons.mpr ⟨⟨RX12, TX12, 32, rfl, mw_337⟩, fun _ h => absurd h List.not_mem_nil⟩⟩, List.forall_mem_cons.mpr ⟨⟨_, rfl, mw_338, mw_339⟩, List.forall_mem_cons.mpr ⟨⟨_, rfl, mw_340, mw_341, List.forall_mem_cons.mpr ⟨⟨RX12, TX12, 32, rfl, mw_342⟩, fun _ h => absurd h List.not_mem_nil⟩⟩, List.forall_mem_cons.mpr ⟨⟨_, rfl, mw_343, mw_344⟩, List.forall_mem_cons.mpr ⟨⟨_, rfl, mw_345, mw_346, List.forall_mem_cons.mpr ⟨⟨RX12, TX12, 32, rfl, mw_347⟩, fun _ h => absurd h List.not_mem_nil⟩⟩, List.forall_mem_cons.mpr ⟨⟨_, rfl, mw_348, mw_349, List.forall_mem_cons.mpr ⟨⟨RX12, TX12, 32, rfl, mw_350⟩, fun _ h => absurd h List.not_mem_nil⟩⟩, List.forall_mem_cons.mpr ⟨⟨_, rfl, mw_351, mw_352, List.forall_mem_cons.mpr ⟨⟨RX12, TX12, 32, rfl, mw_353⟩, fun _ h => absurd h List.not_mem_nil⟩⟩, List.forall_mem_cons.mpr ⟨⟨_, rfl, mw_354, mw_355, List.forall_mem_cons.mpr ⟨⟨RX12, TX12, 32, rfl, mw_356⟩, fun _ h => absurd h List.not_mem_nil⟩⟩, List.forall_mem_cons.mpr ⟨⟨_, rfl, mw_357, mw_358⟩, List.forall_mem_cons.mpr ⟨⟨_, rfl, mw_359, mw_360, List.forall_mem_cons.mpr ⟨⟨RX12, TX12, 32, rfl, mw_361⟩, fun _ h => absurd h List.not_mem_nil⟩⟩, List.forall_mem_cons.mpr ⟨⟨_, rfl, mw_362, mw_363, List.forall_mem_cons.mpr ⟨⟨RX12, TX12, 32, rfl, mw_364⟩, fun _ h => absurd h List.not_mem_nil⟩⟩, fun _ h => absurd h List.not_mem_nil⟩⟩⟩⟩⟩⟩⟩⟩⟩⟩⟩⟩⟩⟩⟩
theorem xn_ok_12 : ∀ e ∈ xNL_12, xn_G 12 e := fun _ h => absurd h List.not_mem_nil
theorem xa_ok_12 : ∀ e ∈ xAL_12, xa_G 12 e := fun _ h => absurd h List.not_mem_nil
theorem xk_ok_12 : ∀ e ∈ xKL_12, xk_G 12 e := List.forall_mem_cons.mpr ⟨mw_656, List.forall_mem_cons.mpr ⟨mw_661, List.forall_mem_cons.mpr ⟨mw_662, List.forall_mem_cons.mpr ⟨mw_663, List.forall_mem_cons.mpr ⟨mw_664, List.forall_mem_cons.mpr ⟨mw_665, List.forall_mem_cons.mpr ⟨mw_668, List.forall_mem_cons.mpr ⟨mw_669, fun _ h => absurd h List.not_mem_nil⟩⟩⟩⟩⟩⟩⟩⟩
theorem xf_ok_13 : ∀ e ∈ xFL_13, xf_G 13 e := fun _ h => absurd h List.not_mem_nil
theorem xc_ok_13 : ∀ e ∈ xCL_13, xc_G 13 e := List.forall_mem_cons.mpr ⟨⟨_, rfl, mw_365, mw_366, rfl, rfl⟩, List.forall_mem_cons.mpr ⟨⟨_, rfl, mw_367, mw_368, rfl, rfl⟩, List.forall_mem_cons.mpr ⟨⟨_, rfl, mw_369, mw_370, List.forall_mem_cons.mpr ⟨⟨RX11, TX11, 16, rfl, mw_371⟩, fun _ h => absurd h List.not_mem_nil⟩⟩, List.forall_mem_cons.mpr ⟨⟨_, rfl, mw_372, mw_373, List.forall_mem_cons.mpr ⟨⟨RX12, TX12, 32, rfl, mw_374⟩, fun _ h => absurd h List.not_mem_nil⟩⟩, List.forall_mem_cons.mpr ⟨⟨_, rfl, mw_375, mw_376, List.forall_mem_cons.mpr ⟨⟨RX11, TX11, 16, rfl, mw_377⟩, fun _ h => absurd h List.not_mem_nil⟩⟩, List.forall_mem_cons.mpr ⟨⟨_, rfl, mw_378, mw_379, List.forall_mem_cons.mpr ⟨⟨RX12, TX12, 32, rfl, mw_380⟩, fun _ h => absurd h List.not_mem_nil⟩⟩, List.forall_mem_cons.mpr ⟨⟨_, rfl, mw_381, mw_382, List.forall_mem_cons.mpr ⟨⟨RX11, TX11, 16, rfl, mw_383⟩, fun _ h => absurd h List.not_mem_nil⟩⟩, List.forall_mem_cons.mpr ⟨⟨_, rfl, mw_384, mw_385, List.forall_mem_cons.mpr ⟨⟨RX12, TX12, 32, rfl, mw_386⟩, fun _ h => absurd h List.not_mem_nil⟩⟩, List.forall_mem_cons.mpr ⟨⟨_, rfl, mw_387, mw_388, List.forall_mem_cons.mpr ⟨⟨RX11, TX11, 16, rfl, mw_389⟩, fun _ h => absurd h List.not_mem_nil⟩⟩, List.forall_mem_cons.mpr ⟨⟨_, rfl, mw_390, mw_391, List.forall_mem_cons.mpr ⟨⟨RX12, TX12, 32, rfl, mw_392⟩, fun _ h => absurd h List.not_mem_nil⟩⟩, List.forall_mem_cons.mpr ⟨⟨_, rfl, mw_393, mw_394, List.forall_mem_cons.mpr ⟨⟨RX11, TX11, 16, rfl, mw_395⟩, fun _ h => absurd h List.not_mem_nil⟩⟩, List.forall_mem_cons.mpr ⟨⟨_, rfl, mw_396, mw_397, List.forall_mem_cons.mpr ⟨⟨RX12, TX12, 32, rfl, mw_398⟩, fun _ h => absurd h List.not_mem_nil⟩⟩, List.forall_mem_cons.mpr ⟨⟨_, rfl, mw_399, mw_400, List.forall_mem_cons.mpr ⟨⟨RX11, TX11, 16, rfl, mw_401⟩, fun _ h => absurd h List.not_mem_nil⟩⟩, List.forall_mem_cons.mpr ⟨⟨_, rfl, mw_402, mw_403, List.forall_mem_cons.mpr ⟨⟨RX12, TX12, 32, rfl, mw_404⟩, fun _ h => absurd h List.not_mem_nil⟩⟩, List.forall_mem_cons.mpr ⟨⟨_, rfl, mw_405, mw_406, List.forall_mem_cons.mpr ⟨⟨RX11, TX11, 16, rfl, mw_407⟩, fun _ h => absurd h List.not_mem_nil⟩⟩, List.forall_mem_cons.mpr ⟨⟨_, rfl, mw_408, mw_409, List.forall_mem_cons.mpr ⟨⟨RX12, TX12, 32, rfl, mw_410⟩, fun _ h => absurd h List.not_mem_nil⟩⟩, List.forall_mem_cons.mpr ⟨⟨_, rfl, mw_411, mw_412, List.forall_mem_cons.mpr ⟨⟨RX11, TX11, 16, rfl, mw_413⟩, fun _ h => absurd h List.not_mem_nil⟩⟩, List.forall_mem_cons.mpr ⟨⟨_, rfl, mw_414, mw_415, List.forall_mem_cons.mpr ⟨⟨RX12, TX12, 32, rfl, mw_416⟩, fun _ h => absurd h List.not_mem_nil⟩⟩, List.forall_mem_cons.mpr ⟨⟨_, rfl, mw_417, mw_418, List.forall_mem_cons.mpr ⟨⟨RX11, TX11, 16, rfl, mw_419⟩, fun _ h => absurd h List.not_mem_nil⟩⟩, List.forall_mem_cons.mpr ⟨⟨_, rfl, mw_420, mw_421, List.forall_mem_cons.mpr ⟨⟨RX12, TX12, 32, rfl, mw_422⟩, fun _ h => absurd h List.not_mem_nil⟩⟩, List.forall_mem_cons.mpr ⟨⟨_, rfl, mw_423, mw_424, List.forall_mem_cons.mpr ⟨⟨RX11, TX11, 16, rfl, mw_425⟩, fun _ h => absurd h List.not_mem_nil⟩⟩, List.forall_mem_cons.mpr ⟨⟨_, rfl, mw_426, mw_427, List.forall_mem_cons.mpr ⟨⟨RX12, TX12, 32, rfl, mw_428⟩, fun _ h => absurd h List.not_mem_nil⟩⟩, List.forall_mem_cons.mpr ⟨⟨_, rfl, mw_429, mw_430, List.forall_mem_cons.mpr ⟨⟨RX11, TX11, 16, rfl, mw_431⟩, fun _ h => absurd h List.not_mem_nil⟩⟩, List.forall_mem_cons.mpr ⟨⟨_, rfl, mw_432, mw_433, List.forall_mem_cons.mpr ⟨⟨RX12, TX12, 32, rfl, mw_434⟩, fun _ h => absurd h List.not_mem_nil⟩⟩, List.forall_mem_cons.mpr ⟨⟨_, rfl, mw_435, mw_436, List.forall_mem_cons.mpr ⟨⟨RX11, TX11, 16, rfl, mw_437⟩, fun _ h => absurd h List.not_mem_nil⟩⟩, List.forall_mem_cons.mpr ⟨⟨_, rfl, mw_438, mw_439, List.forall_mem_cons.mpr ⟨⟨RX12, TX12, 32, rfl, mw_440⟩, fun _ h => absurd h List.not_mem_nil⟩⟩, List.forall_mem_cons.mpr ⟨⟨_, rfl, mw_441, mw_442, List.forall_mem_cons.mpr ⟨⟨RX11, TX11, 16, rfl, mw_443⟩, fun _ h => absurd h List.not_mem_nil⟩⟩, List.forall_mem_cons.mpr ⟨⟨_, rfl, mw_444, mw_445, List.forall_mem_cons.mpr ⟨⟨RX12, TX12, 32, rfl, mw_446⟩, fun _ h => absurd h List.not_mem_nil⟩⟩, List.forall_mem_cons.mpr ⟨⟨_, rfl, mw_447, mw_448, List.forall_mem_cons.mpr ⟨⟨RX11, TX11, 16, rfl, mw_449⟩, fun _ h => absurd h List.not_mem_nil⟩⟩, List.forall_mem_cons.mpr ⟨⟨_, rfl, mw_450, mw_451, List.forall_mem_cons.mpr ⟨⟨RX12, TX12, 32, rfl, mw_452⟩, fun _ h => absurd h List.not_mem_nil⟩⟩, List.forall_mem_cons.mpr ⟨⟨_, rfl, mw_453, mw_454, List.forall_mem_cons.mpr ⟨⟨RX11, TX11, 16, rfl, mw_455⟩, fun _ h => absurd h List.not_mem_nil⟩⟩, List.forall_mem_cons.mpr ⟨⟨_, rfl, mw_456, mw_457, List.forall_mem_cons.mpr ⟨⟨RX12, TX12, 32, rfl, mw_458⟩, fun _ h => absurd h List.not_mem_nil⟩⟩, List.forall_mem_cons.mpr ⟨⟨_, rfl, mw_459, mw_460, List.forall_mem_cons.mpr ⟨⟨RX11, TX11, 16, rfl, mw_461⟩, fun _ h => absurd h List.not_mem_nil⟩⟩, List.forall_mem_cons.mpr ⟨⟨_, rfl, mw_462, mw_463, List.forall_mem_cons.mpr ⟨⟨RX12, TX12, 32, rfl, mw_464⟩, fun _ h => absurd h List.not_mem_nil⟩⟩, List.forall_mem_cons.mpr ⟨⟨_, rfl, mw_465, mw_466, List.forall_mem_cons.mpr ⟨⟨RX11, TX11, 16, rfl, mw_467⟩, fun _ h => absurd h List.not_mem_nil⟩⟩, List.forall_mem_cons.mpr ⟨⟨_, rfl, mw_468, mw_469, List.forall_mem_cons.mpr ⟨⟨RX12, TX12, 32, rfl, mw_470⟩, fun _ h => absurd h List.not_mem_nil⟩⟩, List.forall_mem_cons.mpr ⟨⟨_, rfl, mw_471, mw_472, List.forall_mem_cons.mpr ⟨⟨RX11, TX11, 16, rfl, mw_473⟩, fun _ h => absurd h List.not_mem_nil⟩⟩, List.forall_mem_cons.mpr ⟨⟨_, rfl, mw_474, mw_475, List.forall_mem_cons.mpr ⟨⟨RX12, TX12, 32, rfl, mw_476⟩, fun _ h => absurd h List.not_mem_nil⟩⟩, List.forall_mem_cons.mpr ⟨⟨_, rfl, mw_477, mw_478, List.forall_mem_cons.mpr ⟨⟨RX11, TX11, 16, rfl, mw_479⟩, fun _ h => absurd h List.not_mem_nil⟩⟩, List.forall_mem_cons.mpr ⟨⟨_, rfl, mw_480, mw_481, List.forall_mem_cons.mpr ⟨⟨RX12, TX12, 32, rfl, mw_482⟩, fun _ h => absurd h List.not_mem_nil⟩⟩, List.forall_mem_cons.mpr ⟨⟨_, rfl, mw_483, mw_484, List.forall_mem_cons.mpr ⟨⟨RX11, TX11, 16, rfl, mw_485⟩, fun _ h => absurd h List.not_mem_nil⟩⟩, List.forall_mem_cons.mpr ⟨⟨_, rfl, mw_486, mw_487, List.forall_mem_cons.mpr ⟨⟨RX12, TX12, 32, rfl, mw_488⟩, fun _ h => absurd h List.not_mem_nil⟩⟩, List.forall_mem_cons.mpr ⟨⟨_, rfl, mw_489, mw_490, List.forall_mem_cons.mpr ⟨⟨RX11, TX11, 16, rfl, mw_491⟩, fun _ h => absurd h List.not_mem_nil⟩⟩, List.forall_mem_cons.mpr ⟨⟨_, rfl, mw_492, mw_493, List.forall_mem_cons.mpr ⟨⟨RX12, TX12, 32, rfl, mw_494⟩, fun _ h => absurd h List.not_mem_nil⟩⟩, List.forall_mem_cons.mpr ⟨⟨_, rfl, mw_495, mw_496, List.forall_mem_cons.mpr ⟨⟨RX11, TX11, 16, rfl, mw_497⟩, fun _ h => absurd h List.not_mem_nil⟩⟩, List.forall_mem_cons.mpr ⟨⟨_, rfl, mw_498, mw_499, List.forall_mem_cons.mpr ⟨⟨RX12, TX12, 32, rfl, mw_500⟩, fun _ h => absurd h List.not_mem_nil⟩⟩, List.forall_mem_cons.mpr ⟨⟨_, rfl, mw_501, mw_502, List.forall_mem_cons.mpr ⟨⟨RX11, TX11, 16, rfl, mw_503⟩, fun _ h => absurd h List.not_mem_nil⟩⟩, List.forall_mem_cons.mpr ⟨⟨_, rfl, mw_504, mw_505, List.forall_mem_cons.mpr ⟨⟨RX12, TX12, 32, rfl, mw_506⟩, fun _ h => absurd h List.not_mem_nil⟩⟩, List.forall_mem_cons.mpr ⟨⟨_, rfl, mw_507, mw_508, List.forall_mem_cons.mpr ⟨⟨RX11, TX11, 16, rfl, mw_509⟩, fun _ h => absurd h List.not_mem_nil⟩⟩, List.forall_mem_cons.mpr ⟨⟨_, rfl, mw_510, mw_511, List.forall_mem_cons.mpr ⟨⟨RX12, TX12, 32, rfl, mw_512⟩, fun _ h => absurd h List.not_mem_nil⟩⟩, List.forall_mem_cons.mpr ⟨⟨_, rfl, mw_513, mw_514, List.forall_mem_cons.mpr ⟨⟨RX11, TX11, 16, rfl, mw_515⟩, fun _ h => absurd h List.not_mem_nil⟩⟩, List.forall_mem_cons.mpr ⟨⟨_, rfl, mw_516, mw_517, List.forall_mem_cons.mpr ⟨⟨RX12, TX12, 32, rfl, mw_518⟩, fun _ h => absurd h List.not_mem_nil⟩⟩, List.forall_mem_cons.mpr ⟨⟨_, rfl, mw_519, mw_520, List.forall_mem_cons.mpr ⟨⟨RX11, TX11, 16, rfl, mw_521⟩, fun _ h => absurd h List.not_mem_nil⟩⟩, List.forall_mem_cons.mpr ⟨⟨_, rfl, mw_522, mw_523, List.forall_mem_cons.mpr ⟨⟨RX12, TX12, 32, rfl, mw_524⟩, fun _ h => absurd h List.not_mem_nil⟩⟩, List.forall_mem_cons.mpr ⟨⟨_, rfl, mw_525, mw_526, List.forall_mem_cons.mpr ⟨⟨RX11, TX11, 16, rfl, mw_527⟩, fun _ h => absurd h List.not_mem_nil⟩⟩, List.forall_mem_cons.mpr ⟨⟨_, rfl, mw_528, mw_529, List.forall_mem_cons.mpr ⟨⟨RX12, TX12, 32, rfl, mw_530⟩, fun _ h => absurd h List.not_mem_nil⟩⟩, List.forall_mem_cons.mpr ⟨⟨_, rfl, mw_531, mw_532, List.forall_mem_cons.mpr ⟨⟨RX11, TX11, 16, rfl, mw_533⟩, fun _ h => absurd h List.not_mem_nil⟩⟩, List.forall_mem_cons.mpr ⟨⟨_, rfl, mw_534, mw_535, List.forall_mem_cons.mpr ⟨⟨RX12, TX12, 32, rfl, mw_536⟩, fun _ h => absurd h List.not_mem_nil⟩⟩, List.forall_mem_cons.mpr ⟨⟨_, rfl, mw_537, mw_538, List.forall_mem_cons.mpr ⟨⟨RX11, TX11, 16, rfl, mw_539⟩, fun _ h => absurd h List.not_mem_nil⟩⟩, List.forall_mem_cons.mpr ⟨⟨_, rfl, mw_540, mw_541, List.forall_mem_cons.mpr ⟨⟨RX12, TX12, 32, rfl, mw_542⟩, fun _ h => absurd h List.not_mem_nil⟩⟩, List.forall_mem_cons.mpr ⟨⟨_, rfl, mw_543, mw_544, List.forall_mem_cons.mpr ⟨⟨RX11, TX11, 16, rfl, mw_545⟩, fun _ h => absurd h List.not_mem_nil⟩⟩, List.forall_mem_cons.mpr ⟨⟨_, rfl, mw_546, mw_547, List.forall_mem_cons.mpr ⟨⟨RX12, TX12, 32, rfl, mw_548⟩, fun _ h => absurd h List.not_mem_nil⟩⟩, List.forall_mem_cons.mpr ⟨⟨_, rfl, mw_549, mw_550, List.forall_mem_cons.mpr ⟨⟨RX11, TX11, 16, rfl, mw_551⟩, fun _ h => absurd h List.not_mem_nil⟩⟩, List.forall_mem_cons.mpr ⟨⟨_, rfl, mw_552, mw_553, List.forall_mem_cons.mpr ⟨⟨RX12, TX12, 32, rfl, mw_554⟩, fun _ h => absurd h List.not_mem_nil⟩⟩, List.forall_mem_cons.mpr ⟨⟨_, rfl, mw_555, mw_556, List.forall_mem_cons.mpr ⟨⟨RX11, TX11, 16, rfl, mw_557⟩, fun _ h => absurd h List.not_mem_nil⟩⟩, List.forall_mem_cons.mpr ⟨⟨_, rfl, mw_558, mw_559, List.forall_mem_cons.mpr ⟨⟨RX12, TX12, 32, rfl, mw_560⟩, fun _ h => absurd h List.not_mem_nil⟩⟩, List.forall_mem_cons.mpr ⟨⟨_, rfl, mw_561, mw_562, List.forall_mem_cons.mpr ⟨⟨RX11, TX11, 16, rfl, mw_563⟩, fun _ h => absurd h List.not_mem_nil⟩⟩, List.forall_mem_cons.mpr ⟨⟨_, rfl, mw_564, mw_565, List.forall_mem_cons.mpr ⟨⟨RX12, TX12, 32, rfl, mw_566⟩, fun _ h => absurd h List.not_mem_nil⟩⟩, List.forall_mem_cons.mpr ⟨⟨_, rfl, mw_567, mw_568, List.forall_mem_cons.mpr ⟨⟨RX11, TX11, 16, rfl, mw_569⟩, fun _ h => absurd h List.not_mem_nil⟩⟩, List.forall_mem_cons.mpr ⟨⟨_, rfl, mw_570, mw_571, List.forall_mem_cons.mpr ⟨⟨RX12, TX12, 32, rfl, mw_572⟩, fun _ h => absurd h List.not_mem_nil⟩⟩, List.forall_mem_cons.mpr ⟨⟨_, rfl, mw_573, mw_574, List.forall_mem_cons.mpr ⟨⟨RX11, TX11, 16, rfl, mw_575⟩, fun _ h => absurd h List.not_mem_nil⟩⟩, List.forall_mem_cons.mpr ⟨⟨_, rfl, mw_576, mw_577, List.forall_mem_cons.mpr ⟨⟨RX12, TX12, 32, rfl, mw_578⟩, fun _ h => absurd h List.not_mem_nil⟩⟩, List.forall_mem_cons.mpr ⟨⟨_, rfl, mw_579, mw_580, List.forall_mem_cons.mpr ⟨⟨RX11, TX11, 16, rfl, mw_581⟩, fun _ h => absurd h List.not_mem_nil⟩⟩, List.forall_mem_cons.mpr ⟨⟨_, rfl, mw_582, mw_583, List.forall_mem_cons.mpr ⟨⟨RX12, TX12, 32, rfl, mw_584⟩, fun _ h => absurd h List.not_mem_nil⟩⟩, List.forall_mem_cons.mpr ⟨⟨_, rfl, mw_585, mw_586, List.forall_mem_cons.mpr ⟨⟨RX11, TX11, 16, rfl, mw_587⟩, fun _ h => absurd h List.not_mem_nil⟩⟩, List.forall_mem_cons.mpr ⟨⟨_, rfl, mw_588, mw_589, List.forall_mem_cons.mpr ⟨⟨RX12, TX12, 32, rfl, mw_590⟩, fun _ h => absurd h List.not_mem_nil⟩⟩, List.forall_mem_cons.mpr ⟨⟨_, rfl, mw_591, mw_592, List.forall_mem_cons.mpr ⟨⟨RX11, TX11, 16, rfl, mw_593⟩, fun _ h => absurd h List.not_mem_nil⟩⟩, List.forall_mem_cons.mpr ⟨⟨_, rfl, mw_594, mw_595, List.forall_mem_cons.mpr ⟨⟨RX12, TX12, 32, rfl, mw_596⟩, fun _ h => absurd h List.not_mem_nil⟩⟩, List.forall_mem_cons.mpr ⟨⟨_, rfl, mw_597, mw_598, List.forall_mem_cons.mpr ⟨⟨RX11, TX11, 16, rfl, mw_599⟩, fun _ h => absurd h List.not_mem_nil⟩⟩, List.forall_mem_cons.mpr ⟨⟨_, rfl, mw_600, mw_601, List.forall_mem_cons.mpr ⟨⟨RX12, TX12, 32, rfl, mw_602⟩, fun _ h => absurd h List.not_mem_nil⟩⟩, List.forall_mem_cons.mpr ⟨⟨_, rfl, mw_603, mw_604, List.forall_mem_cons.mpr ⟨⟨RX11, TX11, 16, rfl, mw_605⟩, fun _ h => absurd h List.not_mem_nil⟩⟩, List.forall_mem_cons.mpr ⟨⟨_, rfl, mw_606, mw_607, List.forall_mem_cons.mpr ⟨⟨RX12, TX12, 32, rfl, mw_608⟩, fun _ h => absurd h List.not_mem_nil⟩⟩, List.forall_mem_cons.mpr ⟨⟨_, rfl, mw_609, mw_314, List.forall_mem_cons.mpr ⟨⟨RX11, TX11, 16, rfl, mw_315⟩, fun _ h => absurd h List.not_mem_nil⟩⟩, List.forall_mem_cons.mpr ⟨⟨_, rfl, mw_610, mw_611, List.forall_mem_cons.mpr ⟨⟨RX12, TX12, 32, rfl, mw_612⟩, fun _ h => absurd h List.not_mem_nil⟩⟩, List.forall_mem_cons.mpr ⟨⟨_, rfl, mw_613, mw_614, List.forall_mem_cons.mpr ⟨⟨RX11, TX11, 16, rfl, mw_615⟩, fun _ h => absurd h List.not_mem_nil⟩⟩, List.forall_mem_cons.mpr ⟨⟨_, rfl, mw_616, mw_617, List.forall_mem_cons.mpr ⟨⟨RX12, TX12, 32, rfl, mw_618⟩, fun _ h => absurd h List.not_mem_nil⟩⟩, List.forall_mem_cons.mpr ⟨⟨_, rfl, mw_619, mw_620, List.forall_mem_cons.mpr ⟨⟨RX11, TX11, 16, rfl, mw_621⟩, fun _ h => absurd h List.not_mem_nil⟩⟩, List.forall_mem_cons.mpr ⟨⟨_, rfl, mw_622, mw_623, List.forall_mem_cons.mpr ⟨⟨RX12, TX12, 32, rfl, mw_624⟩, fun _ h => absurd h List.not_mem_nil⟩⟩, List.forall_mem_cons.mpr ⟨⟨_, rfl, mw_625, mw_626, List.forall_mem_cons.mpr ⟨⟨RX11, TX11, 16, rfl, mw_627⟩, fun _ h => absurd h List.not_mem_nil⟩⟩, List.forall_mem_cons.mpr ⟨⟨_, rfl, mw_628, mw_629, List.forall_mem_cons.mpr ⟨⟨RX12, TX12, 32, rfl, mw_630⟩, fun _ h => absurd h List.not_mem_nil⟩⟩, fun _ h => absurd h List.not_mem_nil⟩⟩⟩⟩⟩⟩⟩⟩⟩⟩⟩⟩⟩⟩⟩⟩⟩⟩⟩⟩⟩⟩⟩⟩⟩⟩⟩⟩⟩⟩⟩⟩⟩⟩⟩⟩⟩⟩⟩⟩⟩⟩⟩⟩⟩⟩⟩⟩⟩⟩⟩⟩⟩⟩⟩⟩⟩⟩⟩⟩⟩⟩⟩⟩⟩⟩⟩⟩⟩⟩⟩⟩⟩⟩⟩⟩⟩⟩⟩⟩⟩⟩⟩⟩⟩⟩⟩⟩⟩⟩
theorem xn_ok_13 : ∀ e ∈ xNL_13, xn_G 13 e := List.forall_mem_cons.mpr ⟨⟨RX11, TX11, 16, tyX11, rfl, mw_634, mw_635, mw_99, tyX11_ok, by decide +kernel, rfl⟩, List.forall_mem_cons.mpr ⟨⟨RX12, TX12, 32, tyX12, rfl, mw_636, mw_637, mw_159, tyX12_ok, by decide +kernel, rfl⟩, fun _ h => absurd h List.not_mem_nil⟩⟩
theorem xa_ok_13 : ∀ e ∈ xAL_13, xa_G 13 e := fun _ h => absurd h List.not_mem_nil
theorem xk_ok_13 : ∀ e ∈ xKL_13, xk_G 13 e := fun _ h => absurd h List.not_mem_nil
theorem xf_all : ∀ (oc : Nat) (r : List xFE), xFL[oc]? = some r → ∀ e ∈ r, xf_G oc e
  | 0, _, h => Option.some.inj h ▸ xf_ok_0
  | 1, _, h => Option.some.inj h ▸ xf_ok_1
  | 2, _, h => Option.some.inj h ▸ xf_ok_2
  | 3, _, h => Option.some.inj h ▸ xf_ok_3
  | 4, _, h => Option.some.inj h ▸ xf_ok_4
  | 5, _, h => Option.some.inj h ▸ xf_ok_5
  | 6, _, h => Option.some.inj h ▸ xf_ok_6
  | 7, _, h => Option.some.inj h ▸ xf_ok_7
  | 8, _, h => Option.some.inj h ▸ xf_ok_8
  | 9, _, h => Option.some.inj h ▸ xf_ok_9
  | 10, _, h => Option.some.inj h ▸ xf_ok_10
  | 11, _, h => Option.some.inj h ▸ xf_ok_11
  | 12, _, h => Option.some.inj h ▸ xf_ok_12
  | 13, _, h => Option.some.inj h ▸ xf_ok_13
  | _ + 14, _, h => nomatch h
theorem xf_ok {oc i : Nat} {e : xFE} (h : xf oc i = some e) : xf_G oc e ∧ e.1 = i := by
  unfold xf at h
  split at h
  · rename_i r hr
    exact ⟨xf_all _ _ hr _ (List.mem_of_find?_eq_some h), by simpa using List.find?_some h⟩
  · cases h
theorem xc_all : ∀ (oc : Nat) (r : List xCE), xCL[oc]? = some r → ∀ e ∈ r, xc_G oc e
  | 0, _, h => Option.some.inj h ▸ xc_ok_0
  | 1, _, h => Option.some.inj h ▸ xc_ok_1
  | 2, _, h => Option.some.inj h ▸ xc_ok_2
  | 3, _, h => Option.some.inj h ▸ xc_ok_3
  | 4, _, h => Option.some.inj h ▸ xc_ok_4
  | 5, _, h => Option.some.inj h ▸ xc_ok_5
  | 6, _, h => Option.some.inj h ▸ xc_ok_6
  | 7, _, h => Option.some.inj h ▸ xc_ok_7
  | 8, _, h => Option.some.inj h ▸ xc_ok_8
  | 9, _, h => Option.some.inj h ▸ xc_ok_9
  | 10, _, h => Option.some.inj h ▸ xc_ok_10
  | 11, _, h => Option.some.inj h ▸ xc_ok_11
  | 12, _, h => Option.some.inj h ▸ xc_ok_12
  | 13, _, h => Option.some.inj h ▸ xc_ok_13
  | _ + 14, _, h => nomatch h
theorem xc_ok {oc i : Nat} {e : xCE} (h : xc oc i = some e) : xc_G oc e ∧ e.1 = i := by
  unfold xc at h
  split at h
  · rename_i r hr
    exact ⟨xc_all _ _ hr _ (List.mem_of_find?_eq_some h), by simpa using List.find?_some h⟩
  · cases h
theorem xn_all : ∀ (oc : Nat) (r : List (Nat × Nat × List Value)), xNL[oc]? = some r → ∀ e ∈ r, xn_G oc e
  | 0, _, h => Option.some.inj h ▸ xn_ok_0
  | 1, _, h => Option.some.inj h ▸ xn_ok_1
  | 2, _, h => Option.some.inj h ▸ xn_ok_2
  | 3, _, h => Option.some.inj h ▸ xn_ok_3
  | 4, _, h => Option.some.inj h ▸ xn_ok_4
  | 5, _, h => Option.some.inj h ▸ xn_ok_5
  | 6, _, h => Option.some.inj h ▸ xn_ok_6
  | 7, _, h => Option.some.inj h ▸ xn_ok_7
  | 8, _, h => Option.some.inj h ▸ xn_ok_8
  | 9, _, h => Option.some.inj h ▸ xn_ok_9
  | 10, _, h => Option.some.inj h ▸ xn_ok_10
  | 11, _, h => Option.some.inj h ▸ xn_ok_11
  | 12, _, h => Option.some.inj h ▸ xn_ok_12
  | 13, _, h => Option.some.inj h ▸ xn_ok_13
  | _ + 14, _, h => nomatch h
theorem xn_ok {oc i : Nat} {e : (Nat × Nat × List Value)} (h : xn oc i = some e) : xn_G oc e ∧ e.1 = i := by
  unfold xn at h
  split at h
  · rename_i r hr
    exact ⟨xn_all _ _ hr _ (List.mem_of_find?_eq_some h), by simpa using List.find?_some h⟩
  · cases h
theorem xa_all : ∀ (oc : Nat) (r : List (Nat × Nat)), xAL[oc]? = some r → ∀ e ∈ r, xa_G oc e
  | 0, _, h => Option.some.inj h ▸ xa_ok_0
  | 1, _, h => Option.some.inj h ▸ xa_ok_1
  | 2, _, h => Option.some.inj h ▸ xa_ok_2
  | 3, _, h => Option.some.inj h ▸ xa_ok_3
  | 4, _, h => Option.some.inj h ▸ xa_ok_4
  | 5, _, h => Option.some.inj h ▸ xa_ok_5
  | 6, _, h => Option.some.inj h ▸ xa_ok_6
  | 7, _, h => Option.some.inj h ▸ xa_ok_7
  | 8, _, h => Option.some.inj h ▸ xa_ok_8
  | 9, _, h => Option.some.inj h ▸ xa_ok_9
  | 10, _, h => Option.some.inj h ▸ xa_ok_10
  | 11, _, h => Option.some.inj h ▸ xa_ok_11
  | 12, _, h => Option.some.inj h ▸ xa_ok_12
  | 13, _, h => Option.some.inj h ▸ xa_ok_13
  | _ + 14, _, h => nomatch h
theorem xa_ok {oc i : Nat} {e : (Nat × Nat)} (h : xa oc i = some e) : xa_G oc e ∧ e.1 = i := by
  unfold xa at h
  split at h
  · rename_i r hr
    exact ⟨xa_all _ _ hr _ (List.mem_of_find?_eq_some h), by simpa using List.find?_some h⟩
  · cases h
theorem xk_all : ∀ (oc : Nat) (r : List (Nat × Value)), xKL[oc]? = some r → ∀ e ∈ r, xk_G oc e
  | 0, _, h => Option.some.inj h ▸ xk_ok_0
  | 1, _, h => Option.some.inj h ▸ xk_ok_1
  | 2, _, h => Option.some.inj h ▸ xk_ok_2
  | 3, _, h => Option.some.inj h ▸ xk_ok_3
  | 4, _, h => Option.some.inj h ▸ xk_ok_4
  | 5, _, h => Option.some.inj h ▸ xk_ok_5
  | 6, _, h => Option.some.inj h ▸ xk_ok_6
  | 7, _, h => Option.some.inj h ▸ xk_ok_7
  | 8, _, h => Option.some.inj h ▸ xk_ok_8
  | 9, _, h => Option.some.inj h ▸ xk_ok_9
  | 10, _, h => Option.some.inj h ▸ xk_ok_10
  | 11, _, h => Option.some.inj h ▸ xk_ok_11
  | 12, _, h => Option.some.inj h ▸ xk_ok_12
  | 13, _, h => Option.some.inj h ▸ xk_ok_13
  | _ + 14, _, h => nomatch h
theorem xk_ok {oc i : Nat} {e : (Nat × Value)} (h : xk oc i = some e) : xk_G oc e ∧ e.1 = i := by
  unfold xk at h
  split at h
  · rename_i r hr
    exact ⟨xk_all _ _ hr _ (List.mem_of_find?_eq_some h), by simpa using List.find?_some h⟩
  · cases h
theorem xm_ok_0 : ∀ q ∈ xMX_0, xm_G q := List.forall_mem_cons.mpr ⟨⟨xt_ok_0, mw_64, mw_65, by decide +kernel, rfl, (fun _ => rfl), rfl, by decide, by decide +kernel⟩, List.forall_mem_cons.mpr ⟨⟨xt_ok_1, mw_66, mw_65, by decide +kernel, rfl, (fun h => absurd h (by decide)), rfl, by decide, by decide +kernel⟩, List.forall_mem_cons.mpr ⟨⟨xt_ok_2, mw_67, mw_65, by decide +kernel, rfl, (fun h => absurd h (by decide)), rfl, by decide, by decide +kernel⟩, List.forall_mem_cons.mpr ⟨⟨xt_ok_3, mw_68, mw_65, by decide +kernel, rfl, (fun h => absurd h (by decide)), rfl, by decide, by decide +kernel⟩, List.forall_mem_cons.mpr ⟨⟨xt_ok_4, mw_69, mw_70, by decide +kernel, rfl, (fun _ => rfl), rfl, by decide, by decide +kernel⟩, List.forall_mem_cons.mpr ⟨⟨xt_ok_5, mw_71, mw_72, by decide +kernel, rfl, (fun _ => rfl), rfl, by decide, by decide +kernel⟩, List.forall_mem_cons.mpr ⟨⟨xt_ok_6, mw_73, mw_72, by decide +kernel, rfl, (fun h => absurd h (by decide)), rfl, by decide, by decide +kernel⟩, List.forall_mem_cons.mpr ⟨⟨xt_ok_7, mw_74, mw_72, by decide +kernel, rfl, (fun h => absurd h (by decide)), rfl, by decide, by decide +kernel⟩, List.forall_mem_cons.mpr ⟨⟨xt_ok_8, mw_75, mw_72, by decide +kernel, rfl, (fun h => absurd h (by decide)), rfl, by decide, by decide +kernel⟩, List.forall_mem_cons.mpr ⟨⟨xt_ok_9, mw_76, mw_72, by decide +kernel, rfl, (fun h => absurd h (by decide)), rfl, by decide, by decide +kernel⟩, List.forall_mem_cons.mpr ⟨⟨xt_ok_10, mw_77, mw_72, by decide +kernel, rfl, (fun h => absurd h (by decide)), rfl, by decide, by decide +kernel⟩, List.forall_mem_cons.mpr ⟨⟨xt_ok_11, mw_78, mw_72, by decide +kernel, rfl, (fun h => absurd h (by decide)), rfl, by decide, by decide +kernel⟩, List.forall_mem_cons.mpr ⟨⟨xt_ok_12, mw_79, mw_80, by decide +kernel, rfl, (fun _ => rfl), rfl, by decide, by decide +kernel⟩, List.forall_mem_cons.mpr ⟨⟨xt_ok_13, mw_81, mw_82, by decide +kernel, rfl, (fun _ => rfl), rfl, by decide, by decide +kernel⟩, List.forall_mem_cons.mpr ⟨⟨xt_ok_14, mw_83, mw_84, by decide +kernel, rfl, (fun _ => rfl), rfl, by decide, by decide +kernel⟩, List.forall_mem_cons.mpr ⟨⟨xt_ok_15, mw_85, mw_86, by decide +kernel, rfl, (fun _ => rfl), rfl, by decide, by decide +kernel⟩, fun _ h => absurd h List.not_mem_nil⟩⟩⟩⟩⟩⟩⟩⟩⟩⟩⟩⟩⟩⟩⟩⟩
theorem xm_ok_1 : ∀ q ∈ xMX_1, xm_G q := List.forall_mem_cons.mpr ⟨⟨xt_ok_16, mw_87, mw_88, by decide +kernel, rfl, (fun _ => rfl), rfl, by decide, by decide +kernel⟩, List.forall_mem_cons.mpr ⟨⟨xt_ok_17, mw_89, mw_90, by decide +kernel, rfl, (fun _ => rfl), rfl, by decide, by decide +kernel⟩, List.forall_mem_cons.mpr ⟨⟨xt_ok_18, mw_91, mw_90, by decide +kernel, rfl, (fun h => absurd h (by decide)), rfl, by decide, by decide +kernel⟩, List.forall_mem_cons.mpr ⟨⟨xt_ok_19, mw_92, mw_90, by decide +kernel, rfl, (fun h => absurd h (by decide)), rfl, by decide, by decide +kernel⟩, List.forall_mem_cons.mpr ⟨⟨xt_ok_20, mw_93, mw_90, by decide +kernel, rfl, (fun h => absurd h (by decide)), rfl, by decide, by decide +kernel⟩, List.forall_mem_cons.mpr ⟨⟨xt_ok_21, mw_94, mw_95, by decide +kernel, rfl, (fun _ => rfl), rfl, by decide, by decide +kernel⟩, List.forall_mem_cons.mpr ⟨⟨xt_ok_22, mw_96, mw_97, by decide +kernel, rfl, (fun _ => rfl), rfl, by decide, by decide +kernel⟩, List.forall_mem_cons.mpr ⟨⟨xt_ok_23, mw_98, mw_99, by decide +kernel, rfl, (fun _ => rfl), rfl, by decide, by decide +kernel⟩, List.forall_mem_cons.mpr ⟨⟨xt_ok_24, mw_100, mw_99, by decide +kernel, rfl, (fun h => absurd h (by decide)), rfl, by decide, by decide +kernel⟩, List.forall_mem_cons.mpr ⟨⟨xt_ok_25, mw_101, mw_99, by decide +kernel, rfl, (fun h => absurd h (by decide)), rfl, by decide, by decide +kernel⟩, List.forall_mem_cons.mpr ⟨⟨xt_ok_26, mw_102, mw_99, by decide +kernel, rfl, (fun h => absurd h (by decide)), rfl, by decide, by decide +kernel⟩, List.forall_mem_cons.mpr ⟨⟨xt_ok_27, mw_103, mw_99, by decide +kernel, rfl, (fun h => absurd h (by decide)), rfl, by decide, by decide +kernel⟩, List.forall_mem_cons.mpr ⟨⟨xt_ok_28, mw_104, mw_99, by decide +kernel, rfl, (fun h => absurd h (by decide)), rfl, by decide, by decide +kernel⟩, List.forall_mem_cons.mpr ⟨⟨xt_ok_29, mw_105, mw_99, by decide +kernel, rfl, (fun h => absurd h (by decide)), rfl, by decide, by decide +kernel⟩, List.forall_mem_cons.mpr ⟨⟨xt_ok_30, mw_106, mw_99, by decide +kernel, rfl, (fun h => absurd h (by decide)), rfl, by decide, by decide +kernel⟩, List.forall_mem_cons.mpr ⟨⟨xt_ok_31, mw_107, mw_99, by decide +kernel, rfl, (fun h => absurd h (by decide)), rfl, by decide, by decide +kernel⟩, fun _ h => absurd h List.not_mem_nil⟩⟩⟩⟩⟩⟩⟩⟩⟩⟩⟩⟩⟩⟩⟩⟩
theorem xm_ok_2 : ∀ q ∈ xMX_2, xm_G q := List.forall_mem_cons.mpr ⟨⟨xt_ok_32, mw_108, mw_99, by decide +kernel, rfl, (fun h => absurd h (by decide)), rfl, by decide, by decide +kernel⟩, List.forall_mem_cons.mpr ⟨⟨xt_ok_33, mw_109, mw_99, by decide +kernel, rfl, (fun h => absurd h (by decide)), rfl, by decide, by decide +kernel⟩, List.forall_mem_cons.mpr ⟨⟨xt_ok_34, mw_110, mw_99, by decide +kernel, rfl, (fun h => absurd h (by decide)), rfl, by decide, by decide +kernel⟩, List.forall_mem_cons.mpr ⟨⟨xt_ok_35, mw_111, mw_99, by decide +kernel, rfl, (fun h => absurd h (by decide)), rfl, by decide, by decide +kernel⟩, List.forall_mem_cons.mpr ⟨⟨xt_ok_36, mw_112, mw_99, by decide +kernel, rfl, (fun h => absurd h (by decide)), rfl, by decide, by decide +kernel⟩, List.forall_mem_cons.mpr ⟨⟨xt_ok_37, mw_113, mw_99, by decide +kernel, rfl, (fun h => absurd h (by decide)), rfl, by decide, by decide +kernel⟩, List.forall_mem_cons.mpr ⟨⟨xt_ok_38, mw_114, mw_99, by decide +kernel, rfl, (fun h => absurd h (by decide)), rfl, by decide, by decide +kernel⟩, List.forall_mem_cons.mpr ⟨⟨xt_ok_39, mw_115, mw_99, by decide +kernel, rfl, (fun h => absurd h (by decide)), rfl, by decide, by decide +kernel⟩, List.forall_mem_cons.mpr ⟨⟨xt_ok_40, mw_116, mw_99, by decide +kernel, rfl, (fun h => absurd h (by decide)), rfl, by decide, by decide +kernel⟩, List.forall_mem_cons.mpr ⟨⟨xt_ok_41, mw_117, mw_99, by decide +kernel, rfl, (fun h => absurd h (by decide)), rfl, by decide, by decide +kernel⟩, List.forall_mem_cons.mpr ⟨⟨xt_ok_42, mw_118, mw_99, by decide +kernel, rfl, (fun h => absurd h (by decide)), rfl, by decide, by decide +kernel⟩, List.forall_mem_cons.mpr ⟨⟨xt_ok_43, mw_119, mw_99, by decide +kernel, rfl, (fun h => absurd h (by decide)), rfl, by decide, by decide +kernel⟩, List.forall_mem_cons.mpr ⟨⟨xt_ok_44, mw_120, mw_99, by decide +kernel, rfl, (fun h => absurd h (by decide)), rfl, by decide, by decide +kernel⟩, List.forall_mem_cons.mpr ⟨⟨xt_ok_45, mw_121, mw_99, by decide +kernel, rfl, (fun h => absurd h (by decide)), rfl, by decide, by decide +kernel⟩, List.forall_mem_cons.mpr ⟨⟨xt_ok_46, mw_122, mw_99, by decide +kernel, rfl, (fun h => absurd h (by decide)), rfl, by decide, by decide +kernel⟩, List.forall_mem_cons.mpr ⟨⟨xt_ok_47, mw_123, mw_99, by decide +kernel, rfl, (fun h => absurd h (by decide)), rfl, by decide, by decide +kernel⟩, fun _ h => absurd h List.not_mem_nil⟩⟩⟩⟩⟩⟩⟩⟩⟩⟩⟩⟩⟩⟩⟩⟩
theorem xm_ok_3 : ∀ q ∈ xMX_3, xm_G q := List.forall_mem_cons.mpr ⟨⟨xt_ok_48, mw_124, mw_99, by decide +kernel, rfl, (fun h => absurd h (by decide)), rfl, by decide, by decide +kernel⟩, List.forall_mem_cons.mpr ⟨⟨xt_ok_49, mw_125, mw_99, by decide +kernel, rfl, (fun h => absurd h (by decide)), rfl, by decide, by decide +kernel⟩, List.forall_mem_cons.mpr ⟨⟨xt_ok_50, mw_126, mw_99, by decide +kernel, rfl, (fun h => absurd h (by decide)), rfl, by decide, by decide +kernel⟩, List.forall_mem_cons.mpr ⟨⟨xt_ok_51, mw_127, mw_99, by decide +kernel, rfl, (fun h => absurd h (by decide)), rfl, by decide, by decide +kernel⟩, List.forall_mem_cons.mpr ⟨⟨xt_ok_52, mw_128, mw_99, by decide +kernel, rfl, (fun h => absurd h (by decide)), rfl, by decide, by decide +kernel⟩, List.forall_mem_cons.mpr ⟨⟨xt_ok_53, mw_129, mw_99, by decide +kernel, rfl, (fun h => absurd h (by decide)), rfl, by decide, by decide +kernel⟩, List.forall_mem_cons.mpr ⟨⟨xt_ok_54, mw_130, mw_99, by decide +kernel, rfl, (fun h => absurd h (by decide)), rfl, by decide, by decide +kernel⟩, List.forall_mem_cons.mpr ⟨⟨xt_ok_55, mw_131, mw_99, by decide +kernel, rfl, (fun h => absurd h (by decide)), rfl, by decide, by decide +kernel⟩, List.forall_mem_cons.mpr ⟨⟨xt_ok_56, mw_132, mw_99, by decide +kernel, rfl, (fun h => absurd h (by decide)), rfl, by decide, by decide +kernel⟩, List.forall_mem_cons.mpr ⟨⟨xt_ok_57, mw_133, mw_99, by decide +kernel, rfl, (fun h => absurd h (by decide)), rfl, by decide, by decide +kernel⟩, List.forall_mem_cons.mpr ⟨⟨xt_ok_58, mw_134, mw_99, by decide +kernel, rfl, (fun h => absurd h (by decide)), rfl, by decide, by decide +kernel⟩, List.forall_mem_cons.mpr ⟨⟨xt_ok_59, mw_135, mw_99, by decide +kernel, rfl, (fun h => absurd h (by decide)), rfl, by decide, by decide +kernel⟩, List.forall_mem_cons.mpr ⟨⟨xt_ok_60, mw_136, mw_99, by decide +kernel, rfl, (fun h => absurd h (by decide)), rfl, by decide, by decide +kernel⟩, List.forall_mem_cons.mpr ⟨⟨xt_ok_61, mw_137, mw_99, by decide +kernel, rfl, (fun h => absurd h (by decide)), rfl, by decide, by decide +kernel⟩, List.forall_mem_cons.mpr ⟨⟨xt_ok_62, mw_138, mw_99, by decide +kernel, rfl, (fun h => absurd h (by decide)), rfl, by decide, by decide +kernel⟩, List.forall_mem_cons.mpr ⟨⟨xt_ok_63, mw_139, mw_99, by decide +kernel, rfl, (fun h => absurd h (by decide)), rfl, by decide, by decide +kernel⟩, fun _ h => absurd h List.not_mem_nil⟩⟩⟩⟩⟩⟩⟩⟩⟩⟩⟩⟩⟩⟩⟩⟩
theorem xm_ok_4 : ∀ q ∈ xMX_4, xm_G q := List.forall_mem_cons.mpr ⟨⟨xt_ok_64, mw_140, mw_99, by decide +kernel, rfl, (fun h => absurd h (by decide)), rfl, by decide, by decide +kernel⟩, List.forall_mem_cons.mpr ⟨⟨xt_ok_65, mw_141, mw_99, by decide +kernel, rfl, (fun h => absurd h (by decide)), rfl, by decide, by decide +kernel⟩, List.forall_mem_cons.mpr ⟨⟨xt_ok_66, mw_142, mw_99, by decide +kernel, rfl, (fun h => absurd h (by decide)), rfl, by decide, by decide +kernel⟩, List.forall_mem_cons.mpr ⟨⟨xt_ok_67, mw_143, mw_99, by decide +kernel, rfl, (fun h => absurd h (by decide)), rfl, by decide, by decide +kernel⟩, List.forall_mem_cons.mpr ⟨⟨xt_ok_68, mw_144, mw_99, by decide +kernel, rfl, (fun h => absurd h (by decide)), rfl, by decide, by decide +kernel⟩, List.forall_mem_cons.mpr ⟨⟨xt_ok_69, mw_145, mw_99, by decide +kernel, rfl, (fun h => absurd h (by decide)), rfl, by decide, by decide +kernel⟩, List.forall_mem_cons.mpr ⟨⟨xt_ok_70, mw_146, mw_99, by decide +kernel, rfl, (fun h => absurd h (by decide)), rfl, by decide, by decide +kernel⟩, List.forall_mem_cons.mpr ⟨⟨xt_ok_71, mw_147, mw_99, by decide +kernel, rfl, (fun h => absurd h (by decide)), rfl, by decide, by decide +kernel⟩, List.forall_mem_cons.mpr ⟨⟨xt_ok_72, mw_148, mw_99, by decide +kernel, rfl, (fun h => absurd h (by decide)), rfl, by decide, by decide +kernel⟩, List.forall_mem_cons.mpr ⟨⟨xt_ok_73, mw_149, mw_99, by decide +kernel, rfl, (fun h => absurd h (by decide)), rfl, by decide, by decide +kernel⟩, List.forall_mem_cons.mpr ⟨⟨xt_ok_74, mw_150, mw_99, by decide +kernel, rfl, (fun h => absurd h (by decide)), rfl, by decide, by decide +kernel⟩, List.forall_mem_cons.mpr ⟨⟨xt_ok_75, mw_151, mw_99, by decide +kernel, rfl, (fun h => absurd h (by decide)), rfl, by decide, by decide +kernel⟩, List.forall_mem_cons.mpr ⟨⟨xt_ok_76, mw_152, mw_99, by decide +kernel, rfl, (fun h => absurd h (by decide)), rfl, by decide, by decide +kernel⟩, List.forall_mem_cons.mpr ⟨⟨xt_ok_77, mw_153, mw_99, by decide +kernel, rfl, (fun h => absurd h (by decide)), rfl, by decide, by decide +kernel⟩, List.forall_mem_cons.mpr ⟨⟨xt_ok_78, mw_154, mw_99, by decide +kernel, rfl, (fun h => absurd h (by decide)), rfl, by decide, by decide +kernel⟩, List.forall_mem_cons.mpr ⟨⟨xt_ok_79, mw_155, mw_99, by decide +kernel, rfl, (fun h => absurd h (by decide)), rfl, by decide, by decide +kernel⟩, fun _ h => absurd h List.not_mem_nil⟩⟩⟩⟩⟩⟩⟩⟩⟩⟩⟩⟩⟩⟩⟩⟩
theorem xm_ok_5 : ∀ q ∈ xMX_5, xm_G q := List.forall_mem_cons.mpr ⟨⟨xt_ok_80, mw_156, mw_99, by decide +kernel, rfl, (fun h => absurd h (by decide)), rfl, by decide, by decide +kernel⟩, List.forall_mem_cons.mpr ⟨⟨xt_ok_81, mw_157, mw_99, by decide +kernel, rfl, (fun h => absurd h (by decide)), rfl, by decide, by decide +kernel⟩, List.forall_mem_cons.mpr ⟨⟨xt_ok_82, mw_158, mw_159, by decide +kernel, rfl, (fun _ => rfl), rfl, by decide, by decide +kernel⟩, List.forall_mem_cons.mpr ⟨⟨xt_ok_83, mw_160, mw_159, by decide +kernel, rfl, (fun h => absurd h (by decide)), rfl, by decide, by decide +kernel⟩, List.forall_mem_cons.mpr ⟨⟨xt_ok_84, mw_161, mw_159, by decide +kernel, rfl, (fun h => absurd h (by decide)), rfl, by decide, by decide +kernel⟩, List.forall_mem_cons.mpr ⟨⟨xt_ok_85, mw_162, mw_159, by decide +kernel, rfl, (fun h => absurd h (by decide)), rfl, by decide, by decide +kernel⟩, List.forall_mem_cons.mpr ⟨⟨xt_ok_86, mw_163, mw_159, by decide +kernel, rfl, (fun h => absurd h (by decide)), rfl, by decide, by decide +kernel⟩, List.forall_mem_cons.mpr ⟨⟨xt_ok_87, mw_164, mw_159, by decide +kernel, rfl, (fun h => absurd h (by decide)), rfl, by decide, by decide +kernel⟩, List.forall_mem_cons.mpr ⟨⟨xt_ok_88, mw_165, mw_159, by decide +kernel, rfl, (fun h => absurd h (by decide)), rfl, by decide, by decide +kernel⟩, List.forall_mem_cons.mpr ⟨⟨xt_ok_89, mw_166, mw_159, by decide +kernel, rfl, (fun h => absurd h (by decide)), rfl, by decide, by decide +kernel⟩, List.forall_mem_cons.mpr ⟨⟨xt_ok_90, mw_167, mw_159, by decide +kernel, rfl, (fun h => absurd h (by decide)), rfl, by decide, by decide +kernel⟩, List.forall_mem_cons.mpr ⟨⟨xt_ok_91, mw_168, mw_159, by decide +kernel, rfl, (fun h => absurd h (by decide)), rfl, by decide, by decide +kernel⟩, List.forall_mem_cons.mpr ⟨⟨xt_ok_92, mw_169, mw_159, by decide +kernel, rfl, (fun h => absurd h (by decide)), rfl, by decide, by decide +kernel⟩, List.forall_mem_cons.mpr ⟨⟨xt_ok_93, mw_170, mw_159, by decide +kernel, rfl, (fun h => absurd h (by decide)), rfl, by decide, by decide +kernel⟩, List.forall_mem_cons.mpr ⟨⟨xt_ok_94, mw_171, mw_159, by decide +kernel, rfl, (fun h => absurd h (by decide)), rfl, by decide, by decide +kernel⟩, List.forall_mem_cons.mpr ⟨⟨xt_ok_95, mw_172, mw_159, by decide +kernel, rfl, (fun h => absurd h (by decide)), rfl, by decide, by decide +kernel⟩, fun _ h => absurd h List.not_mem_nil⟩⟩⟩⟩⟩⟩⟩⟩⟩⟩⟩⟩⟩⟩⟩⟩
theorem xm_ok_6 : ∀ q ∈ xMX_6, xm_G q := List.forall_mem_cons.mpr ⟨⟨xt_ok_96, mw_173, mw_159, by decide +kernel, rfl, (fun h => absurd h (by decide)), rfl, by decide, by decide +kernel⟩, List.forall_mem_cons.mpr ⟨⟨xt_ok_97, mw_174, mw_159, by decide +kernel, rfl, (fun h => absurd h (by decide)), rfl, by decide, by decide +kernel⟩, List.forall_mem_cons.mpr ⟨⟨xt_ok_98, mw_175, mw_159, by decide +kernel, rfl, (fun h => absurd h (by decide)), rfl, by decide, by decide +kernel⟩, List.forall_mem_cons.mpr ⟨⟨xt_ok_99, mw_176, mw_159, by decide +kernel, rfl, (fun h => absurd h (by decide)), rfl, by decide, by decide +kernel⟩, List.forall_mem_cons.mpr ⟨⟨xt_ok_100, mw_177, mw_159, by decide +kernel, rfl, (fun h => absurd h (by decide)), rfl, by decide, by decide +kernel⟩, List.forall_mem_cons.mpr ⟨⟨xt_ok_101, mw_178, mw_159, by decide +kernel, rfl, (fun h => absurd h (by decide)), rfl, by decide, by decide +kernel⟩, List.forall_mem_cons.mpr ⟨⟨xt_ok_102, mw_179, mw_159, by decide +kernel, rfl, (fun h => absurd h (by decide)), rfl, by decide, by decide +kernel⟩, List.forall_mem_cons.mpr ⟨⟨xt_ok_103, mw_180, mw_159, by decide +kernel, rfl, (fun h => absurd h (by decide)), rfl, by decide, by decide +kernel⟩, List.forall_mem_cons.mpr ⟨⟨xt_ok_104, mw_181, mw_159, by decide +kernel, rfl, (fun h => absurd h (by decide)), rfl, by decide, by decide +kernel⟩, List.forall_mem_cons.mpr ⟨⟨xt_ok_105, mw_182, mw_159, by decide +kernel, rfl, (fun h => absurd h (by decide)), rfl, by decide, by decide +kernel⟩, List.forall_mem_cons.mpr ⟨⟨xt_ok_106, mw_183, mw_159, by decide +kernel, rfl, (fun h => absurd h (by decide)), rfl, by decide, by decide +kernel⟩, List.forall_mem_cons.mpr ⟨⟨xt_ok_107, mw_184, mw_159, by decide +kernel, rfl, (fun h => absurd h (by decide)), rfl, by decide, by decide +kernel⟩, List.forall_mem_cons.mpr ⟨⟨xt_ok_108, mw_185, mw_159, by decide +kernel, rfl, (fun h => absurd h (by decide)), rfl, by decide, by decide +kernel⟩, List.forall_mem_cons.mpr ⟨⟨xt_ok_109, mw_186, mw_159, by decide +kernel, rfl, (fun h => absurd h (by decide)), rfl, by decide, by decide +kernel⟩, List.forall_mem_cons.mpr ⟨⟨xt_ok_110, mw_187, mw_159, by decide +kernel, rfl, (fun h => absurd h (by decide)), rfl, by decide, by decide +kernel⟩, List.forall_mem_cons.mpr ⟨⟨xt_ok_111, mw_188, mw_159, by decide +kernel, rfl, (fun h => absurd h (by decide)), rfl, by decide, by decide +kernel⟩, fun _ h => absurd h List.not_mem_nil⟩⟩⟩⟩⟩⟩⟩⟩⟩⟩⟩⟩⟩⟩⟩⟩
theorem xm_ok_7 : ∀ q ∈ xMX_7, xm_G q := List.forall_mem_cons.mpr ⟨⟨xt_ok_112, mw_189, mw_159, by decide +kernel, rfl, (fun h => absurd h (by decide)), rfl, by decide, by decide +kernel⟩, List.forall_mem_cons.mpr ⟨⟨xt_ok_113, mw_190, mw_159, by decide +kernel, rfl, (fun h => absurd h (by decide)), rfl, by decide, by decide +kernel⟩, List.forall_mem_cons.mpr ⟨⟨xt_ok_114, mw_191, mw_159, by decide +kernel, rfl, (fun h => absurd h (by decide)), rfl, by decide, by decide +kernel⟩, List.forall_mem_cons.mpr ⟨⟨xt_ok_115, mw_192, mw_159, by decide +kernel, rfl, (fun h => absurd h (by decide)), rfl, by decide, by decide +kernel⟩, List.forall_mem_cons.mpr ⟨⟨xt_ok_116, mw_193, mw_159, by decide +kernel, rfl, (fun h => absurd h (by decide)), rfl, by decide, by decide +kernel⟩, List.forall_mem_cons.mpr ⟨⟨xt_ok_117, mw_194, mw_159, by decide +kernel, rfl, (fun h => absurd h (by decide)), rfl, by decide, by decide +kernel⟩, List.forall_mem_cons.mpr ⟨⟨xt_ok_118, mw_195, mw_159, by decide +kernel, rfl, (fun h => absurd h (by decide)), rfl, by decide, by decide +kernel⟩, List.forall_mem_cons.mpr ⟨⟨xt_ok_119, mw_196, mw_159, by decide +kernel, rfl, (fun h => absurd h (by decide)), rfl, by decide, by decide +kernel⟩, List.forall_mem_cons.mpr ⟨⟨xt_ok_120, mw_197, mw_159, by decide +kernel, rfl, (fun h => absurd h (by decide)), rfl, by decide, by decide +kernel⟩, List.forall_mem_cons.mpr ⟨⟨xt_ok_121, mw_198, mw_159, by decide +kernel, rfl, (fun h => absurd h (by decide)), rfl, by decide, by decide +kernel⟩, List.forall_mem_cons.mpr ⟨⟨xt_ok_122, mw_199, mw_159, by decide +kernel, rfl, (fun h => absurd h (by decide)), rfl, by decide, by decide +kernel⟩, List.forall_mem_cons.mpr ⟨⟨xt_ok_123, mw_200, mw_159, by decide +kernel, rfl, (fun h => absurd h (by decide)), rfl, by decide, by decide +kernel⟩, List.forall_mem_cons.mpr ⟨⟨xt_ok_124, mw_201, mw_159, by decide +kernel, rfl, (fun h => absurd h (by decide)), rfl, by decide, by decide +kernel⟩, List.forall_mem_cons.mpr ⟨⟨xt_ok_125, mw_202, mw_159, by decide +kernel, rfl, (fun h => absurd h (by decide)), rfl, by decide, by decide +kernel⟩, List.forall_mem_cons.mpr ⟨⟨xt_ok_126, mw_203, mw_159, by decide +kernel, rfl, (fun h => absurd h (by decide)), rfl, by decide, by decide +kernel⟩, List.forall_mem_cons.mpr ⟨⟨xt_ok_127, mw_204, mw_159, by decide +kernel, rfl, (fun h => absurd h (by decide)), rfl, by decide, by decide +kernel⟩, fun _ h => absurd h List.not_mem_nil⟩⟩⟩⟩⟩⟩⟩⟩⟩⟩⟩⟩⟩⟩⟩⟩
theorem xm_ok_8 : ∀ q ∈ xMX_8, xm_G q := List.forall_mem_cons.mpr ⟨⟨xt_ok_128, mw_205, mw_159, by decide +kernel, rfl, (fun h => absurd h (by decide)), rfl, by decide, by decide +kernel⟩, List.forall_mem_cons.mpr ⟨⟨xt_ok_129, mw_206, mw_159, by decide +kernel, rfl, (fun h => absurd h (by decide)), rfl, by decide, by decide +kernel⟩, List.forall_mem_cons.mpr ⟨⟨xt_ok_130, mw_207, mw_159, by decide +kernel, rfl, (fun h => absurd h (by decide)), rfl, by decide, by decide +kernel⟩, List.forall_mem_cons.mpr ⟨⟨xt_ok_131, mw_208, mw_159, by decide +kernel, rfl, (fun h => absurd h (by decide)), rfl, by decide, by decide +kernel⟩, List.forall_mem_cons.mpr ⟨⟨xt_ok_132, mw_209, mw_159, by decide +kernel, rfl, (fun h => absurd h (by decide)), rfl, by decide, by decide +kernel⟩, List.forall_mem_cons.mpr ⟨⟨xt_ok_133, mw_210, mw_159, by decide +kernel, rfl, (fun h => absurd h (by decide)), rfl, by decide, by decide +kernel⟩, List.forall_mem_cons.mpr ⟨⟨xt_ok_134, mw_211, mw_159, by decide +kernel, rfl, (fun h => absurd h (by decide)), rfl, by decide, by decide +kernel⟩, List.forall_mem_cons.mpr ⟨⟨xt_ok_135, mw_212, mw_159, by decide +kernel, rfl, (fun h => absurd h (by decide)), rfl, by decide, by decide +kernel⟩, List.forall_mem_cons.mpr ⟨⟨xt_ok_136, mw_213, mw_159, by decide +kernel, rfl, (fun h => absurd h (by decide)), rfl, by decide, by decide +kernel⟩, List.forall_mem_cons.mpr ⟨⟨xt_ok_137, mw_214, mw_159, by decide +kernel, rfl, (fun h => absurd h (by decide)), rfl, by decide, by decide +kernel⟩, List.forall_mem_cons.mpr ⟨⟨xt_ok_138, mw_215, mw_159, by decide +kernel, rfl, (fun h => absurd h (by decide)), rfl, by decide, by decide +kernel⟩, List.forall_mem_cons.mpr ⟨⟨xt_ok_139, mw_216, mw_159, by decide +kernel, rfl, (fun h => absurd h (by decide)), rfl, by decide, by decide +kernel⟩, List.forall_mem_cons.mpr ⟨⟨xt_ok_140, mw_217, mw_159, by decide +kernel, rfl, (fun h => absurd h (by decide)), rfl, by decide, by decide +kernel⟩, fun _ h => absurd h List.not_mem_nil⟩⟩⟩⟩⟩⟩⟩⟩⟩⟩⟩⟩⟩
theorem xm_all : ∀ r ∈ xMX, ∀ q ∈ r, xm_G q := List.forall_mem_cons.mpr ⟨xm_ok_0, List.forall_mem_cons.mpr ⟨xm_ok_1, List.forall_mem_cons.mpr ⟨xm_ok_2, List.forall_mem_cons.mpr ⟨xm_ok_3, List.forall_mem_cons.mpr ⟨xm_ok_4, List.forall_mem_cons.mpr ⟨xm_ok_5, List.forall_mem_cons.mpr ⟨xm_ok_6, List.forall_mem_cons.mpr ⟨xm_ok_7, List.forall_mem_cons.mpr ⟨xm_ok_8, fun _ h => absurd h List.not_mem_nil⟩⟩⟩⟩⟩⟩⟩⟩⟩
theorem xm_ok {k : Nat} {q : xME} (h : xm k = some q) : xm_G q := by
  unfold xm at h
  split at h
  · rename_i r hr
    exact xm_all r (List.mem_of_getElem? hr) q (List.mem_of_getElem? h)
  · cases h
/-- the classes whose objects are held -/
theorem xcl_ok : ∀ (ci : Nat) (C : String) (T : u_T) (N : Nat), vwCl[ci]? = some (C, T, N) → (∀ w ∈ u_ws C T N, w ∈ xWS) ∧ (∃ ty : Nat → FieldType, ∀ k, k < N → parseFieldDescriptor (T k).2.2.1 = some (ty k)) ∧ ∀ a, a < N → ∀ b, b < N → a ≠ b → (T a).2.1 ≠ (T b).2.1
  | 0, _, _, _, h => by cases h; exact ⟨ml_0, ⟨tyX0, tyX0_ok⟩, nmX0⟩
  | 1, _, _, _, h => by cases h; exact ⟨ml_1, ⟨tyX1, tyX1_ok⟩, nmX1⟩
  | 2, _, _, _, h => by cases h; exact ⟨ml_2, ⟨tyX2, tyX2_ok⟩, nmX2⟩
  | 3, _, _, _, h => by cases h; exact ⟨ml_3, ⟨tyX4, tyX4_ok⟩, nmX4⟩
  | 4, _, _, _, h => by cases h; exact ⟨ml_4, ⟨tyX5, tyX5_ok⟩, nmX5⟩
  | 5, _, _, _, h => by cases h; exact ⟨ml_5, ⟨tyX6, tyX6_ok⟩, nmX6⟩
  | 6, _, _, _, h => by cases h; exact ⟨ml_6, ⟨tyX7, tyX7_ok⟩, nmX7⟩
  | 7, _, _, _, h => by cases h; exact ⟨ml_7, ⟨tyX8, tyX8_ok⟩, nmX8⟩
  | 8, _, _, _, h => by cases h; exact ⟨ml_8, ⟨tyX9, tyX9_ok⟩, nmX9⟩
  | 9, _, _, _, h => by cases h; exact ⟨ml_9, ⟨tyX10, tyX10_ok⟩, nmX10⟩
  | 10, _, _, _, h => by cases h; exact ⟨ml_10, ⟨tyX11, tyX11_ok⟩, nmX11⟩
  | 11, _, _, _, h => by cases h; exact ⟨ml_11, ⟨tyX12, tyX12_ok⟩, nmX12⟩
  | _ + 12, _, _, _, h => nomatch h
end
section
/-! lists and numbers in a form that the kernel counts fast -/
noncomputable def xg {α : Type} (l : List α) (n : Nat) : Option α := List.rec (motive := fun _ => Nat → Option α) (fun _ => none) (fun h _ ih n => Nat.rec (motive := fun _ => Option α) (some h) (fun m _ => ih m) n) l n
theorem xg_eq {α : Type} (l : List α) (n : Nat) : xg l n = l[n]? := by
  induction l generalizing n with
  | nil => rfl
  | cons h t ih =>
    cases n with
    | zero => rfl
    | succ n =>
      rw [List.getElem?_cons_succ, ← ih]
      rfl
noncomputable def xse {α : Type} (l : List α) (n : Nat) (v : α) : List α := List.rec (motive := fun _ => Nat → List α) (fun _ => []) (fun h t ih n => Nat.rec (motive := fun _ => List α) (v :: t) (fun m _ => h :: ih m) n) l n
theorem xse_eq {α : Type} (l : List α) (n : Nat) (v : α) : xse l n v = l.set n v := by
  induction l generalizing n with
  | nil => rfl
  | cons h t ih =>
    cases n with
    | zero => rfl
    | succ n =>
      rw [List.set_cons_succ, ← ih]
      rfl
theorem xnb (a b : Nat) : (a == b) = Nat.beq a b := by
  cases h : Nat.beq a b with
  | true => rw [Nat.eq_of_beq_eq_true h]; exact beq_self_eq_true b
  | false => exact beq_eq_false_iff_ne.mpr (Nat.ne_of_beq_eq_false h)
noncomputable def xfd {α : Type} (l : List (Nat × α)) (k : Nat) : Option (Nat × α) := List.rec (motive := fun _ => Option (Nat × α)) none (fun h _ ih => bif Nat.beq h.1 k then some h else ih) l
theorem xfd_eq {α : Type} (l : List (Nat × α)) (k : Nat) : xfd l k = l.find? (fun q => q.1 == k) := by
  induction l with
  | nil => rfl
  | cons h t ih =>
    rw [List.find?_cons]
    show (bif Nat.beq h.1 k then some h else xfd t k) = _
    rw [ih]
    rw [xnb]
    cases Nat.beq h.1 k <;> rfl
noncomputable def xln {α : Type} (l : List α) : Nat := List.rec (motive := fun _ => Nat) 0 (fun _ _ ih => Nat.succ ih) l
theorem xln_eq {α : Type} (l : List α) : xln l = l.length := by
  induction l with
  | nil => rfl
  | cons h t ih =>
    rw [List.length_cons, ← ih]
    rfl
def xlt (a b : Int32) : Bool := Nat.blt ((a.toBitVec.toNat + 2147483648) % 4294967296) ((b.toBitVec.toNat + 2147483648) % 4294967296)
theorem xlt_iff (a b : Int32) : (xlt a b = true) = (a < b) := by
  apply propext
  unfold xlt
  rw [Nat.blt_eq, Int32.lt_iff_toInt_lt]
  have ha : a.toInt = a.toBitVec.toInt := rfl
  have hb : b.toInt = b.toBitVec.toInt := rfl
  rw [ha, hb, BitVec.toInt_eq_toNat_cond, BitVec.toInt_eq_toNat_cond]
  have h1 := a.toBitVec.isLt
  have h2 := b.toBitVec.isLt
  split <;> split <;> omega
def xeq (a b : Int32) : Bool := Nat.beq a.toBitVec.toNat b.toBitVec.toNat
theorem xeq_iff (a b : Int32) : (xeq a b = true) = (a = b) := by
  apply propext
  unfold xeq
  constructor
  · intro h
    exact Int32.toBitVec_inj.mp (BitVec.eq_of_toNat_eq (Nat.eq_of_beq_eq_true h))
  · intro h
    rw [h]
    exact Nat.beq_refl _
theorem xlt_eq (a b : Int32) : xlt a b = decide (a < b) := by
  cases h : xlt a b with
  | true => exact (decide_eq_true ((xlt_iff a b).mp h)).symm
  | false => exact (decide_eq_false (fun z => by rw [(xlt_iff a b).mpr z] at h; cases h)).symm
theorem xeq_eq (a b : Int32) : xeq a b = decide (a = b) := by
  cases h : xeq a b with
  | true => exact (decide_eq_true ((xeq_iff a b).mp h)).symm
  | false => exact (decide_eq_false (fun z => by rw [(xeq_iff a b).mpr z] at h; cases h)).symm
noncomputable def xe_lkF (tb : xI) (pc : Nat) : Option (Instr × Nat) := match xg tb (pc / 16) with
  | none => none
  | some b => match xfd b pc with
    | none => none
    | some q => some q.2
theorem xe_lkF_eq (tb : xI) (pc : Nat) : xe_lkF tb pc = xe_lk tb pc := by
  unfold xe_lkF xe_lk
  rw [xg_eq]
  cases tb[pc / 16]? with
  | none => rfl
  | some b =>
    dsimp only
    rw [xfd_eq]
    cases List.find? (fun q => q.fst == pc) b <;> rfl
def xe_ltF (iv : List (Int32 × Int32)) (x y : Value) : Option Bool := match x, y with
  | .int a, .int b => some (xlt a b)
  | x, y => xe_lt iv x y
theorem xe_ltF_eq (iv : List (Int32 × Int32)) (x y : Value) : xe_ltF iv x y = xe_lt iv x y := by
  unfold xe_ltF
  split
  · rw [xlt_eq]
    rfl
  · rfl
def xe_eqF (iv : List (Int32 × Int32)) (x y : Value) : Option Bool := match x, y with
  | .int a, .int b => some (xeq a b)
  | x, y => xe_eq iv x y
theorem xe_eqF_eq (iv : List (Int32 × Int32)) (x y : Value) : xe_eqF iv x y = xe_eq iv x y := by
  unfold xe_eqF
  split
  · rw [xeq_eq]
    rfl
  · rfl
def xe_cmpF (iv : List (Int32 × Int32)) (k : ClassFile.Cond) (x y : Value) : Option Bool := match k with
  | .eq => xe_eqF iv x y
  | .ne => match xe_eqF iv x y with
    | some b => some (!b)
    | none => none
  | .lt => xe_ltF iv x y
  | .ge => match xe_ltF iv x y with
    | some b => some (!b)
    | none => none
  | .gt => xe_ltF iv y x
  | .le => match xe_ltF iv y x with
    | some b => some (!b)
    | none => none
theorem xe_cmpF_eq (iv : List (Int32 × Int32)) (k : ClassFile.Cond) (x y : Value) : xe_cmpF iv k x y = xe_cmp iv k x y := by
  unfold xe_cmpF xe_cmp
  cases k <;> simp only [xe_ltF_eq, xe_eqF_eq] <;> rfl
noncomputable def xmF (k : Nat) : Option xME := match xg xMX (k / 16) with
  | some r => xg r (k % 16)
  | none => none
theorem xmF_eq (k : Nat) : xmF k = xm k := by
  unfold xmF xm
  rw [xg_eq]
  cases xMX[k / 16]? with
  | none => rfl
  | some r =>
    dsimp only
    rw [xg_eq]
noncomputable def xfF (oc i : Nat) : Option xFE := match xg xFL oc with
  | some r => xfd r i
  | none => none
theorem xfF_eq (oc i : Nat) : xfF oc i = xf oc i := by
  unfold xfF xf
  rw [xg_eq]
  cases xFL[oc]? with
  | none => rfl
  | some r =>
    dsimp only
    rw [xfd_eq]
noncomputable def xcF (oc i : Nat) : Option xCE := match xg xCL oc with
  | some r => xfd r i
  | none => none
theorem xcF_eq (oc i : Nat) : xcF oc i = xc oc i := by
  unfold xcF xc
  rw [xg_eq]
  cases xCL[oc]? with
  | none => rfl
  | some r =>
    dsimp only
    rw [xfd_eq]
/-- words of locals that arguments take -/
noncomputable def xe_cats (as : List Value) : Nat := List.rec (motive := fun _ => Nat) 0 (fun h _ ih => Nat.add h.category ih) as
theorem xe_cats_eq (as : List Value) : xe_cats as = (lg_sl as).length := by
  induction as with
  | nil => rfl
  | cons v t ih =>
    show v.category + xe_cats t = _
    rw [ih]
    unfold lg_sl
    rw [List.flatMap_cons, List.length_append]
    rcases lv_cat v with h | h <;> simp [h]
end
section
/-! instructions that touch neither cells nor methods -/
def xe_tg (pc : Nat) (off : Int) : Option Nat := if (0 : Int) ≤ (pc : Int) + off then some ((pc : Int) + off).toNat else none
theorem xe_tg_ok {pc : Nat} {off : Int} {t : Nat} (h : xe_tg pc off = some t) : (pc : Int) + off = (t : Int) := by
  unfold xe_tg at h
  split at h
  · rename_i h0
    cases h
    exact (Int.toNat_of_nonneg h0).symm
  · cases h
noncomputable def xe_ld (lv : xL) (i : Nat) : Option Value := match xfd lv i with
  | some q => some q.2
  | none => none
noncomputable def xe_s1 (lv : xL) (i : Nat) (v : Value) : xL := (i, v) :: List.rec (motive := fun _ => xL) [] (fun h _ ih => bif Nat.beq h.1 i || (Nat.beq (h.1 + 1) i && Nat.beq h.2.category 2) then ih else h :: ih) lv
theorem xe_s1_eq (lv : xL) (i : Nat) (v : Value) : xe_s1 lv i v = (i, v) :: lv.filter (fun q => !(q.1 == i) && !(q.1 + 1 == i && q.2.category == 2)) := by
  unfold xe_s1
  congr 1
  induction lv with
  | nil => rfl
  | cons h t ih =>
    rw [List.filter_cons, ← ih]
    rw [xnb, xnb, xnb]
    dsimp only
    cases Nat.beq h.1 i <;> cases Nat.beq (h.1 + 1) i <;> cases Nat.beq h.2.category 2 <;> rfl
def xe_s2 (lv : xL) (i : Nat) (v : Value) : xL := (i, v) :: lv.filter (fun q => !(q.1 == i) && (!(q.1 == i + 1) && !(q.1 + 1 == i && q.2.category == 2)))
def xe_isI (v : Value) : Bool := match v with
  | .int _ => true
  | .float _ => true
  | _ => false
def xe_isL (v : Value) : Bool := match v with
  | .long _ => true
  | .double _ => true
  | _ => false
def xe_isR (v : Value) : Bool := match v with
  | .ref _ => true
  | .retAddr _ => true
  | _ => false
abbrev xF : Type := Nat × xL × List Value
def xe_jmp (t : Option Nat) (lv : xL) (st : List Value) : Option xF := match t with
  | some t => some (t, lv, st)
  | none => none
def xe_br (iv : List (Int32 × Int32)) (k : ClassFile.Cond) (off : Int) (pc : Nat) (lv : xL) (x y : Value) (r : List Value) : Option xF := match xe_tg pc off with
  | some t => match xe_cmpF iv k x y with
    | some r' => some (bif r' then t else pc + 3, lv, r)
    | none => none
  | none => none
noncomputable def xa_iconst (n : Int) (pc : Nat) (lv : xL) (st : List Value) : Option xF := some (pc + 1, lv, .int (Int32.ofInt n) :: st)
noncomputable def xa_bipush (n : Int) (pc : Nat) (lv : xL) (st : List Value) : Option xF := some (pc + 2, lv, .int (Int8.ofInt n).toInt32 :: st)
noncomputable def xa_sipush (n : Int) (pc : Nat) (lv : xL) (st : List Value) : Option xF := some (pc + 3, lv, .int (Int16.ofInt n).toInt32 :: st)
noncomputable def xa_lconst (n : Fin 2) (pc : Nat) (lv : xL) (st : List Value) : Option xF := some (pc + 1, lv, .long (Int64.ofNat (n : Nat)) :: st)
noncomputable def xa_iload_n (k : Fin 4) (pc : Nat) (lv : xL) (st : List Value) : Option xF := match xe_ld lv k with
  | some v => if xe_isI v then some (pc + 1, lv, v :: st) else none
  | none => none
noncomputable def xa_iload (k : Nat) (pc : Nat) (lv : xL) (st : List Value) : Option xF := match xe_ld lv k with
  | some v => if xe_isI v then some (pc + 2, lv, v :: st) else none
  | none => none
noncomputable def xa_lload_n (k : Fin 4) (pc : Nat) (lv : xL) (st : List Value) : Option xF := match xe_ld lv k with
  | some v => if xe_isL v then some (pc + 1, lv, v :: st) else none
  | none => none
noncomputable def xa_lload (k : Nat) (pc : Nat) (lv : xL) (st : List Value) : Option xF := match xe_ld lv k with
  | some v => if xe_isL v then some (pc + 2, lv, v :: st) else none
  | none => none
noncomputable def xa_aload_n (k : Fin 4) (pc : Nat) (lv : xL) (st : List Value) : Option xF := match xe_ld lv k with
  | some v => if xe_isR v then some (pc + 1, lv, v :: st) else none
  | none => none
noncomputable def xa_aload (k : Nat) (pc : Nat) (lv : xL) (st : List Value) : Option xF := match xe_ld lv k with
  | some v => if xe_isR v then some (pc + 2, lv, v :: st) else none
  | none => none
noncomputable def xa_istore_n (k : Fin 4) (nL : Nat) (pc : Nat) (lv : xL) (st : List Value) : Option xF := match st with
  | v :: r => if xe_isI v && decide ((k : Nat) < nL) then some (pc + 1, xe_s1 lv k v, r) else none
  | [] => none
noncomputable def xa_istore (k : Nat) (nL : Nat) (pc : Nat) (lv : xL) (st : List Value) : Option xF := match st with
  | v :: r => if xe_isI v && decide (k < nL) then some (pc + 2, xe_s1 lv k v, r) else none
  | [] => none
noncomputable def xa_lstore_n (k : Fin 4) (nL : Nat) (pc : Nat) (lv : xL) (st : List Value) : Option xF := match st with
  | v :: r => if xe_isL v && decide ((k : Nat) + 1 < nL) then some (pc + 1, xe_s2 lv k v, r) else none
  | [] => none
noncomputable def xa_lstore (k : Nat) (nL : Nat) (pc : Nat) (lv : xL) (st : List Value) : Option xF := match st with
  | v :: r => if xe_isL v && decide (k + 1 < nL) then some (pc + 2, xe_s2 lv k v, r) else none
  | [] => none
noncomputable def xa_astore_n (k : Fin 4) (nL : Nat) (pc : Nat) (lv : xL) (st : List Value) : Option xF := match st with
  | v :: r => if xe_isR v && decide ((k : Nat) < nL) then some (pc + 1, xe_s1 lv k v, r) else none
  | [] => none
noncomputable def xa_astore (k : Nat) (nL : Nat) (pc : Nat) (lv : xL) (st : List Value) : Option xF := match st with
  | v :: r => if xe_isR v && decide (k < nL) then some (pc + 2, xe_s1 lv k v, r) else none
  | [] => none
noncomputable def xa_iinc (k : Nat) (n : Int) (nL : Nat) (pc : Nat) (lv : xL) (st : List Value) : Option xF := match xe_ld lv k with
  | some (.int x) => if k < nL then some (pc + 3, xe_s1 lv k (.int (x + Int32.ofInt n)), st) else none
  | _ => none
noncomputable def xa_iadd  (pc : Nat) (lv : xL) (st : List Value) : Option xF := match st with
  | .int y :: .int x :: r => some (pc + 1, lv, .int (x + y) :: r)
  | _ => none
noncomputable def xa_isub  (pc : Nat) (lv : xL) (st : List Value) : Option xF := match st with
  | .int y :: .int x :: r => some (pc + 1, lv, .int (x - y) :: r)
  | _ => none
noncomputable def xa_imul  (pc : Nat) (lv : xL) (st : List Value) : Option xF := match st with
  | .int y :: .int x :: r => some (pc + 1, lv, .int (x * y) :: r)
  | _ => none
noncomputable def xa_iand  (a6 : Option Int32) (pc : Nat) (lv : xL) (st : List Value) : Option xF := match st with
  | .int y :: .int x :: r => some (pc + 1, lv, .int (x &&& y) :: r)
  | .int y :: .float j :: r => match a6 with
    | some v => if y = 63 ∧ j = 0 then some (pc + 1, lv, .int v :: r) else none
    | none => none
  | _ => none
noncomputable def xa_ior  (pc : Nat) (lv : xL) (st : List Value) : Option xF := match st with
  | .int y :: .int x :: r => some (pc + 1, lv, .int (x ||| y) :: r)
  | _ => none
noncomputable def xa_ishl  (pc : Nat) (lv : xL) (st : List Value) : Option xF := match st with
  | .int y :: .int x :: r => some (pc + 1, lv, .int (x <<< (y &&& 31)) :: r)
  | _ => none
noncomputable def xa_ishr  (pc : Nat) (lv : xL) (st : List Value) : Option xF := match st with
  | .int y :: .int x :: r => some (pc + 1, lv, .int (x >>> (y &&& 31)) :: r)
  | _ => none
noncomputable def xa_idiv  (pc : Nat) (lv : xL) (st : List Value) : Option xF := match st with
  | .int y :: .int x :: r => if y = 0 then none else some (pc + 1, lv, .int (x / y) :: r)
  | _ => none
noncomputable def xa_irem  (pc : Nat) (lv : xL) (st : List Value) : Option xF := match st with
  | .int y :: .int x :: r => if y = 0 then none else some (pc + 1, lv, .int (x - x / y * y) :: r)
  | _ => none
noncomputable def xa_ladd  (pc : Nat) (lv : xL) (st : List Value) : Option xF := match st with
  | .long y :: .long x :: r => some (pc + 1, lv, .long (x + y) :: r)
  | _ => none
noncomputable def xa_lmul  (pc : Nat) (lv : xL) (st : List Value) : Option xF := match st with
  | .long y :: .long x :: r => some (pc + 1, lv, .long (x * y) :: r)
  | _ => none
noncomputable def xa_ldiv  (pc : Nat) (lv : xL) (st : List Value) : Option xF := match st with
  | .long y :: .long x :: r => if y = 0 then none else some (pc + 1, lv, .long (x / y) :: r)
  | _ => none
noncomputable def xa_lrem  (pc : Nat) (lv : xL) (st : List Value) : Option xF := match st with
  | .long y :: .long x :: r => if y = 0 then none else some (pc + 1, lv, .long (x - x / y * y) :: r)
  | _ => none
noncomputable def xa_lcmp  (iv : List (Int32 × Int32)) (pc : Nat) (lv : xL) (st : List Value) : Option xF := match st with
  | .long y :: .long x :: r => some (pc + 1, lv, .int (lg_cmp x y) :: r)
  | .long y :: .double j :: r => match iv[j.toNat]? with
    | some q => if q.2.toInt64 < y then some (pc + 1, lv, .int (-1) :: r) else if y < q.1.toInt64 then some (pc + 1, lv, .int 1 :: r) else none
    | none => none
  | _ => none
noncomputable def xa_i2l  (pc : Nat) (lv : xL) (st : List Value) : Option xF := match st with
  | .int x :: r => some (pc + 1, lv, .long x.toInt64 :: r)
  | .float j :: r => some (pc + 1, lv, .double j.toUInt64 :: r)
  | _ => none
noncomputable def xa_l2i  (pc : Nat) (lv : xL) (st : List Value) : Option xF := match st with
  | .long x :: r => some (pc + 1, lv, .int x.toInt32 :: r)
  | _ => none
noncomputable def xa_i2b  (pc : Nat) (lv : xL) (st : List Value) : Option xF := match st with
  | .int x :: r => some (pc + 1, lv, .int x.toInt8.toInt32 :: r)
  | _ => none
noncomputable def xa_ldc (k : Nat) (oc : Nat) (pc : Nat) (lv : xL) (st : List Value) : Option xF := match xk oc k with
  | some (_, .int v) => some (pc + 2, lv, .int v :: st)
  | _ => none
noncomputable def xa_ldc2_w (k : Nat) (oc : Nat) (pc : Nat) (lv : xL) (st : List Value) : Option xF := match xk oc k with
  | some (_, .long v) => some (pc + 3, lv, .long v :: st)
  | _ => none
noncomputable def xa_dup  (pc : Nat) (lv : xL) (st : List Value) : Option xF := match st with
  | v :: r => if v.category = 1 then some (pc + 1, lv, v :: v :: r) else none
  | [] => none
noncomputable def xa_dup2  (pc : Nat) (lv : xL) (st : List Value) : Option xF := match st with
  | v :: w :: r => if v.category = 1 ∧ w.category = 1 then some (pc + 1, lv, v :: w :: v :: w :: r) else none
  | _ => none
noncomputable def xa_pop  (pc : Nat) (lv : xL) (st : List Value) : Option xF := match st with
  | v :: r => if v.category = 1 then some (pc + 1, lv, r) else none
  | [] => none
noncomputable def xa_goto (off : Int) (pc : Nat) (lv : xL) (st : List Value) : Option xF := xe_jmp (xe_tg pc off) lv st
noncomputable def xa_if_icmp (k : ClassFile.Cond) (off : Int) (iv : List (Int32 × Int32)) (pc : Nat) (lv : xL) (st : List Value) : Option xF := match st with
  | y :: x :: r => xe_br iv k off pc lv x y r
  | _ => none
noncomputable def xa_ifCond (k : ClassFile.Cond) (off : Int) (iv : List (Int32 × Int32)) (pc : Nat) (lv : xL) (st : List Value) : Option xF := match st with
  | x :: r => xe_br iv k off pc lv x (.int 0) r
  | _ => none
noncomputable def xa_tableswitch (d : Int) (lo : Int) (hi : Int) (offs : Array Int) (iv : List (Int32 × Int32)) (pc : Nat) (lv : xL) (st : List Value) : Option xF := match st with
  | .int x :: r => if x.toInt < lo ∨ hi < x.toInt then xe_jmp (xe_tg pc d) lv r else match offs[(x.toInt - lo).toNat]? with
    | some off => xe_jmp (xe_tg pc off) lv r
    | none => none
  | .float j :: r => match iv[j.toNat]? with
    | some q => if q.2.toInt < lo ∨ hi < q.1.toInt then xe_jmp (xe_tg pc d) lv r else none
    | none => none
  | _ => none
noncomputable def xe_step1 (iv : List (Int32 × Int32)) (a6 : Option Int32) (oc nL : Nat) (i : Instr) (pc : Nat) (lv : xL) (st : List Value) : Option xF := match i with
  | .iconst n => xa_iconst n pc lv st
  | .bipush n => xa_bipush n pc lv st
  | .sipush n => xa_sipush n pc lv st
  | .lconst n => xa_lconst n pc lv st
  | .iload_n k => xa_iload_n k pc lv st
  | .iload k => xa_iload k pc lv st
  | .lload_n k => xa_lload_n k pc lv st
  | .lload k => xa_lload k pc lv st
  | .aload_n k => xa_aload_n k pc lv st
  | .aload k => xa_aload k pc lv st
  | .istore_n k => xa_istore_n k nL pc lv st
  | .istore k => xa_istore k nL pc lv st
  | .lstore_n k => xa_lstore_n k nL pc lv st
  | .lstore k => xa_lstore k nL pc lv st
  | .astore_n k => xa_astore_n k nL pc lv st
  | .astore k => xa_astore k nL pc lv st
  | .iinc k n => xa_iinc k n nL pc lv st
  | .iadd => xa_iadd pc lv st
  | .isub => xa_isub pc lv st
  | .imul => xa_imul pc lv st
  | .iand => xa_iand a6 pc lv st
  | .ior => xa_ior pc lv st
  | .ishl => xa_ishl pc lv st
  | .ishr => xa_ishr pc lv st
  | .idiv => xa_idiv pc lv st
  | .irem => xa_irem pc lv st
  | .ladd => xa_ladd pc lv st
  | .lmul => xa_lmul pc lv st
  | .ldiv => xa_ldiv pc lv st
  | .lrem => xa_lrem pc lv st
  | .lcmp => xa_lcmp iv pc lv st
  | .i2l => xa_i2l pc lv st
  | .l2i => xa_l2i pc lv st
  | .i2b => xa_i2b pc lv st
  | .ldc k => xa_ldc k oc pc lv st
  | .ldc2_w k => xa_ldc2_w k oc pc lv st
  | .dup => xa_dup pc lv st
  | .dup2 => xa_dup2 pc lv st
  | .pop => xa_pop pc lv st
  | .goto off => xa_goto off pc lv st
  | .if_icmp k off => xa_if_icmp k off iv pc lv st
  | .ifCond k off => xa_ifCond k off iv pc lv st
  | .tableswitch d lo hi offs => xa_tableswitch d lo hi offs iv pc lv st
  | _ => none
abbrev xe_lm (b B : Nat) (xs : Nat → Int32) (lv : xL) : xL := lv.map (fun q => (q.1, xe_cv b B xs q.2))
theorem xe_filter {b B : Nat} {xs : Nat → Int32} (P : Nat → Nat → Bool) (lv : xL) : (xe_lm b B xs lv).filter (fun q => P q.1 q.2.category) = xe_lm b B xs (lv.filter (fun q => P q.1 q.2.category)) := by
  induction lv with
  | nil => rfl
  | cons q t ih =>
    have h : P (q.1) (xe_cv b B xs q.2).category = P q.1 q.2.category := by rw [xe_cat]
    simp only [xe_lm, List.map_cons, List.filter_cons] at ih ⊢
    rw [h]
    split
    · rw [List.map_cons, ih]
    · exact ih
theorem xe_s1_map {b B : Nat} {xs : Nat → Int32} (lv : xL) (i : Nat) (v : Value) : (i, xe_cv b B xs v) :: (xe_lm b B xs lv).filter (fun q => !(q.1 == i) && !(q.1 + 1 == i && q.2.category == 2)) = xe_lm b B xs (xe_s1 lv i v) := by
  rw [xe_filter (fun a c => !(a == i) && !(a + 1 == i && c == 2)), xe_s1_eq]
  rfl
theorem xe_s2_map {b B : Nat} {xs : Nat → Int32} (lv : xL) (i : Nat) (v : Value) : (i, xe_cv b B xs v) :: (xe_lm b B xs lv).filter (fun q => !(q.1 == i) && (!(q.1 == i + 1) && !(q.1 + 1 == i && q.2.category == 2))) = xe_lm b B xs (xe_s2 lv i v) := by
  rw [xe_filter (fun a c => !(a == i) && (!(a == i + 1) && !(a + 1 == i && c == 2)))]
  rfl
theorem xe_ld_mem {lv : xL} {i : Nat} {v : Value} (h : xe_ld lv i = some v) : (i, v) ∈ lv := by
  unfold xe_ld at h
  rw [xfd_eq] at h
  split at h
  · rename_i q hq
    cases h
    have h1 : q.1 = i := by simpa using List.find?_some hq
    rw [← h1]
    exact List.mem_of_find?_eq_some hq
  · cases h
theorem xe_ld_ok {b B : Nat} {xs : Nat → Int32} {lv : xL} {ls : Array Slot} {nL i : Nat} {v : Value} (h : xe_ld lv i = some v) (hl : lv_has ls nL (xe_lm b B xs lv)) : ls[i]? = some (.val (xe_cv b B xs v)) :=
  hl.2.2 (i, xe_cv b B xs v) (List.mem_map.mpr ⟨(i, v), xe_ld_mem h, rfl⟩)
theorem xe_isI_ok {b B : Nat} {xs : Nat → Int32} {v : Value} (h : xe_isI v = true) : ∃ x, xe_cv b B xs v = .int x := by
  cases v <;> first | exact ⟨_, rfl⟩ | cases h
theorem xe_isL_ok {b B : Nat} {xs : Nat → Int32} {v : Value} (h : xe_isL v = true) : ∃ x, xe_cv b B xs v = .long x := by
  cases v <;> first | exact ⟨_, rfl⟩ | cases h
theorem xe_isR_ok {b B : Nat} {xs : Nat → Int32} {v : Value} (h : xe_isR v = true) : ∃ x, xe_cv b B xs v = .ref x := by
  cases v <;> first | exact ⟨_, rfl⟩ | cases h
section
variable {p : Program} {l : Launch} {e : Env} {R : Room} {s : State} {m : MethodId} {args : Array Value} {below : List Frame} {meth : Method} {c : Code} {H : Heap} {locs : List Loc} {cells slots : Nat} {Q : State → Prop}
variable {cc : ByteArray} {pc : Nat} {ls : Array Slot} {rest : List Value}
theorem xe_icmp (hx : p.tables.exec = Jvm.exec) (hb : c.code = cc) {k : ClassFile.Cond} {x y : Int32} {off : Int} {tgt : Nat} {r : Bool} (hd : decode cc pc = .ok (.if_icmp k off, 3)) (ht : (pc : Int) + off = (tgt : Int)) (hr : xe_holds k x y = r)
    (kk : W p l e R s m args below meth c H locs cells slots Q (F0 m (bif r then tgt else pc + 3) ls rest)) : W p l e R s m args below meth c H locs cells slots Q (F0 m pc ls (.int y :: .int x :: rest)) := by
  cases r with
  | true =>
    cases k with
    | eq => exact lv_icmp_eq hx hb hd ht (fun _ => kk) (fun q => absurd (of_decide_eq_true hr) q)
    | ne => exact lv_icmp_ne hx hb hd ht (fun _ => kk) (fun q => absurd q (of_decide_eq_true hr))
    | lt => exact lv_icmp_lt hx hb hd ht (fun _ => kk) (fun q => absurd (of_decide_eq_true hr) q)
    | ge => exact lv_icmp_ge hx hb hd ht (fun _ => kk) (fun q => absurd (of_decide_eq_true hr) q)
    | gt => exact lv_icmp_gt hx hb hd ht (fun _ => kk) (fun q => absurd (of_decide_eq_true hr) q)
    | le => exact lv_icmp_le hx hb hd ht (fun _ => kk) (fun q => absurd (of_decide_eq_true hr) q)
  | false =>
    cases k with
    | eq => exact lv_icmp_eq hx hb hd ht (fun q => absurd q (of_decide_eq_false hr)) (fun _ => kk)
    | ne => exact lv_icmp_ne hx hb hd ht (fun q => absurd q (of_decide_eq_false hr)) (fun _ => kk)
    | lt => exact lv_icmp_lt hx hb hd ht (fun q => absurd q (of_decide_eq_false hr)) (fun _ => kk)
    | ge => exact lv_icmp_ge hx hb hd ht (fun q => absurd q (of_decide_eq_false hr)) (fun _ => kk)
    | gt => exact lv_icmp_gt hx hb hd ht (fun q => absurd q (of_decide_eq_false hr)) (fun _ => kk)
    | le => exact lv_icmp_le hx hb hd ht (fun q => absurd q (of_decide_eq_false hr)) (fun _ => kk)
theorem xe_icmp0 (hx : p.tables.exec = Jvm.exec) (hb : c.code = cc) {k : ClassFile.Cond} {x : Int32} {off : Int} {tgt : Nat} {r : Bool} (hd : decode cc pc = .ok (.ifCond k off, 3)) (ht : (pc : Int) + off = (tgt : Int)) (hr : xe_holds k x 0 = r)
    (kk : W p l e R s m args below meth c H locs cells slots Q (F0 m (bif r then tgt else pc + 3) ls rest)) : W p l e R s m args below meth c H locs cells slots Q (F0 m pc ls (.int x :: rest)) := by
  cases r with
  | true =>
    cases k with
    | eq => exact lv_if_eq hx hb hd ht (fun _ => kk) (fun q => absurd (of_decide_eq_true hr) q)
    | ne => exact lv_if_ne hx hb hd ht (fun _ => kk) (fun q => absurd q (of_decide_eq_true hr))
    | lt => exact lv_if_lt hx hb hd ht (fun _ => kk) (fun q => absurd (of_decide_eq_true hr) q)
    | ge => exact lv_if_ge hx hb hd ht (fun _ => kk) (fun q => absurd (of_decide_eq_true hr) q)
    | gt => exact lv_if_gt hx hb hd ht (fun _ => kk) (fun q => absurd (of_decide_eq_true hr) q)
    | le => exact lv_if_le hx hb hd ht (fun _ => kk) (fun q => absurd (of_decide_eq_true hr) q)
  | false =>
    cases k with
    | eq => exact lv_if_eq hx hb hd ht (fun q => absurd q (of_decide_eq_false hr)) (fun _ => kk)
    | ne => exact lv_if_ne hx hb hd ht (fun q => absurd q (of_decide_eq_false hr)) (fun _ => kk)
    | lt => exact lv_if_lt hx hb hd ht (fun q => absurd q (of_decide_eq_false hr)) (fun _ => kk)
    | ge => exact lv_if_ge hx hb hd ht (fun q => absurd q (of_decide_eq_false hr)) (fun _ => kk)
    | gt => exact lv_if_gt hx hb hd ht (fun q => absurd q (of_decide_eq_false hr)) (fun _ => kk)
    | le => exact lv_if_le hx hb hd ht (fun q => absurd q (of_decide_eq_false hr)) (fun _ => kk)
variable {b B : Nat} {xs : Nat → Int32} {iv : List (Int32 × Int32)} {a6 : Option Int32} {oc nL : Nat}
theorem xe_jmp_ok {t : Option Nat} {lv : xL} {st : List Value} {f : xF} (h : xe_jmp t lv st = some f) : ∃ t', t = some t' ∧ f = (t', lv, st) := by
  unfold xe_jmp at h
  split at h
  · cases h
    exact ⟨_, rfl, rfl⟩
  · cases h
theorem xe_br_ok {k : ClassFile.Cond} {off : Int} {lv : xL} {x y : Value} {r : List Value} {f : xF} (hi : xe_in iv xs) (h : xe_br iv k off pc lv x y r = some f) : ∃ (t : Nat) (r' : Bool) (a d : Int32), (pc : Int) + off = (t : Int) ∧ xe_cv b B xs x = .int a ∧ xe_cv b B xs y = .int d ∧ xe_holds k a d = r' ∧ f = (bif r' then t else pc + 3, lv, r) := by
  unfold xe_br at h
  rw [xe_cmpF_eq] at h
  split at h
  · rename_i t ht
    split at h
    · rename_i r' hr
      cases h
      obtain ⟨a, d, h1, h2, h3⟩ := xe_cmp_ok (b := b) (B := B) hi hr
      exact ⟨t, r', a, d, xe_tg_ok ht, h1, h2, h3, rfl⟩
    · cases h
  · cases h
set_option maxHeartbeats 4000000 in
theorem xe_step1_ok (hx : p.tables.exec = Jvm.exec) (hb : c.code = cc) (hown : s.vm.findClass (RO oc) = some m.cls) (hts : ∀ w ∈ xWS, w.before args s = true) (hi : xe_in iv xs) (h6 : ∀ v, a6 = some v → xs 0 &&& 63 = v) {i : Instr} {len : Nat} {lv : xL} {st : List Value} {f : xF} (hd : decode cc pc = .ok (i, xe_len i len)) (hl : lv_has ls nL (xe_lm b B xs lv)) (h : xe_step1 iv a6 oc nL i pc lv st = some f)
    (k : ∀ ls' : Array Slot, lv_has ls' nL (xe_lm b B xs f.2.1) → W p l e R s m args below meth c H locs cells slots Q (F0 m f.1 ls' (f.2.2.map (xe_cv b B xs)))) : W p l e R s m args below meth c H locs cells slots Q (F0 m pc ls (st.map (xe_cv b B xs))) := by
  have ld : ∀ {n : Nat} {v : Value}, xe_ld lv n = some v → ls[n]? = some (.val (xe_cv b B xs v)) := fun q => xe_ld_ok q hl
  unfold xe_step1 at h
  split at h
  · unfold xa_iconst at h
    cases h
    exact lv_iconst hx hb hd rfl (k ls hl)
  · unfold xa_bipush at h
    cases h
    exact lv_bipush hx hb hd rfl (k ls hl)
  · unfold xa_sipush at h
    cases h
    exact lv_sipush hx hb hd rfl (k ls hl)
  · unfold xa_lconst at h
    cases h
    exact lv_lconst hx hb hd rfl (k ls hl)
  · unfold xa_iload_n at h
    split at h
    · rename_i v hv
      split at h
      · rename_i hI
        cases h
        have h2 := ld hv
        have h3 := k ls hl
        obtain ⟨x, ex⟩ := xe_isI_ok (b := b) (B := B) (xs := xs) hI
        rw [List.map_cons, ex] at h3
        rw [ex] at h2
        exact lv_iload_n hx hb hd rfl h2 h3
      · cases h
    · cases h
  · unfold xa_iload at h
    split at h
    · rename_i v hv
      split at h
      · rename_i hI
        cases h
        have h2 := ld hv
        have h3 := k ls hl
        obtain ⟨x, ex⟩ := xe_isI_ok (b := b) (B := B) (xs := xs) hI
        rw [List.map_cons, ex] at h3
        rw [ex] at h2
        exact lv_iload hx hb hd h2 h3
      · cases h
    · cases h
  · unfold xa_lload_n at h
    split at h
    · rename_i v hv
      split at h
      · rename_i hI
        cases h
        have h2 := ld hv
        have h3 := k ls hl
        obtain ⟨x, ex⟩ := xe_isL_ok (b := b) (B := B) (xs := xs) hI
        rw [List.map_cons, ex] at h3
        rw [ex] at h2
        exact lv_lload_n hx hb hd rfl h2 h3
      · cases h
    · cases h
  · unfold xa_lload at h
    split at h
    · rename_i v hv
      split at h
      · rename_i hI
        cases h
        have h2 := ld hv
        have h3 := k ls hl
        obtain ⟨x, ex⟩ := xe_isL_ok (b := b) (B := B) (xs := xs) hI
        rw [List.map_cons, ex] at h3
        rw [ex] at h2
        exact lv_lload hx hb hd h2 h3
      · cases h
    · cases h
  · unfold xa_aload_n at h
    split at h
    · rename_i v hv
      split at h
      · rename_i hI
        cases h
        have h2 := ld hv
        have h3 := k ls hl
        obtain ⟨x, ex⟩ := xe_isR_ok (b := b) (B := B) (xs := xs) hI
        rw [List.map_cons, ex] at h3
        rw [ex] at h2
        exact lv_aload_n hx hb hd rfl h2 h3
      · cases h
    · cases h
  · unfold xa_aload at h
    split at h
    · rename_i v hv
      split at h
      · rename_i hI
        cases h
        have h2 := ld hv
        have h3 := k ls hl
        obtain ⟨x, ex⟩ := xe_isR_ok (b := b) (B := B) (xs := xs) hI
        rw [List.map_cons, ex] at h3
        rw [ex] at h2
        exact lv_aload hx hb hd h2 h3
      · cases h
    · cases h
  · unfold xa_istore_n at h
    split at h
    · rename_i v r
      split at h
      · rename_i hI
        cases h
        rw [Bool.and_eq_true] at hI
        obtain ⟨x, ex⟩ := xe_isI_ok (b := b) (B := B) (xs := xs) hI.1
        rw [List.map_cons, ex]
        exact lv_istore_n hx hb hd rfl hl (of_decide_eq_true hI.2) (by rw [← ex]; exact xe_s1_map lv _ v) k
      · cases h
    · cases h
  · unfold xa_istore at h
    split at h
    · rename_i v r
      split at h
      · rename_i hI
        cases h
        rw [Bool.and_eq_true] at hI
        obtain ⟨x, ex⟩ := xe_isI_ok (b := b) (B := B) (xs := xs) hI.1
        rw [List.map_cons, ex]
        exact lv_istore hx hb hd hl (of_decide_eq_true hI.2) (by rw [← ex]; exact xe_s1_map lv _ v) k
      · cases h
    · cases h
  · unfold xa_lstore_n at h
    split at h
    · rename_i v r
      split at h
      · rename_i hI
        cases h
        rw [Bool.and_eq_true] at hI
        obtain ⟨x, ex⟩ := xe_isL_ok (b := b) (B := B) (xs := xs) hI.1
        rw [List.map_cons, ex]
        exact lv_lstore_n hx hb hd rfl hl (of_decide_eq_true hI.2) (by rw [← ex]; exact xe_s2_map lv _ v) k
      · cases h
    · cases h
  · unfold xa_lstore at h
    split at h
    · rename_i v r
      split at h
      · rename_i hI
        cases h
        rw [Bool.and_eq_true] at hI
        obtain ⟨x, ex⟩ := xe_isL_ok (b := b) (B := B) (xs := xs) hI.1
        rw [List.map_cons, ex]
        exact lv_lstore hx hb hd hl (of_decide_eq_true hI.2) (by rw [← ex]; exact xe_s2_map lv _ v) k
      · cases h
    · cases h
  · unfold xa_astore_n at h
    split at h
    · rename_i v r
      split at h
      · rename_i hI
        cases h
        rw [Bool.and_eq_true] at hI
        obtain ⟨x, ex⟩ := xe_isR_ok (b := b) (B := B) (xs := xs) hI.1
        rw [List.map_cons, ex]
        exact lv_astore_n hx hb hd rfl hl (of_decide_eq_true hI.2) (by rw [← ex]; exact xe_s1_map lv _ v) k
      · cases h
    · cases h
  · unfold xa_astore at h
    split at h
    · rename_i v r
      split at h
      · rename_i hI
        cases h
        rw [Bool.and_eq_true] at hI
        obtain ⟨x, ex⟩ := xe_isR_ok (b := b) (B := B) (xs := xs) hI.1
        rw [List.map_cons, ex]
        exact lv_astore hx hb hd hl (of_decide_eq_true hI.2) (by rw [← ex]; exact xe_s1_map lv _ v) k
      · cases h
    · cases h
  · unfold xa_iinc at h
    split at h
    · rename_i x hv
      split at h
      · rename_i hI
        cases h
        have hm : (_, Value.int x) ∈ xe_lm b B xs lv := List.mem_map.mpr ⟨(_, .int x), xe_ld_mem hv, rfl⟩
        obtain ⟨n, hn⟩ := List.getElem?_of_mem hm
        exact lv_iinc hx hb hd hl hn rfl hI (xe_s1_map lv _ (.int _)) k
      · cases h
    · cases h
  · unfold xa_iadd at h
    split at h
    · cases h
      exact lv_iadd hx hb hd (k ls hl)
    · cases h
  · unfold xa_isub at h
    split at h
    · cases h
      exact lv_isub hx hb hd (k ls hl)
    · cases h
  · unfold xa_imul at h
    split at h
    · cases h
      exact lv_imul hx hb hd (k ls hl)
    · cases h
  · unfold xa_iand at h
    split at h
    · cases h
      exact lv_iand hx hb hd (k ls hl)
    · split at h
      · rename_i v
        split at h
        · rename_i h0
          cases h
          obtain ⟨rfl, rfl⟩ := h0
          have h3 := k ls hl
          rw [List.map_cons, show xe_cv b B xs (.int v) = .int v from rfl, ← h6 v rfl] at h3
          exact lv_iand hx hb hd h3
        · cases h
      · cases h
    · cases h
  · unfold xa_ior at h
    split at h
    · cases h
      exact lv_ior hx hb hd (k ls hl)
    · cases h
  · unfold xa_ishl at h
    split at h
    · cases h
      exact lv_ishl hx hb hd (k ls hl)
    · cases h
  · unfold xa_ishr at h
    split at h
    · cases h
      exact lv_ishr hx hb hd (k ls hl)
    · cases h
  · unfold xa_idiv at h
    split at h
    · split at h
      · cases h
      · rename_i h0
        cases h
        exact lv_idiv hx hb hd h0 (k ls hl)
    · cases h
  · unfold xa_irem at h
    split at h
    · split at h
      · cases h
      · rename_i h0
        cases h
        exact lv_irem hx hb hd h0 (k ls hl)
    · cases h
  · unfold xa_ladd at h
    split at h
    · cases h
      exact lv_ladd hx hb hd (k ls hl)
    · cases h
  · unfold xa_lmul at h
    split at h
    · cases h
      exact lv_lmul hx hb hd (k ls hl)
    · cases h
  · unfold xa_ldiv at h
    split at h
    · split at h
      · cases h
      · rename_i h0
        cases h
        exact lv_ldiv hx hb hd h0 (k ls hl)
    · cases h
  · unfold xa_lrem at h
    split at h
    · split at h
      · cases h
      · rename_i h0
        cases h
        exact lv_lrem hx hb hd h0 (k ls hl)
    · cases h
  · unfold xa_lcmp at h
    split at h
    · cases h
      exact W.lcmp hx hb hd (k ls hl)
    · rename_i y j r
      split at h
      · rename_i q hq
        have h1 := hi _ q hq
        rw [Int32.le_iff_toInt_le, Int32.le_iff_toInt_le] at h1
        split at h
        · rename_i h2
          cases h
          rw [Int64.lt_iff_toInt_lt, Int32.toInt_toInt64] at h2
          have h3 := k ls hl
          have h4 : lg_cmp (xs j.toNat).toInt64 y = -1 := by
            unfold lg_cmp
            rw [if_neg, if_neg]
            · intro q
              rw [← q, Int32.toInt_toInt64] at h2
              omega
            · rw [gt_iff_lt, Int64.lt_iff_toInt_lt, Int32.toInt_toInt64]
              omega
          rw [← h4] at h3
          exact W.lcmp hx hb hd h3
        · split at h
          · rename_i h2
            cases h
            rw [Int64.lt_iff_toInt_lt, Int32.toInt_toInt64] at h2
            have h3 := k ls hl
            have h4 : lg_cmp (xs j.toNat).toInt64 y = 1 := by
              unfold lg_cmp
              rw [if_pos]
              rw [gt_iff_lt, Int64.lt_iff_toInt_lt, Int32.toInt_toInt64]
              omega
            rw [← h4] at h3
            exact W.lcmp hx hb hd h3
          · cases h
      · cases h
    · cases h
  · unfold xa_i2l at h
    split at h
    · cases h
      exact lv_i2l hx hb hd rfl (k ls hl)
    · rename_i j r
      cases h
      exact lv_i2l (x := xs j.toNat) (v := (xs j.toUInt64.toNat).toInt64) hx hb hd (by rw [UInt32.toNat_toUInt64]) (k ls hl)
    · cases h
  · unfold xa_l2i at h
    split at h
    · cases h
      exact lv_l2i hx hb hd rfl (k ls hl)
    · cases h
  · unfold xa_i2b at h
    split at h
    · cases h
      exact lv_i2b hx hb hd rfl (k ls hl)
    · cases h
  · unfold xa_ldc at h
    split at h
    · rename_i v hv
      cases h
      obtain ⟨h1, h2⟩ := xk_ok hv
      dsimp only at h2
      subst h2
      exact lv_ldc hx hb hown (hts _ h1) hd (k ls hl)
    · cases h
  · unfold xa_ldc2_w at h
    split at h
    · rename_i v hv
      cases h
      obtain ⟨h1, h2⟩ := xk_ok hv
      dsimp only at h2
      subst h2
      exact lv_ldc2 hx hb hown (hts _ h1) hd (k ls hl)
    · cases h
  · unfold xa_dup at h
    split at h
    · split at h
      · rename_i h0
        cases h
        exact lv_dup hx hb hd (by rw [xe_cat]; exact h0) (k ls hl)
      · cases h
    · cases h
  · unfold xa_dup2 at h
    split at h
    · split at h
      · rename_i h0
        cases h
        exact lv_dup2_11 hx hb hd (by rw [xe_cat]; exact h0.1) (by rw [xe_cat]; exact h0.2) (k ls hl)
      · cases h
    · cases h
  · unfold xa_pop at h
    split at h
    · split at h
      · rename_i h0
        cases h
        exact lv_pop hx hb hd (by rw [xe_cat]; exact h0) (k ls hl)
      · cases h
    · cases h
  · unfold xa_goto at h
    obtain ⟨t, ht, rfl⟩ := xe_jmp_ok h
    exact lv_goto hx hb hd (xe_tg_ok ht) (k ls hl)
  · unfold xa_if_icmp at h
    split at h
    · obtain ⟨t, r', a, d, ht, h1, h2, h3, rfl⟩ := xe_br_ok (b := b) (B := B) hi h
      rw [List.map_cons, List.map_cons, h1, h2]
      exact xe_icmp hx hb hd ht h3 (k ls hl)
    · cases h
  · unfold xa_ifCond at h
    split at h
    · obtain ⟨t, r', a, d, ht, h1, h2, h3, rfl⟩ := xe_br_ok (b := b) (B := B) hi h
      have h2 : (0 : Int32) = d := Value.int.inj h2
      subst h2
      rw [List.map_cons, h1]
      exact xe_icmp0 hx hb hd ht h3 (k ls hl)
    · cases h
  · unfold xa_tableswitch at h
    split at h
    · split at h
      · rename_i h0
        obtain ⟨t, ht, rfl⟩ := xe_jmp_ok h
        exact lv_tableOut hx hb hd h0 (xe_tg_ok ht) (k ls hl)
      · rename_i h0
        split at h
        · rename_i off ho
          obtain ⟨t, ht, rfl⟩ := xe_jmp_ok h
          exact lv_tableIn hx hb hd (fun q => h0 (Or.inl q)) (fun q => h0 (Or.inr q)) ho (xe_tg_ok ht) (k ls hl)
        · cases h
    · split at h
      · rename_i q hq
        have h1 := hi _ q hq
        rw [Int32.le_iff_toInt_le, Int32.le_iff_toInt_le] at h1
        split at h
        · rename_i h0
          obtain ⟨t, ht, rfl⟩ := xe_jmp_ok h
          exact lv_tableOut hx hb hd (by omega) (xe_tg_ok ht) (k ls hl)
        · cases h
      · cases h
    · cases h
  · cases h
end
end
section
/-! cells: what the pure machine's memory means, and the instructions that read and write it -/
def xe_iof (v : Value) : Int32 := match v with
  | .int x => x
  | _ => 0
def xe_rof (v : Value) : Option Nat := match v with
  | .ref a => some a
  | _ => none
def xe_el (aC : Nat → ClassId) (cv : Value → Value) (q : xC) : va_E :=
  if q.1 < 12 then .inr (q.1, q.2.map cv)
  else if q.1 = 12 then .inl (aC 0, q.2.length, .inl (fun j => xe_iof (cv (q.2.getD j .null))))
  else .inl (aC (q.1 - 12), q.2.length, .inr (.inr (.inr (.inr (fun j => xe_rof (cv (q.2.getD j .null)))))))
def xe_ws (aC : Nat → ClassId) (cv : Value → Value) (B : Nat) (M : xM) : va_W := M.mapIdx (fun k q => (B + k, xe_el aC cv q))
def xe_ty (aC : Nat → ClassId) : List (ClassId × FieldType) := [(aC 0, .int), (aC 1, .object RX0), (aC 2, .object RX2), (aC 3, .object RX7)]
def xe_K (D : va_G) (aC : Nat → ClassId) (U : State) : Prop := va_K D vwCl (xe_ty aC) U ∧ (va_AO RX0 U ∧ va_AO RX2 U ∧ va_AO RX7 U) ∧ ∀ w ∈ xnw, va_Nw w U
abbrev xe_A (B : Nat) : Nat → Prop := fun q => B ≤ q
section
variable {aC : Nat → ClassId} {cv : Value → Value} {B : Nat} {M : xM}
theorem xe_ws_get {k : Nat} {q : xC} (h : M[k]? = some q) : (xe_ws aC cv B M)[k]? = some (B + k, xe_el aC cv q) := by
  rw [xe_ws, List.getElem?_mapIdx, h]
  rfl
theorem xe_ws_inv {k : Nat} {x : Nat × va_E} (h : (xe_ws aC cv B M)[k]? = some x) : k < M.length ∧ x.1 = B + k := by
  rw [xe_ws, List.getElem?_mapIdx] at h
  cases hk : M[k]? with
  | none => rw [hk] at h; cases h
  | some q =>
    rw [hk] at h
    cases h
    exact ⟨(List.getElem?_eq_some_iff.mp hk).1, rfl⟩
theorem xe_ws_set (k : Nat) (q : xC) : (xe_ws aC cv B M).set k (B + k, xe_el aC cv q) = xe_ws aC cv B (M.set k q) := by
  apply List.ext_getElem?
  intro j
  rw [List.getElem?_set, xe_ws, xe_ws, List.getElem?_mapIdx, List.getElem?_mapIdx, List.getElem?_set, List.length_mapIdx]
  by_cases h : k = j
  · subst h
    simp only [if_true]
    by_cases h2 : k < M.length
    · simp [h2]
    · simp [h2]
  · simp [h]
theorem xe_ws_app (q : xC) : xe_ws aC cv B M ++ [(B + M.length, xe_el aC cv q)] = xe_ws aC cv B (M ++ [q]) := by
  simp [xe_ws, List.mapIdx_append]
theorem xe_ws_D : va_D (xe_A B) (xe_ws aC cv B M) := by
  refine ⟨fun i j p q hi hj e => ?_, fun k q hk => ?_⟩
  · have h1 := (xe_ws_inv hi).2
    have h2 := (xe_ws_inv hj).2
    omega
  · have h1 := (xe_ws_inv hk).2
    show B ≤ q.1
    omega
theorem xe_el_obj {ci : Nat} {fs : List Value} (h : ci < 12) : xe_el aC cv (ci, fs) = .inr (ci, fs.map cv) := by
  unfold xe_el
  rw [if_pos h]
theorem xe_el_int {vs : List Value} : xe_el aC cv (12, vs) = .inl (aC 0, vs.length, .inl (fun j => xe_iof (cv (vs.getD j .null)))) := rfl
theorem xe_el_ref {t : Nat} {vs : List Value} (h : 12 < t) : xe_el aC cv (t, vs) = .inl (aC (t - 12), vs.length, .inr (.inr (.inr (.inr (fun j => xe_rof (cv (vs.getD j .null))))))) := by
  unfold xe_el
  rw [if_neg (by show ¬ t < 12; omega), if_neg (by show ¬ t = 12; omega)]
theorem xe_upd {vs : List Value} {i : Nat} (v : Value) (h : i < vs.length) : upd (fun j => xe_iof (cv (vs.getD j .null))) i (xe_iof (cv v)) = fun j => xe_iof (cv ((vs.set i v).getD j .null)) := by
  funext j
  unfold upd
  by_cases e : j = i
  · subst e
    simp [List.getD_eq_getElem?_getD, List.getElem?_set, h]
  · simp [List.getD_eq_getElem?_getD, List.getElem?_set, e, Ne.symm e]
theorem xe_updR {vs : List Value} {i : Nat} (v : Value) (h : i < vs.length) : va_up (fun j => xe_rof (cv (vs.getD j .null))) i (xe_rof (cv v)) = fun j => xe_rof (cv ((vs.set i v).getD j .null)) := by
  funext j
  unfold va_up
  by_cases e : j = i
  · subst e
    simp [List.getD_eq_getElem?_getD, List.getElem?_set, h]
  · simp [List.getD_eq_getElem?_getD, List.getElem?_set, e, Ne.symm e]
end
def xe_vtag (v : Value) : Nat := match v with
  | .int _ => 0
  | .float _ => 0
  | .long _ => 1
  | .double _ => 1
  | .ref _ => 2
  | .null => 2
  | .retAddr _ => 3
def xe_okst (t ci : Nat) : Bool := match t with
  | 13 => ci == 0
  | 14 => ci == 2
  | 15 => ci == 3 || (ci == 4 || (ci == 5 || (ci == 6 || (ci == 8 || ci == 9))))
  | _ => false
theorem xe_okst_ok {t ci : Nat} (h : xe_okst t ci = true) : (t = 13 ∧ ci = 0) ∨ (t = 14 ∧ ci = 2) ∨ (t = 15 ∧ (ci = 3 ∨ ci = 4 ∨ ci = 5 ∨ ci = 6 ∨ ci = 8 ∨ ci = 9)) := by
  unfold xe_okst at h
  split at h
  · exact Or.inl ⟨rfl, by simpa using h⟩
  · exact Or.inr (Or.inl ⟨rfl, by simpa using h⟩)
  · exact Or.inr (Or.inr ⟨rfl, by simpa using h⟩)
  · cases h
def xe_isN (v : Value) : Bool := match v with
  | .ref _ => true
  | .null => true
  | _ => false
noncomputable def xb_getfield (k : Nat) (oc : Nat) (pc : Nat) (lv : xL) (st : List Value) (M : xM) : Option (xF × xM) := match st with
  | .ref a :: r => match xg M a with
    | some q => match xfF oc k with
      | some e => if q.1 < 12 ∧ e.2.2.2.2.contains q.1 = true then match xg q.2 e.2.1 with
          | some v => some ((pc + 3, lv, v :: r), M)
          | none => none
        else none
      | none => none
    | none => none
  | _ => none
noncomputable def xb_putfield (k : Nat) (oc : Nat) (ini : Bool) (pc : Nat) (lv : xL) (st : List Value) (M : xM) : Option (xF × xM) := match st with
  | v :: .ref a :: r => match xg M a with
    | some q => match xfF oc k with
      | some e => if (q.1 < 12 ∧ e.2.2.2.2.contains q.1 = true) ∧ (xe_vtag v = e.2.2.1 ∧ (e.2.2.2.1 = true → ini = true) ∧ e.2.2.1 < 3) ∧ e.2.1 < xln q.2 then some ((pc + 3, lv, r), xse M a (q.1, xse q.2 e.2.1 v)) else none
      | none => none
    | none => none
  | _ => none
noncomputable def xb_iaload  (sc : Option (List Value)) (pc : Nat) (lv : xL) (st : List Value) (M : xM) : Option (xF × xM) := match st with
  | .int j :: .ref a :: r => match xg M a with
    | some q => if q.1 = 12 ∧ ¬ xlt j 0 = true then match xg q.2 j.toNatClampNeg with
        | some v => if xe_isI v = true then some ((pc + 1, lv, v :: r), M) else none
        | none => none
      else none
    | none => none
  | .int j :: .retAddr _ :: r => match sc with
    | some vs => if ¬ xlt j 0 = true then match xg vs j.toNatClampNeg with
        | some v => if xe_isI v = true then some ((pc + 1, lv, v :: r), M) else none
        | none => none
      else none
    | none => none
  | _ => none
noncomputable def xb_iastore  (pc : Nat) (lv : xL) (st : List Value) (M : xM) : Option (xF × xM) := match st with
  | v :: .int j :: .ref a :: r => match xg M a with
    | some q => if q.1 = 12 ∧ xe_isI v = true ∧ ¬ xlt j 0 = true ∧ j.toNatClampNeg < xln q.2 then some ((pc + 1, lv, r), xse M a (12, xse q.2 j.toNatClampNeg v)) else none
    | none => none
  | _ => none
noncomputable def xb_aaload  (pc : Nat) (lv : xL) (st : List Value) (M : xM) : Option (xF × xM) := match st with
  | .int j :: .ref a :: r => match xg M a with
    | some q => if (12 < q.1 ∧ q.1 < 16) ∧ ¬ xlt j 0 = true then match xg q.2 j.toNatClampNeg with
        | some v => if xe_isN v = true then some ((pc + 1, lv, v :: r), M) else none
        | none => none
      else none
    | none => none
  | _ => none
noncomputable def xb_aastore  (pc : Nat) (lv : xL) (st : List Value) (M : xM) : Option (xF × xM) := match st with
  | .ref o :: .int j :: .ref a :: r => match xg M a with
    | some q => match xg M o with
      | some q' => if xe_okst q.1 q'.1 = true ∧ ¬ xlt j 0 = true ∧ j.toNatClampNeg < xln q.2 then some ((pc + 1, lv, r), xse M a (q.1, xse q.2 j.toNatClampNeg (.ref o))) else none
      | none => none
    | none => none
  | _ => none
noncomputable def xb_arraylength  (sc : Option (List Value)) (pc : Nat) (lv : xL) (st : List Value) (M : xM) : Option (xF × xM) := match st with
  | .ref a :: r => match xg M a with
    | some q => if 12 ≤ q.1 ∧ q.1 < 16 then some ((pc + 1, lv, .int (Int32.ofNat (xln q.2)) :: r), M) else none
    | none => none
  | .retAddr _ :: r => match sc with
    | some vs => some ((pc + 1, lv, .int (Int32.ofNat (xln vs)) :: r), M)
    | none => none
  | _ => none
noncomputable def xe_step2 (sc : Option (List Value)) (oc : Nat) (ini : Bool) (i : Instr) (pc : Nat) (lv : xL) (st : List Value) (M : xM) : Option (xF × xM) := match i with
  | .getfield k => xb_getfield k oc pc lv st M
  | .putfield k => xb_putfield k oc ini pc lv st M
  | .iaload => xb_iaload sc pc lv st M
  | .iastore => xb_iastore pc lv st M
  | .aaload => xb_aaload pc lv st M
  | .aastore => xb_aastore pc lv st M
  | .arraylength => xb_arraylength sc pc lv st M
  | _ => none
section
variable {p : Program} {l : Launch} {e : Env} {R : Room} {s : State} {m : MethodId} {args : Array Value} {below : List Frame} {meth : Method} {c : Code} {H : Heap} {locs : List Loc} {cells slots : Nat} {Q : State → Prop}
variable {cc : ByteArray} {pc : Nat} {ls : Array Slot} {b B : Nat} {xs : Nat → Int32} {oc : Nat} {D : va_G} {aC : Nat → ClassId}
theorem xe_fits {ty : FieldType} {v : Value} {n : Nat} (h : xe_tag ty = n) (hv : xe_vtag v = n) (hn : n < 3) : narrow ty (xe_cv b B xs v) = xe_cv b B xs v ∧ fits ty (xe_cv b B xs v) = true := by
  cases ty <;> cases v <;> simp_all [xe_tag, xe_vtag, xe_cv, narrow, fits] <;> omega
theorem xe_asg (hK : xe_K D aC s) {C : String} (hc : Cond.castable C RX7 ∈ xnw) : ∀ comp c0 : ClassId, s.vm.findClass RX7 = some comp → s.vm.findClass C = some c0 → s.vm.assignable c0 comp = true := by
  intro comp c0 h1 h2
  obtain ⟨x, y, e1, e2, e3⟩ := Cond.castable_spec (hK.2.2 _ hc)
  rw [h2] at e1
  rw [h1] at e2
  cases e1
  cases e2
  exact e3
set_option maxHeartbeats 4000000 in
theorem xe_step2_ok (hx : p.tables.exec = Jvm.exec) (hb : c.code = cc) (hown : s.vm.findClass (RO oc) = some m.cls) (hts : ∀ w ∈ xWS, w.before args s = true) (hK : xe_K D aC s) {ini : Bool} (hin : ini = true → meth.name = "<init>") {sc : Option (List Value)}
    (hsc : ∀ vs, sc = some vs → va_X b vs.length (fun j => xe_iof (xe_cv b B xs (vs.getD j .null))) s s.heap ∧ b < s.heap.size ∧ b < B) (hS : va_S (xe_A B) s.heap H locs) {M : xM} (hP : va_P D vwCl (xe_ws aC (xe_cv b B xs) B M) H)
    {i : Instr} {len : Nat} {lv : xL} {st : List Value} {f : xF × xM} (hd : decode cc pc = .ok (i, xe_len i len)) (h : xe_step2 sc oc ini i pc lv st M = some f)
    (k : ∀ (H' : Heap) (locs' : List Loc), f.1.2.1 = lv → f.2.length = M.length → va_S (xe_A B) s.heap H' locs' → va_P D vwCl (xe_ws aC (xe_cv b B xs) B f.2) H' → W p l e R s m args below meth c H' locs' cells slots Q (F0 m f.1.1 ls (f.1.2.2.map (xe_cv b B xs)))) : W p l e R s m args below meth c H locs cells slots Q (F0 m pc ls (st.map (xe_cv b B xs))) := by
  have hinA : ∀ {j : Int32} {n : Nat}, ¬ j < 0 → j.toNatClampNeg < n → vp_in j n := fun h1 h2 h3 => h3.elim h1 (fun h4 => absurd h2 (Nat.not_lt.mpr h4))
  unfold xe_step2 at h
  split at h
  · unfold xb_getfield at h
    simp only [xg_eq, xse_eq, xln_eq, xlt_iff, xfF_eq] at h
    split at h
    · rename_i a r
      split at h
      · rename_i q hq
        obtain ⟨ci, fs⟩ := q
        split at h
        · rename_i e0 he0
          split at h
          · rename_i hc
            split at h
            · rename_i v hv
              cases h
              obtain ⟨hG, hidx⟩ := xf_ok he0
              obtain ⟨C, T, N, h1, h2, h3, h4, h5, h6⟩ := hG ci (by simpa using hc.2)
              have hw := xe_ws_get (aC := aC) (cv := xe_cv b B xs) (B := B) hq
              rw [xe_el_obj hc.1] at hw
              rw [← hidx] at hd
              exact va_get hx hb hts (xcl_ok _ _ _ _ h1).1 hown hK.1 hP a hw h1 e0.2.1 h2 (hts _ h3) (fun _ z => z) (by rw [List.getElem?_map, hv]; rfl) hd (k H locs rfl rfl hS hP)
            · cases h
          · cases h
        · cases h
      · cases h
    · cases h
  · unfold xb_putfield at h
    simp only [xg_eq, xse_eq, xln_eq, xlt_iff, xfF_eq] at h
    split at h
    · rename_i v a r
      split at h
      · rename_i q hq
        obtain ⟨ci, fs⟩ := q
        split at h
        · rename_i e0 he0
          split at h
          · rename_i hc
            cases h
            obtain ⟨hG, hidx⟩ := xf_ok he0
            obtain ⟨C, T, N, h1, h2, h3, h4, h5, h6⟩ := hG ci (by simpa using hc.1.2)
            have hw := xe_ws_get (aC := aC) (cv := xe_cv b B xs) (B := B) hq
            rw [xe_el_obj hc.1.1] at hw
            rw [← hidx] at hd
            obtain ⟨hcw, ⟨ty0, hty⟩, hnm⟩ := xcl_ok _ _ _ _ h1
            have htk := hty _ h2
            rw [htk] at h5
            have h5 : xe_tag (ty0 e0.2.1) = e0.2.2.1 := Option.some.inj h5
            have hfit := xe_fits (b := b) (B := B) (xs := xs) h5 hc.2.1.1 hc.2.1.2.2
            have hkk : ∀ (H1 : Heap) (locs1 : List Loc), va_P D vwCl ((xe_ws aC (xe_cv b B xs) B M).set a (B + a, .inr (ci, (fs.map (xe_cv b B xs)).set e0.2.1 (xe_cv b B xs v)))) H1 → va_D (xe_A B) ((xe_ws aC (xe_cv b B xs) B M).set a (B + a, .inr (ci, (fs.map (xe_cv b B xs)).set e0.2.1 (xe_cv b B xs v)))) → va_S (xe_A B) s.heap H1 locs1 → W p l e R s m args below meth c H1 locs1 cells slots Q (F0 m (pc + 3) ls (r.map (xe_cv b B xs))) := by
              intro H1 locs1 z1 _ z3
              rw [← List.map_set, ← xe_el_obj (aC := aC) (cv := xe_cv b B xs) hc.1.1, xe_ws_set] at z1
              exact k H1 locs1 rfl (List.length_set ..) z3 z1
            by_cases hf : e0.2.2.2.1 = true
            · exact va_putF hx hb hts hcw ty0 hty hnm hown hK.1 hP xe_ws_D hS a hw h1 e0.2.1 h2 (hts _ h3) (fun _ z => z) (h4.trans hf) (hin (hc.2.1.2.1 hf)) h6 htk hfit.1 hfit.2 (by rw [List.length_map]; exact hc.2.2) hd hkk
            · exact va_put hx hb hts hcw ty0 hty hnm hown hK.1 hP xe_ws_D hS a hw h1 e0.2.1 h2 (hts _ h3) (fun _ z => z) (by rw [h4]; cases hff : e0.2.2.2.1 with
                | true => exact absurd hff hf
                | false => rfl) htk hfit.1 hfit.2 (by rw [List.length_map]; exact hc.2.2) hd hkk
          · cases h
        · cases h
      · cases h
    · cases h
  · unfold xb_iaload at h
    simp only [xg_eq, xse_eq, xln_eq, xlt_iff, xfF_eq] at h
    split at h
    · rename_i j a r
      split at h
      · rename_i q hq
        obtain ⟨t, vs⟩ := q
        split at h
        · rename_i hc
          obtain ⟨rfl, hj⟩ := hc
          split at h
          · rename_i v hv
            split at h
            · rename_i hI
              cases h
              have hw := xe_ws_get (aC := aC) (cv := xe_cv b B xs) (B := B) hq
              rw [xe_el_int] at hw
              have hlt : j.toNatClampNeg < vs.length := (List.getElem?_eq_some_iff.mp hv).1
              have h3 := k H locs rfl rfl hS hP
              have h4 : Value.int (xe_iof (xe_cv b B xs (vs.getD j.toNatClampNeg .null))) = xe_cv b B xs v := by
                obtain ⟨x, ex⟩ := xe_isI_ok (b := b) (B := B) (xs := xs) hI
                have : vs.getD j.toNatClampNeg .null = v := by rw [List.getD_eq_getElem?_getD, hv]; rfl
                rw [this, ex]
                rfl
              rw [List.map_cons, ← h4] at h3
              exact va_iald hx hb hK.1 hP a 0 hw rfl (hinA hj hlt) hd h3
            · cases h
          · cases h
        · cases h
      · cases h
    · rename_i j a r
      split at h
      · rename_i vs
        split at h
        · rename_i hj
          split at h
          · rename_i v hv
            split at h
            · rename_i hI
              cases h
              obtain ⟨hX, hb1, hb2⟩ := hsc vs rfl
              have hlt : j.toNatClampNeg < vs.length := (List.getElem?_eq_some_iff.mp hv).1
              have h3 := k H locs rfl rfl hS hP
              have h4 : Value.int (xe_iof (xe_cv b B xs (vs.getD j.toNatClampNeg .null))) = xe_cv b B xs v := by
                obtain ⟨x, ex⟩ := xe_isI_ok (b := b) (B := B) (xs := xs) hI
                have : vs.getD j.toNatClampNeg .null = v := by rw [List.getD_eq_getElem?_getD, hv]; rfl
                rw [this, ex]
                rfl
              rw [List.map_cons, ← h4] at h3
              exact va_sld hx hb hX hb1 (fun z => absurd z (Nat.not_le.mpr hb2)) hS (hinA hj hlt) hd h3
            · cases h
          · cases h
        · cases h
      · cases h
    · cases h
  · unfold xb_iastore at h
    simp only [xg_eq, xse_eq, xln_eq, xlt_iff, xfF_eq] at h
    split at h
    · rename_i v j a r
      split at h
      · rename_i q hq
        obtain ⟨t, vs⟩ := q
        split at h
        · rename_i hc
          obtain ⟨rfl, hI, hj, hlt⟩ := hc
          cases h
          have hw := xe_ws_get (aC := aC) (cv := xe_cv b B xs) (B := B) hq
          rw [xe_el_int] at hw
          obtain ⟨x, ex⟩ := xe_isI_ok (b := b) (B := B) (xs := xs) hI
          have ex2 : x = xe_iof (xe_cv b B xs v) := by rw [ex]; rfl
          rw [List.map_cons, ex]
          refine va_iast hx hb hK.1 hP xe_ws_D hS a 0 hw rfl (hinA hj hlt) hd fun H1 locs1 z1 _ z3 => ?_
          rw [ex2, xe_upd v hlt] at z1
          have e9 : (.inl (aC 0, vs.length, .inl (fun j_1 => xe_iof (xe_cv b B xs ((vs.set j.toNatClampNeg v).getD j_1 .null)))) : va_E) = xe_el aC (xe_cv b B xs) (12, vs.set j.toNatClampNeg v) := by
            rw [xe_el_int, List.length_set]
          rw [e9, xe_ws_set] at z1
          exact k H1 locs1 rfl (List.length_set ..) z3 z1
        · cases h
      · cases h
    · cases h
  · unfold xb_aaload at h
    simp only [xg_eq, xse_eq, xln_eq, xlt_iff, xfF_eq] at h
    split at h
    · rename_i j a r
      split at h
      · rename_i q hq
        obtain ⟨t, vs⟩ := q
        split at h
        · rename_i hc
          obtain ⟨⟨ht1, ht2⟩, hj⟩ := hc
          split at h
          · rename_i v hv
            split at h
            · rename_i hI
              cases h
              have hw := xe_ws_get (aC := aC) (cv := xe_cv b B xs) (B := B) hq
              rw [xe_el_ref ht1] at hw
              have hlt : j.toNatClampNeg < vs.length := (List.getElem?_eq_some_iff.mp hv).1
              have h3 := k H locs rfl rfl hS hP
              have h4 : va_rf (xe_rof (xe_cv b B xs (vs.getD j.toNatClampNeg .null))) = xe_cv b B xs v := by
                have : vs.getD j.toNatClampNeg .null = v := by rw [List.getD_eq_getElem?_getD, hv]; rfl
                rw [this]
                cases v <;> first | rfl | cases hI
              rw [List.map_cons, ← h4] at h3
              have ht3 : t = 13 ∨ t = 14 ∨ t = 15 := by
                have h1 : 12 < t := ht1
                have h2 : t < 16 := ht2
                omega
              rcases ht3 with rfl | rfl | rfl
              · exact va_aldq hx hb hK.1 hP a 1 hw rfl (hinA hj hlt) hd h3
              · exact va_aldq hx hb hK.1 hP a 2 hw rfl (hinA hj hlt) hd h3
              · exact va_aldq hx hb hK.1 hP a 3 hw rfl (hinA hj hlt) hd h3
            · cases h
          · cases h
        · cases h
      · cases h
    · cases h
  · unfold xb_aastore at h
    simp only [xg_eq, xse_eq, xln_eq, xlt_iff, xfF_eq] at h
    split at h
    · rename_i o j a r
      split at h
      · rename_i q hq
        obtain ⟨t, vs⟩ := q
        split at h
        · rename_i q' hq'
          obtain ⟨ci, fs⟩ := q'
          split at h
          · rename_i hc
            obtain ⟨hok, hj, hlt⟩ := hc
            cases h
            have hw := xe_ws_get (aC := aC) (cv := xe_cv b B xs) (B := B) hq
            have hv := xe_ws_get (aC := aC) (cv := xe_cv b B xs) (B := B) hq'
            have hkk : 12 < t → ∀ (H1 : Heap) (locs1 : List Loc), va_P D vwCl ((xe_ws aC (xe_cv b B xs) B M).set a (B + a, .inl (aC (t - 12), vs.length, .inr (.inr (.inr (.inr (va_up (fun j => xe_rof (xe_cv b B xs (vs.getD j .null))) j.toNatClampNeg (some (B + o))))))))) H1 → va_S (xe_A B) s.heap H1 locs1 → W p l e R s m args below meth c H1 locs1 cells slots Q (F0 m (pc + 1) ls (r.map (xe_cv b B xs))) := by
              intro ht H1 locs1 z1 z3
              have e8 := xe_updR (cv := xe_cv b B xs) (.ref o) hlt
              have e9 : (.inl (aC (t - 12), vs.length, .inr (.inr (.inr (.inr (va_up (fun j => xe_rof (xe_cv b B xs (vs.getD j .null))) j.toNatClampNeg (some (B + o))))))) : va_E) = xe_el aC (xe_cv b B xs) (t, vs.set j.toNatClampNeg (.ref o)) := by
                rw [xe_el_ref ht, List.length_set, ← e8]
                rfl
              rw [e9, xe_ws_set] at z1
              exact k H1 locs1 rfl (List.length_set ..) z3 z1
            have hsub : ∀ {C : String} {T : u_T}, vwCl[ci]? = some (C, T, 2) → ci < 12 → Cond.castable C RX7 ∈ xnw → va_Any RX7 s H (B + o) := fun h1 h2 h3 => by
              rw [xe_el_obj h2] at hv
              exact va_rAny hK.1 hP hv h1 (xe_asg hK h3)
            rcases xe_okst_ok hok with ⟨ht, hci⟩ | ⟨ht, hci⟩ | ⟨ht, hci⟩
            · dsimp only at ht hci
              subst ht; subst hci
              rw [xe_el_ref (by decide)] at hw
              rw [xe_el_obj (by decide)] at hv
              exact va_astq hx hb hK.1 hP xe_ws_D hS a 1 o 0 hw rfl hv rfl (hinA hj hlt) hd (fun H1 locs1 z1 _ z3 => hkk (by decide) H1 locs1 z1 z3)
            · dsimp only at ht hci
              subst ht; subst hci
              rw [xe_el_ref (by decide)] at hw
              rw [xe_el_obj (by decide)] at hv
              exact va_astq hx hb hK.1 hP xe_ws_D hS a 2 o 2 hw rfl hv rfl (hinA hj hlt) hd (fun H1 locs1 z1 _ z3 => hkk (by decide) H1 locs1 z1 z3)
            · dsimp only at ht hci
              subst ht
              rw [xe_el_ref (by decide)] at hw
              rcases hci with rfl | rfl | rfl | rfl | rfl | rfl
              · exact va_astqM hx hb hK.1 hP xe_ws_D hS a 3 hw rfl (hsub rfl (by decide) xnw_6) (hinA hj hlt) hd (fun H1 locs1 z1 _ z3 => hkk (by decide) H1 locs1 z1 z3)
              · exact va_astqM hx hb hK.1 hP xe_ws_D hS a 3 hw rfl (hsub rfl (by decide) xnw_7) (hinA hj hlt) hd (fun H1 locs1 z1 _ z3 => hkk (by decide) H1 locs1 z1 z3)
              · exact va_astqM hx hb hK.1 hP xe_ws_D hS a 3 hw rfl (hsub rfl (by decide) xnw_8) (hinA hj hlt) hd (fun H1 locs1 z1 _ z3 => hkk (by decide) H1 locs1 z1 z3)
              · rw [xe_el_obj (by decide)] at hv
                exact va_astq hx hb hK.1 hP xe_ws_D hS a 3 o 6 hw rfl hv rfl (hinA hj hlt) hd (fun H1 locs1 z1 _ z3 => hkk (by decide) H1 locs1 z1 z3)
              · exact va_astqM hx hb hK.1 hP xe_ws_D hS a 3 hw rfl (hsub rfl (by decide) xnw_9) (hinA hj hlt) hd (fun H1 locs1 z1 _ z3 => hkk (by decide) H1 locs1 z1 z3)
              · exact va_astqM hx hb hK.1 hP xe_ws_D hS a 3 hw rfl (hsub rfl (by decide) xnw_10) (hinA hj hlt) hd (fun H1 locs1 z1 _ z3 => hkk (by decide) H1 locs1 z1 z3)
          · cases h
        · cases h
      · cases h
    · cases h
  · unfold xb_arraylength at h
    simp only [xg_eq, xse_eq, xln_eq, xlt_iff, xfF_eq] at h
    split at h
    · rename_i a r
      split at h
      · rename_i q hq
        obtain ⟨t, vs⟩ := q
        split at h
        · rename_i hc
          cases h
          have hw := xe_ws_get (aC := aC) (cv := xe_cv b B xs) (B := B) hq
          have ht3 : t = 12 ∨ t = 13 ∨ t = 14 ∨ t = 15 := by
            have h1 : 12 ≤ t := hc.1
            have h2 : t < 16 := hc.2
            omega
          rcases ht3 with rfl | rfl | rfl | rfl
          · exact va_alen hx hb hK.1 hP a 0 hw rfl rfl hd (k H locs rfl rfl hS hP)
          · rw [xe_el_ref (by decide)] at hw
            exact va_alen hx hb hK.1 hP a 1 hw rfl rfl hd (k H locs rfl rfl hS hP)
          · rw [xe_el_ref (by decide)] at hw
            exact va_alen hx hb hK.1 hP a 2 hw rfl rfl hd (k H locs rfl rfl hS hP)
          · rw [xe_el_ref (by decide)] at hw
            exact va_alen hx hb hK.1 hP a 3 hw rfl rfl hd (k H locs rfl rfl hS hP)
        · cases h
      · cases h
    · split at h
      · rename_i vs
        cases h
        obtain ⟨hX, hb1, hb2⟩ := hsc vs rfl
        exact va_slen hx hb hX hb1 (fun z => absurd z (Nat.not_le.mpr hb2)) hS hd (k H locs rfl rfl hS hP)
      · cases h
    · cases h
  · cases h
end
end
section
/-! calls, new cells, ends; the run of a method, and its soundness -/
def xe_isret (rt : Nat) (i : Instr) (r : Option Value) : Bool := match i, r with
  | .ireturn, some v => xe_isI v && (rt == 1 || (rt == 2 && (decide (v = .int 0) || decide (v = .int 1))))
  | .lreturn, some v => xe_isL v && rt == 3
  | .areturn, some (.ref _) => rt == 4
  | .return_, none => rt == 0
  | _, _ => false
def xe_cont (ih : Nat → xL → List Value → xM → Option xO) (pc : Nat) (lv : xL) (rest : List Value) (o : Option xO) : Option xO := match o with
  | some o1 => match ih (pc + 3) lv (o1.1.toList ++ rest) o1.2.1 with
    | some o2 => some (o2.1, o2.2.1, o1.2.2.1 + o2.2.2.1, o1.2.2.2 + o2.2.2.2)
    | none => none
  | none => none
def xe_made (o : Option xO) (n : Nat) : Option xO := match o with
  | some o => some (o.1, o.2.1, 1 + o.2.2.1, n + o.2.2.2)
  | none => none
def xe_end (rt : Nat) (i : Instr) (st : List Value) (M : xM) : Option xO := match st with
  | [] => if xe_isret rt i none = true then some (none, M, 0, 0) else none
  | [v] => if xe_isret rt i (some v) = true then some (some v, M, 0, 0) else none
  | _ => none
def xe_sum (r : List Value) : Bool := decide ((r.map fun v => v.category).sum ≤ 8)
noncomputable def xe_callS (call : Nat → List Value → xM → Option xO) (oc k pc : Nat) (lv : xL) (st : List Value) (M : xM) (ih : Nat → xL → List Value → xM → Option xO) : Option xO := match xcF oc k with
  | some (_, 0, mn, _) => match xmF mn with
    | some q => if q.2.2.2.2 ≤ st.length ∧ xe_sum (st.drop q.2.2.2.2) = true then xe_cont ih pc lv (st.drop q.2.2.2.2) (call mn (st.take q.2.2.2.2).reverse M) else none
    | none => none
  | some (_, 7, mn, _) => match xmF mn with
    | some q => if q.2.2.2.2 ≤ st.length ∧ xe_sum (st.drop q.2.2.2.2) = true then xe_cont ih pc lv (st.drop q.2.2.2.2) (call mn (st.take q.2.2.2.2).reverse M) else none
    | none => none
  | some (_, 5, _, _) => match st with
    | .int y :: .int x :: r => if xe_sum r = true then ih (pc + 3) lv (.int (if x < y then y else x) :: r) M else none
    | _ => none
  | some (_, 6, _, _) => match st with
    | .int y :: .int x :: r => if xe_sum r = true then ih (pc + 3) lv (.int (if y < x then y else x) :: r) M else none
    | _ => none
  | _ => none
noncomputable def xe_callI (call : Nat → List Value → xM → Option xO) (oc k pc : Nat) (lv : xL) (st : List Value) (M : xM) (ih : Nat → xL → List Value → xM → Option xO) : Option xO := match xcF oc k with
  | some (_, 1, mn, _) => match xmF mn with
    | some q => match st.drop q.2.2.2.2 with
      | .ref a :: r => if xe_sum r = true then xe_cont ih pc lv r (call mn (.ref a :: (st.take q.2.2.2.2).reverse) M) else none
      | _ => none
    | none => none
  | some (_, 2, mn, _) => match xmF mn with
    | some q => match st.drop q.2.2.2.2 with
      | .ref a :: r => if xe_sum r = true then xe_cont ih pc lv r (call mn (.ref a :: (st.take q.2.2.2.2).reverse) M) else none
      | _ => none
    | none => none
  | some (_, 4, _, _) => match st with
    | .ref a :: r => if xe_sum r = true then ih (pc + 3) lv r M else none
    | _ => none
  | _ => none
noncomputable def xe_callV (call : Nat → List Value → xM → Option xO) (oc k pc : Nat) (lv : xL) (st : List Value) (M : xM) (ih : Nat → xL → List Value → xM → Option xO) : Option xO := match xcF oc k with
  | some (_, 3, mn, cis) => match xmF mn with
    | some q => match st.drop q.2.2.2.2 with
      | .ref a :: r => match xg M a with
        | some q0 => if q0.1 < 12 ∧ cis.contains q0.1 = true ∧ xe_sum r = true then xe_cont ih pc lv r (call mn (.ref a :: (st.take q.2.2.2.2).reverse) M) else none
        | none => none
      | _ => none
    | none => none
  | _ => none
def xe_plain (v : Value) : Bool := match v with
  | .int _ => true
  | .long _ => true
  | .null => true
  | _ => false
noncomputable def xd_new (k : Nat) (oc : Nat) (pc : Nat) (lv : xL) (st : List Value) (M : xM) (ih : Nat → xL → List Value → xM → Option xO) : Option xO := match xn oc k with
  | some e => if e.2.2.all xe_plain = true then xe_made (ih (pc + 3) lv (.ref (xln M) :: st) (M ++ [(e.2.1, e.2.2)])) e.2.2.length else none
  | none => none
noncomputable def xd_newarray  (pc : Nat) (lv : xL) (st : List Value) (M : xM) (ih : Nat → xL → List Value → xM → Option xO) : Option xO := match st with
  | .int n :: r => if ¬ n < 0 ∧ n.toNatClampNeg ≤ 1000 then xe_made (ih (pc + 2) lv (.ref (xln M) :: r) (M ++ [(12, List.replicate n.toNatClampNeg (.int 0))])) n.toNatClampNeg else none
  | _ => none
noncomputable def xd_anewarray (k : Nat) (oc : Nat) (pc : Nat) (lv : xL) (st : List Value) (M : xM) (ih : Nat → xL → List Value → xM → Option xO) : Option xO := match xa oc k with
  | some e => match st with
    | .int n :: r => if ¬ n < 0 ∧ n.toNatClampNeg ≤ 1000 then xe_made (ih (pc + 3) lv (.ref (xln M) :: r) (M ++ [(13 + e.2, List.replicate n.toNatClampNeg .null)])) n.toNatClampNeg else none
    | _ => none
  | none => none
noncomputable def xd_invokestatic (k : Nat) (call : Nat → List Value → xM → Option xO) (oc : Nat) (pc : Nat) (lv : xL) (st : List Value) (M : xM) (ih : Nat → xL → List Value → xM → Option xO) : Option xO := xe_callS call oc k pc lv st M ih
noncomputable def xd_invokespecial (k : Nat) (call0 : Nat → List Value → xM → Option xO) (oc : Nat) (pc : Nat) (lv : xL) (st : List Value) (M : xM) (ih : Nat → xL → List Value → xM → Option xO) : Option xO := xe_callI call0 oc k pc lv st M ih
noncomputable def xd_invokevirtual (k : Nat) (call : Nat → List Value → xM → Option xO) (oc : Nat) (pc : Nat) (lv : xL) (st : List Value) (M : xM) (ih : Nat → xL → List Value → xM → Option xO) : Option xO := xe_callV call oc k pc lv st M ih
noncomputable def xd_ireturn  (rt : Nat) (st : List Value) (M : xM) : Option xO := xe_end rt .ireturn st M
noncomputable def xd_lreturn  (rt : Nat) (st : List Value) (M : xM) : Option xO := xe_end rt .lreturn st M
noncomputable def xd_areturn  (rt : Nat) (st : List Value) (M : xM) : Option xO := xe_end rt .areturn st M
noncomputable def xd_return_  (rt : Nat) (st : List Value) (M : xM) : Option xO := xe_end rt .return_ st M
noncomputable def xe_step3 (call0 call : Nat → List Value → xM → Option xO) (oc rt : Nat) (i : Instr) (pc : Nat) (lv : xL) (st : List Value) (M : xM) (ih : Nat → xL → List Value → xM → Option xO) : Option xO := match i with
  | .new k => xd_new k oc pc lv st M ih
  | .newarray .int => xd_newarray pc lv st M ih
  | .anewarray k => xd_anewarray k oc pc lv st M ih
  | .invokestatic k => xd_invokestatic k call oc pc lv st M ih
  | .invokespecial k => xd_invokespecial k call0 oc pc lv st M ih
  | .invokevirtual k => xd_invokevirtual k call oc pc lv st M ih
  | .ireturn => xd_ireturn rt st M
  | .lreturn => xd_lreturn rt st M
  | .areturn => xd_areturn rt st M
  | .return_ => xd_return_ rt st M
  | _ => none
noncomputable def xe_body (iv : List (Int32 × Int32)) (a6 : Option Int32) (sc : Option (List Value)) (call0 call : Nat → List Value → xM → Option xO) (tb : xI) (oc nL rt : Nat) (ini : Bool) (ih : Nat → xL → List Value → xM → Option xO) (pc : Nat) (lv : xL) (st : List Value) (M : xM) : Option xO := match xe_lkF tb pc with
  | none => none
  | some q => match xe_step1 iv a6 oc nL q.1 pc lv st with
    | some f => ih f.1 f.2.1 f.2.2 M
    | none => match xe_step2 sc oc ini q.1 pc lv st M with
      | some g => ih g.1.1 g.1.2.1 g.1.2.2 g.2
      | none => xe_step3 call0 call oc rt q.1 pc lv st M ih
noncomputable def xe_run (iv : List (Int32 × Int32)) (a6 : Option Int32) (sc : Option (List Value)) (call0 call : Nat → List Value → xM → Option xO) (tb : xI) (oc nL rt : Nat) (ini : Bool) (n : Nat) : Nat → xL → List Value → xM → Option xO :=
  Nat.rec (motive := fun _ => Nat → xL → List Value → xM → Option xO) (fun _ _ _ _ => none) (fun _ ih => xe_body iv a6 sc call0 call tb oc nL rt ini ih) n
/-- methods, all of them, where nothing is unknown -/
noncomputable def xe_ex0 (d : Nat) : Nat → List Value → xM → Option xO :=
  Nat.rec (motive := fun _ => Nat → List Value → xM → Option xO) (fun _ _ _ => none) (fun _ ih mn as M => match xmF mn with
    | none => none
    | some q => if xe_cats as ≤ q.1.2.2.1 then xe_run [] none none ih ih q.1.1 q.1.2.1 q.1.2.2.1 q.1.2.2.2.1 q.1.2.2.2.2 4000 0 (lv_args 0 as) [] M else none) d
/-- methods that make nothing, with unknown numbers -/
noncomputable def xe_ex (iv : List (Int32 × Int32)) (d : Nat) : Nat → List Value → xM → Option xO :=
  Nat.rec (motive := fun _ => Nat → List Value → xM → Option xO) (fun _ _ _ => none) (fun _ ih mn as M => match xmF mn with
    | none => none
    | some q => if xe_cats as ≤ q.1.2.2.1 then xe_run iv none none (fun _ _ _ => none) ih q.1.1 q.1.2.1 q.1.2.2.1 q.1.2.2.2.1 q.1.2.2.2.2 4000 0 (lv_args 0 as) [] M else none) d
theorem xe_args (b B : Nat) (xs : Nat → Int32) : ∀ (i : Nat) (as : List Value), lv_args i (as.map (xe_cv b B xs)) = xe_lm b B xs (lv_args i as)
  | _, [] => rfl
  | i, v :: vs => by
    show (i, xe_cv b B xs v) :: lv_args (if (xe_cv b B xs v).category = 2 then i + 2 else i + 1) (vs.map (xe_cv b B xs)) = (i, xe_cv b B xs v) :: xe_lm b B xs (lv_args (if v.category = 2 then i + 2 else i + 1) vs)
    rw [xe_cat, xe_args b B xs]
theorem xe_slen (b B : Nat) (xs : Nat → Int32) (as : List Value) : (lg_sl (as.map (xe_cv b B xs))).length = (lg_sl as).length := by
  induction as with
  | nil => rfl
  | cons v vs ih =>
    unfold lg_sl at ih ⊢
    rw [List.map_cons, List.flatMap_cons, List.flatMap_cons, List.length_append, List.length_append, ih, xe_cat]
    by_cases h : v.category = 2 <;> simp [h]
theorem xe_ssum (b B : Nat) (xs : Nat → Int32) (r : List Value) : ((r.map (xe_cv b B xs)).map fun v => v.category) = r.map fun v => v.category := by
  rw [List.map_map]
  exact List.map_congr_left (fun v _ => xe_cat b B xs v)
def xe_rm (d mc ms : Nat) : Room := { frames := d, cells := mc, slots := ms, locals := 64 * d }
def xe_Pc (D : va_G) (aC : Nat → ClassId) (b B : Nat) (xs : Nat → Int32) (as : List Value) (M : xM) : Array Value → State → Prop := fun v U => v = (as.map (xe_cv b B xs)).toArray ∧ U.heap.size = B + M.length ∧ va_P D vwCl (xe_ws aC (xe_cv b B xs) B M) U.heap ∧ xe_K D aC U
def xe_Qc (D : va_G) (aC : Nat → ClassId) (b B : Nat) (xs : Nat → Int32) (r : Option Value) (M : xM) : Array Value → State → Outcome → State → Prop := fun _ st o t => (o = .returned (r.map (xe_cv b B xs)) ∧ va_P D vwCl (xe_ws aC (xe_cv b B xs) B M) t.heap) ∧ va_F (xe_A B) st t
theorem xe_K.warm {D : va_G} {aC : Nat → ClassId} {s U : State} (hW : s.WarmedH U.vm) (h : xe_K D aC s) : xe_K D aC U := by
  refine ⟨va_K.moved hW.alike h.1, ⟨h.2.1.1.moved hW.alike, h.2.1.2.1.moved hW.alike, h.2.1.2.2.moved hW.alike⟩, ?_⟩
  have h3 := h.2.2
  intro w hw
  have h4 := h3 w hw
  unfold xnw at hw
  simp only [List.mem_cons, List.not_mem_nil, or_false] at hw
  rcases hw with rfl | rfl | rfl | rfl | rfl | rfl | rfl | rfl | rfl | rfl | rfl
  all_goals first | exact va_Nw.warmM hW h4 | exact va_Nw.warmC hW h4
theorem xe_blind {D : va_G} {aC : Nat → ClassId} {b B : Nat} {xs : Nat → Int32} {as : List Value} {M : xM} : FrameBlind (xe_Pc D aC b B xs as M) := fun a U g mk h => ⟨h.1, h.2.1, h.2.2.1, xe_K.warm (s := U) (U := U.calling g mk a) (State.WarmedH.refl U) h.2.2.2⟩
section
variable {p : Program} {l : Launch} {e : Env} {R : Room} {s : State} {m : MethodId} {args : Array Value} {below : List Frame} {meth : Method} {c : Code} {H : Heap} {locs : List Loc} {cells slots : Nat} {Q : State → Prop}
variable {cc : ByteArray} {pc : Nat} {ls : Array Slot} {b B : Nat} {xs : Nat → Int32} {oc : Nat} {D : va_G} {aC : Nat → ClassId}
theorem xe_sized {g : JFrame} (h : H.size ≤ s.heap.size + cells → W p l e R s m args below meth c H locs cells slots Q g) : W p l e R s m args below meth c H locs cells slots Q g := fun T hT X => h (by rw [← hT]; exact X.heapSize) T hT X
theorem xe_size {M : xM} (hc : s.heap.size + cells = B + M.length) (h1 : H.size ≤ s.heap.size + cells) (h2 : s.heap.size ≤ H.size) (h3 : B ≤ s.heap.size) (hP : va_P D vwCl (xe_ws aC (xe_cv b B xs) B M) H) : H.size = B + M.length := by
  cases hM : M with
  | nil => rw [hM] at hc; simp at hc ⊢; omega
  | cons q t =>
    have hlt : M.length - 1 < M.length := by rw [hM]; simp
    obtain ⟨q', hq'⟩ : ∃ q', M[M.length - 1]? = some q' := ⟨_, List.getElem?_eq_getElem hlt⟩
    have h4 := (hP _ _ (xe_ws_get hq')).lt
    dsimp only at h4
    rw [← hM]
    omega
theorem xe_newad {M : xM} {q : Nat} {x : va_E} {H1 : Heap} (hc : s.heap.size + cells = B + M.length) (h1 : H1.size ≤ s.heap.size + (cells + 1)) (hP : va_P D vwCl (xe_ws aC (xe_cv b B xs) B M ++ [(q, x)]) H1) (hD : va_D (xe_A B) (xe_ws aC (xe_cv b B xs) B M ++ [(q, x)])) : q = B + M.length := by
  have hlen : (xe_ws aC (xe_cv b B xs) B M).length = M.length := by simp [xe_ws]
  have hlast : (xe_ws aC (xe_cv b B xs) B M ++ [(q, x)])[M.length]? = some (q, x) := by rw [List.getElem?_append_right (by omega), hlen]; simp
  have h2 := (hP _ _ hlast).lt
  have h3 : B ≤ q := hD.2 _ _ hlast
  dsimp only at h2
  rcases Nat.lt_or_ge q (B + M.length) with h4 | h4
  · exfalso
    have hk : q - B < M.length := by omega
    have hg := xe_ws_get (aC := aC) (cv := xe_cv b B xs) (B := B) (List.getElem?_eq_getElem hk)
    have hg2 : (xe_ws aC (xe_cv b B xs) B M ++ [(q, x)])[q - B]? = some (B + (q - B), xe_el aC (xe_cv b B xs) M[q - B]) := by rw [List.getElem?_append_left (by omega)]; exact hg
    have := hD.1 _ _ _ _ hg2 hlast (by show B + (q - B) = q; omega)
    omega
  · omega
/-- behind a call -/
theorem xe_call {st0 rest : List Value} {a : Array Value} {mc ms : Nat} {r : Option Value} {M : xM} (hr : va_Run p l e R s m args below meth c H locs cells slots mc ms (F0 m pc ls st0) rest (xe_Qc D aC b B xs r M a) (xe_A B)) (hS : va_S (xe_A B) s.heap H locs)
    (kk : ∀ (H1 : Heap) (locs1 : List Loc), va_S (xe_A B) s.heap H1 locs1 → va_P D vwCl (xe_ws aC (xe_cv b B xs) B M) H1 → W p l e R s m args below meth c H1 locs1 (cells + mc) (slots + ms) Q (F0 m (pc + 3) ls ((r.map (xe_cv b B xs)).toList ++ rest))) : W p l e R s m args below meth c H locs cells slots Q (F0 m pc ls st0) := by
  intro T hT X
  obtain ⟨v, st₀, t, T', L, h0, X', hL, e1, e2, ⟨⟨hv, hp⟩, hz, hk⟩, st⟩ := hr T hT X
  have hv : v = r.map (xe_cv b B xs) := by cases hv; rfl
  subst hv
  rw [h0] at hz hk
  obtain ⟨t2, a1, b1⟩ := kk T'.heap (locs ++ L)
    ⟨Nat.le_trans hS.1 (by rw [e1]; exact hz), fun q h1 h2 => by rw [e1, hk q (Nat.lt_of_lt_of_le h1 hS.1) h2]; exact hS.2.1 q h1 h2, fun q hq => by
      rcases List.mem_append.mp hq with h | h
      · exact hS.2.2 q h
      · exact hL q h⟩ (by rw [e1]; exact hp) T' rfl X'
  exact ⟨t2, st t2 a1, b1⟩
end
end
section
/-! cells are counted as they are made -/
theorem xe_step2_len {sc : Option (List Value)} {oc : Nat} {ini : Bool} {i : Instr} {pc : Nat} {lv : xL} {st : List Value} {M : xM} {f : xF × xM} (h : xe_step2 sc oc ini i pc lv st M = some f) : f.2.length = M.length := by
  unfold xe_step2 at h
  unfold xb_getfield xb_putfield xb_iaload xb_iastore xb_aaload xb_aastore xb_arraylength at h
  simp only [xse_eq] at h
  repeat' split at h
  all_goals first | (cases h; rfl) | (cases h; exact List.length_set ..) | cases h
theorem xe_made_len {o : Option xO} {n k : Nat} {r : xO} (h : xe_made o n = some r) (ho : ∀ r, o = some r → r.2.1.length = k + 1 + r.2.2.1) : r.2.1.length = k + r.2.2.1 := by
  unfold xe_made at h
  split at h
  · cases h
    have := ho _ rfl
    dsimp only
    omega
  · cases h
theorem xe_cont_len {ih : Nat → xL → List Value → xM → Option xO} {pc : Nat} {lv : xL} {rest : List Value} {M : xM} {o : Option xO} {r : xO} (hi : ∀ pc lv st M o, ih pc lv st M = some o → o.2.1.length = M.length + o.2.2.1) (ho : ∀ o1, o = some o1 → o1.2.1.length = M.length + o1.2.2.1) (h : xe_cont ih pc lv rest o = some r) : r.2.1.length = M.length + r.2.2.1 := by
  unfold xe_cont at h
  split at h
  · have h1 := ho _ rfl
    split at h
    · rename_i o2 ho2
      have h2 := hi _ _ _ _ _ ho2
      cases h
      dsimp only
      omega
    · cases h
  · cases h
theorem xe_end_len {rt : Nat} {i : Instr} {st : List Value} {M : xM} {r : xO} (h : xe_end rt i st M = some r) : r.2.1.length = M.length + r.2.2.1 := by
  unfold xe_end at h
  repeat' split at h
  all_goals first | (cases h; rfl) | cases h
theorem xe_step3_len {call0 call : Nat → List Value → xM → Option xO} {oc rt : Nat} {i : Instr} {pc : Nat} {lv : xL} {st : List Value} {M : xM} {ih : Nat → xL → List Value → xM → Option xO} {r : xO}
    (h0 : ∀ mn as M o, call0 mn as M = some o → o.2.1.length = M.length + o.2.2.1) (h1 : ∀ mn as M o, call mn as M = some o → o.2.1.length = M.length + o.2.2.1) (hi : ∀ pc lv st M o, ih pc lv st M = some o → o.2.1.length = M.length + o.2.2.1) (h : xe_step3 call0 call oc rt i pc lv st M ih = some r) : r.2.1.length = M.length + r.2.2.1 := by
  have ap : ∀ {x : xC} {pc lv st}, ∀ r, ih pc lv st (M ++ [x]) = some r → r.2.1.length = M.length + 1 + r.2.2.1 := fun r hr => by
    have := hi _ _ _ _ _ hr
    rw [List.length_append] at this
    exact this
  unfold xe_step3 at h
  split at h
  · unfold xd_new at h
    split at h
    · split at h
      · exact xe_made_len h ap
      · cases h
    · cases h
  · unfold xd_newarray at h
    split at h
    · split at h
      · exact xe_made_len h ap
      · cases h
    · cases h
  · unfold xd_anewarray at h
    split at h
    · split at h
      · split at h
        · exact xe_made_len h ap
        · cases h
      · cases h
    · cases h
  · unfold xd_invokestatic at h
    unfold xe_callS at h
    repeat' split at h
    all_goals first | exact xe_cont_len hi (fun o1 z => h1 _ _ _ _ z) h | exact hi _ _ _ _ _ h | cases h
  · unfold xd_invokespecial at h
    unfold xe_callI at h
    repeat' split at h
    all_goals first | exact xe_cont_len hi (fun o1 z => h0 _ _ _ _ z) h | exact hi _ _ _ _ _ h | cases h
  · unfold xd_invokevirtual at h
    unfold xe_callV at h
    repeat' split at h
    all_goals first | exact xe_cont_len hi (fun o1 z => h1 _ _ _ _ z) h | exact hi _ _ _ _ _ h | cases h
  · unfold xd_ireturn at h
    exact xe_end_len h
  · unfold xd_lreturn at h
    exact xe_end_len h
  · unfold xd_areturn at h
    exact xe_end_len h
  · unfold xd_return_ at h
    exact xe_end_len h
  · cases h
theorem xe_run_len {iv : List (Int32 × Int32)} {a6 : Option Int32} {sc : Option (List Value)} {call0 call : Nat → List Value → xM → Option xO} {tb : xI} {oc nL rt : Nat} {ini : Bool} (h0 : ∀ mn as M o, call0 mn as M = some o → o.2.1.length = M.length + o.2.2.1) (h1 : ∀ mn as M o, call mn as M = some o → o.2.1.length = M.length + o.2.2.1) :
    ∀ (n pc : Nat) (lv : xL) (st : List Value) (M : xM) (o : xO), xe_run iv a6 sc call0 call tb oc nL rt ini n pc lv st M = some o → o.2.1.length = M.length + o.2.2.1 := by
  intro n
  induction n with
  | zero =>
    intro pc lv st M o h
    cases h
  | succ n ih =>
    intro pc lv st M o h
    have h : xe_body iv a6 sc call0 call tb oc nL rt ini (xe_run iv a6 sc call0 call tb oc nL rt ini n) pc lv st M = some o := h
    unfold xe_body at h
    split at h
    · cases h
    · split at h
      · exact ih _ _ _ _ _ h
      · split at h
        · rename_i g hg
          have := ih _ _ _ _ _ h
          rw [xe_step2_len hg] at this
          exact this
        · exact xe_step3_len h0 h1 ih h
theorem xe_ex0_len : ∀ (d mn : Nat) (as : List Value) (M : xM) (o : xO), xe_ex0 d mn as M = some o → o.2.1.length = M.length + o.2.2.1 := by
  intro d
  induction d with
  | zero =>
    intro mn as M o h
    cases h
  | succ d ih =>
    intro mn as M o h
    have h : (match xmF mn with
      | none => none
      | some q => if xe_cats as ≤ q.1.2.2.1 then xe_run [] none none (xe_ex0 d) (xe_ex0 d) q.1.1 q.1.2.1 q.1.2.2.1 q.1.2.2.2.1 q.1.2.2.2.2 4000 0 (lv_args 0 as) [] M else none) = some o := h
    split at h
    · cases h
    · split at h
      · exact xe_run_len ih ih _ _ _ _ _ _ h
      · cases h
theorem xe_ex_len {iv : List (Int32 × Int32)} : ∀ (d mn : Nat) (as : List Value) (M : xM) (o : xO), xe_ex iv d mn as M = some o → o.2.1.length = M.length + o.2.2.1 := by
  intro d
  induction d with
  | zero =>
    intro mn as M o h
    cases h
  | succ d ih =>
    intro mn as M o h
    have h : (match xmF mn with
      | none => none
      | some q => if xe_cats as ≤ q.1.2.2.1 then xe_run iv none none (fun _ _ _ => none) (xe_ex iv d) q.1.1 q.1.2.1 q.1.2.2.1 q.1.2.2.2.1 q.1.2.2.2.2 4000 0 (lv_args 0 as) [] M else none) = some o := h
    split at h
    · cases h
    · split at h
      · exact xe_run_len (fun _ _ _ _ z => by cases z) ih _ _ _ _ _ _ h
      · cases h
end
section
/-! the run is sound -/
theorem xe_made_ok {o : Option xO} {n : Nat} {r : Option Value} {M : xM} {c1 s1 : Nat} (h : xe_made o n = some (r, M, c1, s1)) : ∃ c2 s2, o = some (r, M, c2, s2) ∧ c1 = 1 + c2 ∧ s1 = n + s2 := by
  unfold xe_made at h
  split at h
  · rename_i o1
    obtain ⟨a1, a2, a3, a4⟩ := o1
    cases h
    exact ⟨_, _, rfl, rfl, rfl⟩
  · cases h
theorem xe_cont_ok {ih : Nat → xL → List Value → xM → Option xO} {pc : Nat} {lv : xL} {rest : List Value} {o : Option xO} {r : Option Value} {M2 : xM} {c1 s1 : Nat} (h : xe_cont ih pc lv rest o = some (r, M2, c1, s1)) : ∃ o1 c2 s2, o = some o1 ∧ ih (pc + 3) lv (o1.1.toList ++ rest) o1.2.1 = some (r, M2, c2, s2) ∧ c1 = o1.2.2.1 + c2 ∧ s1 = o1.2.2.2 + s2 := by
  unfold xe_cont at h
  split at h
  · rename_i o1
    split at h
    · rename_i o2 ho2
      obtain ⟨a1, a2, a3, a4⟩ := o2
      cases h
      exact ⟨o1, _, _, rfl, ho2, rfl, rfl⟩
    · cases h
  · cases h
theorem xe_plain_cv {b B : Nat} {xs : Nat → Int32} {vs : List Value} (h : vs.all xe_plain = true) : vs.map (xe_cv b B xs) = vs := by
  induction vs with
  | nil => rfl
  | cons v t ih =>
    rw [List.all_cons, Bool.and_eq_true] at h
    rw [List.map_cons, ih h.2]
    have h1 := h.1
    cases v <;> first | rfl | cases h1
theorem xe_zeros (aC : Nat → ClassId) (b B : Nat) (xs : Nat → Int32) (n : Nat) : (.inl (aC 0, n, .inl (fun _ => (0 : Int32))) : va_E) = xe_el aC (xe_cv b B xs) (12, List.replicate n (.int 0)) := by
  rw [xe_el_int, List.length_replicate]
  congr 4
  funext j
  rw [List.getD_eq_getElem?_getD, List.getElem?_replicate]
  split <;> rfl
theorem xe_nulls (aC : Nat → ClassId) (b B : Nat) (xs : Nat → Int32) (t n : Nat) : (.inl (aC (t + 1), n, .inr (.inr (.inr (.inr (fun _ => (none : Option Nat)))))) : va_E) = xe_el aC (xe_cv b B xs) (13 + t, List.replicate n .null) := by
  rw [xe_el_ref (by omega), List.length_replicate, show 13 + t - 12 = t + 1 by omega]
  congr 7
  funext j
  rw [List.getD_eq_getElem?_getD, List.getElem?_replicate]
  split <;> rfl
theorem xe_res (b B : Nat) (xs : Nat → Int32) (r : Option Value) (rest : List Value) : (r.map (xe_cv b B xs)).toList ++ rest.map (xe_cv b B xs) = (r.toList ++ rest).map (xe_cv b B xs) := by cases r <;> rfl
theorem xe_ci {ci : Nat} {x : vw_C} (h : vwCl[ci]? = some x) : ci < 12 := (List.getElem?_eq_some_iff.mp h).1
section
variable {p : Program} {l : Launch} {e : Env} {R : Room} {s : State} {m : MethodId} {args : Array Value} {below : List Frame} {meth : Method} {c : Code} {H : Heap} {locs : List Loc} {cells slots : Nat} {Q : State → Prop}
variable {cc : ByteArray} {pc : Nat} {ls : Array Slot} {b B : Nat} {xs : Nat → Int32} {oc : Nat} {D : va_G} {aC : Nat → ClassId}
variable {call0 call : Nat → List Value → xM → Option xO} {ihf : Nat → xL → List Value → xM → Option xO} {nL rt d : Nat} {rF : Option Value} {MF M : xM} {mc ms c1 s1 : Nat} {lv : xL} {st : List Value}
set_option maxHeartbeats 4000000 in
theorem xe_callS_ok (hx : p.tables.exec = Jvm.exec) (hb : c.code = cc) (hml : c.maxLocals = nL) (hown : s.vm.findClass (RO oc) = some m.cls) (hts : ∀ w ∈ xWS, w.before args s = true) (hK : xe_K D aC s) (hB : B ≤ s.heap.size) (hRf : d + 1 ≤ R.frames) (hRl : 64 * (d + 1) ≤ R.locals) (hmc : mc ≤ R.cells) (hms : ms ≤ R.slots)
    (hclen : ∀ mn as M o, call mn as M = some o → o.2.1.length = M.length + o.2.2.1)
    (hcall : ∀ mn as M o, call mn as M = some o → ∀ q, xm mn = some q → Met l q.2.1 (Cond.code q.2.1 q.2.2.1 q.1.2.2.1 q.2.2.2.1 :: xWS) (xe_rm d o.2.2.1 o.2.2.2) (xe_Pc D aC b B xs as M) (xe_Qc D aC b B xs o.1 o.2.1) o.2.2.1 o.2.2.2 (xe_A B))
    (ih : ∀ (pc : Nat) (lv : xL) (st : List Value) (M : xM) (c1 s1 : Nat), ihf pc lv st M = some (rF, MF, c1, s1) → ∀ (H : Heap) (locs : List Loc) (cells slots : Nat) (ls : Array Slot), lv_has ls nL (xe_lm b B xs lv) → va_S (xe_A B) s.heap H locs → va_P D vwCl (xe_ws aC (xe_cv b B xs) B M) H → s.heap.size + cells = B + M.length → cells + c1 = mc → slots + s1 = ms → W p l e R s m args below meth c H locs cells slots Q (F0 m pc ls (st.map (xe_cv b B xs))))
    (hl : lv_has ls nL (xe_lm b B xs lv)) (hS : va_S (xe_A B) s.heap H locs) (hP : va_P D vwCl (xe_ws aC (xe_cv b B xs) B M) H) (hsz : s.heap.size + cells = B + M.length) (hc : cells + c1 = mc) (hs : slots + s1 = ms)
    {k : Nat} (hd : decode cc pc = .ok (.invokestatic k, 3)) (h : xe_callS call oc k pc lv st M ihf = some (rF, MF, c1, s1)) : W p l e R s m args below meth c H locs cells slots Q (F0 m pc ls (st.map (xe_cv b B xs))) := by
  unfold xe_callS at h
  rw [xcF_eq] at h
  simp only [xmF_eq] at h
  split at h
  · rename_i idx mn cis hxc
    split at h
    · rename_i q hq
      split at h
      · rename_i hn
        obtain ⟨o1, c2, s2, ho, hi2, e1, e2⟩ := xe_cont_ok h
        have hlen := hclen _ _ _ _ ho
        obtain ⟨⟨q', hq', w1, w2⟩, hidx⟩ := xc_ok hxc
        cases hq.symm.trans hq'
        dsimp only at hidx w1
        subst hidx
        obtain ⟨g1, g2, g3, g4, g5, g6, g7, g8, g9⟩ := xm_ok hq
        refine xe_sized fun hz => ?_
        have hsz' := xe_size hsz hz hS.1 hB hP
        refine xe_call (va_runS (As := (st.take q.2.2.2.2).reverse.map (xe_cv b B xs)) (rest := (st.drop q.2.2.2.2).map (xe_cv b B xs)) ⟨hx, hb, hml, hown, hts⟩ (hcall _ _ _ _ ho q hq) ⟨callB_of q.2.2.2.2 hts (xWS_good g2) rfl rfl rfl (hts _ g3) (hts _ w1) ⟨g4.2.1, g4.2.2, g9⟩ ⟨hRf, by show 8 + (q.1.2.2.1 + 11) + 64 * d ≤ R.locals; omega⟩, hts _ w2⟩ ⟨xe_blind, fun U hU hW => ⟨rfl, by rw [hU]; exact hsz', by rw [hU]; exact hP, hK.warm hW⟩⟩ rfl (by simp [hn.1]) hl.1 (by show st.map (xe_cv b B xs) = _; rw [← List.map_reverse, List.reverse_reverse, ← List.map_append, List.take_append_drop]) (lv_room (by rw [xe_ssum]; exact of_decide_eq_true hn.2)) hd ⟨by omega, by omega⟩) hS (fun H1 locs1 z1 z2 => ?_)
        rw [xe_res]
        exact ih _ _ _ _ _ _ hi2 H1 locs1 _ _ ls hl z1 z2 (by omega) (by omega) (by omega)
      · cases h
    · cases h
  · rename_i idx mn cis hxc
    split at h
    · rename_i q hq
      split at h
      · rename_i hn
        obtain ⟨o1, c2, s2, ho, hi2, e1, e2⟩ := xe_cont_ok h
        have hlen := hclen _ _ _ _ ho
        obtain ⟨⟨q', hq', w1, w2⟩, hidx⟩ := xc_ok hxc
        cases hq.symm.trans hq'
        dsimp only at hidx w1
        subst hidx
        obtain ⟨g1, g2, g3, g4, g5, g6, g7, g8, g9⟩ := xm_ok hq
        refine xe_sized fun hz => ?_
        have hsz' := xe_size hsz hz hS.1 hB hP
        refine xe_call (va_runSN (As := (st.take q.2.2.2.2).reverse.map (xe_cv b B xs)) (rest := (st.drop q.2.2.2.2).map (xe_cv b B xs)) ⟨hx, hb, hml, hown, hts⟩ (hcall _ _ _ _ ho q hq) ⟨va_cnB q.2.2.2.2 hts (xWS_good g2) rfl rfl rfl (hK.2.2 _ w1) (hts _ g3) ⟨g4.2.1, g4.2.2, g9⟩ ⟨hRf, by show 8 + (q.1.2.2.1 + 11) + 64 * d ≤ R.locals; omega⟩, hts _ w2, trivial⟩ ⟨xe_blind, fun U hU hW => ⟨rfl, by rw [hU]; exact hsz', by rw [hU]; exact hP, hK.warm hW⟩⟩ rfl (by simp [hn.1]) hl.1 (by show st.map (xe_cv b B xs) = _; rw [← List.map_reverse, List.reverse_reverse, ← List.map_append, List.take_append_drop]) (lv_room (by rw [xe_ssum]; exact of_decide_eq_true hn.2)) hd ⟨by omega, by omega⟩) hS (fun H1 locs1 z1 z2 => ?_)
        rw [xe_res]
        exact ih _ _ _ _ _ _ hi2 H1 locs1 _ _ ls hl z1 z2 (by omega) (by omega) (by omega)
      · cases h
    · cases h
  · rename_i idx mn cis hxc
    split at h
    · split at h
      · rename_i hn
        obtain ⟨⟨w1, w2, w3, w4⟩, hidx⟩ := xc_ok hxc
        dsimp only at hidx w1
        subst hidx
        have hr := of_decide_eq_true hn
        exact va_mmax hx hb (hml.trans hl.1.symm) hown (hts _ w1) (hts _ w2) (hts _ w3) (hts _ w4) (by omega) (by rw [xe_ssum]; omega) (by omega) (by omega) hd (ih _ _ _ _ _ _ h H locs cells slots ls hl hS hP hsz hc hs)
      · cases h
    · cases h
  · rename_i idx mn cis hxc
    split at h
    · split at h
      · rename_i hn
        obtain ⟨⟨w1, w2, w3, w4⟩, hidx⟩ := xc_ok hxc
        dsimp only at hidx w1
        subst hidx
        have hr := of_decide_eq_true hn
        exact va_mmin hx hb (hml.trans hl.1.symm) hown (hts _ w1) (hts _ w2) (hts _ w3) (hts _ w4) (by omega) (by rw [xe_ssum]; omega) (by omega) (by omega) hd (ih _ _ _ _ _ _ h H locs cells slots ls hl hS hP hsz hc hs)
      · cases h
    · cases h
  · cases h
set_option maxHeartbeats 4000000 in
theorem xe_callI_ok (hx : p.tables.exec = Jvm.exec) (hb : c.code = cc) (hml : c.maxLocals = nL) (hown : s.vm.findClass (RO oc) = some m.cls) (hts : ∀ w ∈ xWS, w.before args s = true) (hK : xe_K D aC s) (hB : B ≤ s.heap.size) (hRf : d + 1 ≤ R.frames) (hRl : 64 * (d + 1) ≤ R.locals) (hmc : mc ≤ R.cells) (hms : ms ≤ R.slots)
    (hclen : ∀ mn as M o, call mn as M = some o → o.2.1.length = M.length + o.2.2.1)
    (hcall : ∀ mn as M o, call mn as M = some o → ∀ q, xm mn = some q → Met l q.2.1 (Cond.code q.2.1 q.2.2.1 q.1.2.2.1 q.2.2.2.1 :: xWS) (xe_rm d o.2.2.1 o.2.2.2) (xe_Pc D aC b B xs as M) (xe_Qc D aC b B xs o.1 o.2.1) o.2.2.1 o.2.2.2 (xe_A B))
    (ih : ∀ (pc : Nat) (lv : xL) (st : List Value) (M : xM) (c1 s1 : Nat), ihf pc lv st M = some (rF, MF, c1, s1) → ∀ (H : Heap) (locs : List Loc) (cells slots : Nat) (ls : Array Slot), lv_has ls nL (xe_lm b B xs lv) → va_S (xe_A B) s.heap H locs → va_P D vwCl (xe_ws aC (xe_cv b B xs) B M) H → s.heap.size + cells = B + M.length → cells + c1 = mc → slots + s1 = ms → W p l e R s m args below meth c H locs cells slots Q (F0 m pc ls (st.map (xe_cv b B xs))))
    (hl : lv_has ls nL (xe_lm b B xs lv)) (hS : va_S (xe_A B) s.heap H locs) (hP : va_P D vwCl (xe_ws aC (xe_cv b B xs) B M) H) (hsz : s.heap.size + cells = B + M.length) (hc : cells + c1 = mc) (hs : slots + s1 = ms)
    {k : Nat} (hd : decode cc pc = .ok (.invokespecial k, 3)) (h : xe_callI call oc k pc lv st M ihf = some (rF, MF, c1, s1)) : W p l e R s m args below meth c H locs cells slots Q (F0 m pc ls (st.map (xe_cv b B xs))) := by
  unfold xe_callI at h
  rw [xcF_eq] at h
  simp only [xmF_eq] at h
  split at h
  · rename_i idx mn cis hxc
    split at h
    · rename_i q hq
      split at h
      · rename_i a r hst
        split at h
        · rename_i hn
          obtain ⟨o1, c2, s2, ho, hi2, e1, e2⟩ := xe_cont_ok h
          have hlen := hclen _ _ _ _ ho
          obtain ⟨⟨q', hq', w1, w2, w3, w4⟩, hidx⟩ := xc_ok hxc
          cases hq.symm.trans hq'
          dsimp only at hidx w1
          subst hidx
          obtain ⟨g1, g2, g3, g4, g5, g6, g7, g8, g9⟩ := xm_ok hq
          have hM := hcall _ _ _ _ ho q hq
          rw [w4] at hM g2
          have hlt : q.2.2.2.2 < st.length := Nat.lt_of_not_le fun z => by rw [List.drop_eq_nil_of_le z] at hst; cases hst
          refine xe_sized fun hz => ?_
          have hsz' := xe_size hsz hz hS.1 hB hP
          refine xe_call (va_runI (b := B + a) (As := (st.take q.2.2.2.2).reverse.map (xe_cv b B xs)) (rest := r.map (xe_cv b B xs)) ⟨hx, hb, hml, hown, hts⟩ hM ⟨callB_of q.2.2.2.2 hts (xWS_good g2) rfl rfl rfl (hts _ g3) (hts _ w1) ⟨g4.2.1, g4.2.2, g9⟩ ⟨hRf, by show 8 + (q.1.2.2.1 + 11) + 64 * d ≤ R.locals; omega⟩, w3, hts _ w2⟩ ⟨xe_blind, fun U hU hW => ⟨rfl, by rw [hU]; exact hsz', by rw [hU]; exact hP, hK.warm hW⟩⟩ rfl (by simp; omega) hl.1 (by show st.map (xe_cv b B xs) = _; rw [← List.map_reverse, List.reverse_reverse, show (Value.ref (B + a) :: r.map (xe_cv b B xs)) = (Value.ref a :: r).map (xe_cv b B xs) from rfl, ← hst, ← List.map_append, List.take_append_drop]) (lv_room (by rw [xe_ssum]; exact of_decide_eq_true hn)) hd ⟨by omega, by omega⟩) hS (fun H1 locs1 z1 z2 => ?_)
          rw [xe_res]
          exact ih _ _ _ _ _ _ hi2 H1 locs1 _ _ ls hl z1 z2 (by omega) (by omega) (by omega)
        · cases h
      · cases h
    · cases h
  · rename_i idx mn cis hxc
    split at h
    · rename_i q hq
      split at h
      · rename_i a r hst
        split at h
        · rename_i hn
          obtain ⟨o1, c2, s2, ho, hi2, e1, e2⟩ := xe_cont_ok h
          have hlen := hclen _ _ _ _ ho
          obtain ⟨⟨q', hq', w1, w2, w3, w4⟩, hidx⟩ := xc_ok hxc
          cases hq.symm.trans hq'
          dsimp only at hidx w1
          subst hidx
          obtain ⟨g1, g2, g3, g4, g5, g6, g7, g8, g9⟩ := xm_ok hq
          have hM := hcall _ _ _ _ ho q hq
          rw [w4] at hM g2
          have hlt : q.2.2.2.2 < st.length := Nat.lt_of_not_le fun z => by rw [List.drop_eq_nil_of_le z] at hst; cases hst
          refine xe_sized fun hz => ?_
          have hsz' := xe_size hsz hz hS.1 hB hP
          refine xe_call (va_runIN (b := B + a) (As := (st.take q.2.2.2.2).reverse.map (xe_cv b B xs)) (rest := r.map (xe_cv b B xs)) ⟨hx, hb, hml, hown, hts⟩ hM ⟨va_cnB q.2.2.2.2 hts (xWS_good g2) rfl rfl rfl (hK.2.2 _ w1) (hts _ g3) ⟨g4.2.1, g4.2.2, g9⟩ ⟨hRf, by show 8 + (q.1.2.2.1 + 11) + 64 * d ≤ R.locals; omega⟩, w3, hts _ w2⟩ ⟨xe_blind, fun U hU hW => ⟨rfl, by rw [hU]; exact hsz', by rw [hU]; exact hP, hK.warm hW⟩⟩ rfl (by simp; omega) hl.1 (by show st.map (xe_cv b B xs) = _; rw [← List.map_reverse, List.reverse_reverse, show (Value.ref (B + a) :: r.map (xe_cv b B xs)) = (Value.ref a :: r).map (xe_cv b B xs) from rfl, ← hst, ← List.map_append, List.take_append_drop]) (lv_room (by rw [xe_ssum]; exact of_decide_eq_true hn)) hd ⟨by omega, by omega⟩) hS (fun H1 locs1 z1 z2 => ?_)
          rw [xe_res]
          exact ih _ _ _ _ _ _ hi2 H1 locs1 _ _ ls hl z1 z2 (by omega) (by omega) (by omega)
        · cases h
      · cases h
    · cases h
  · rename_i idx mn cis hxc
    split at h
    · rename_i a r
      split at h
      · rename_i hn
        obtain ⟨⟨w1, w2, w3⟩, hidx⟩ := xc_ok hxc
        dsimp only at hidx w1
        subst hidx
        have hsum : ((r.map (xe_cv b B xs)).map fun v => v.category).sum ≤ 8 := by rw [xe_ssum]; exact of_decide_eq_true hn
        have hroom : 2 * (F0 m pc ls (Value.ref (B + a) :: r.map (xe_cv b B xs))).monitorRoom + ((r.map (xe_cv b B xs)).map fun v => v.category).sum ≤ 8 := lv_room hsum
        exact W.objInit (a := B + a) (rest := r.map (xe_cv b B xs)) hx hb hown (hts _ w1) (hts _ w2) (hts _ w3) rfl (hl.1.trans hml.symm) rfl hd (by omega) (Nat.le_trans (Nat.add_le_add_right hroom 12) (by omega)) (ih _ _ _ _ _ _ h H locs cells slots ls hl hS hP hsz hc hs)
      · cases h
    · cases h
  · cases h
set_option maxHeartbeats 4000000 in
theorem xe_callV_ok (hx : p.tables.exec = Jvm.exec) (hb : c.code = cc) (hml : c.maxLocals = nL) (hown : s.vm.findClass (RO oc) = some m.cls) (hts : ∀ w ∈ xWS, w.before args s = true) (hK : xe_K D aC s) (hB : B ≤ s.heap.size) (hRf : d + 1 ≤ R.frames) (hRl : 64 * (d + 1) ≤ R.locals) (hmc : mc ≤ R.cells) (hms : ms ≤ R.slots)
    (hclen : ∀ mn as M o, call mn as M = some o → o.2.1.length = M.length + o.2.2.1)
    (hcall : ∀ mn as M o, call mn as M = some o → ∀ q, xm mn = some q → Met l q.2.1 (Cond.code q.2.1 q.2.2.1 q.1.2.2.1 q.2.2.2.1 :: xWS) (xe_rm d o.2.2.1 o.2.2.2) (xe_Pc D aC b B xs as M) (xe_Qc D aC b B xs o.1 o.2.1) o.2.2.1 o.2.2.2 (xe_A B))
    (ih : ∀ (pc : Nat) (lv : xL) (st : List Value) (M : xM) (c1 s1 : Nat), ihf pc lv st M = some (rF, MF, c1, s1) → ∀ (H : Heap) (locs : List Loc) (cells slots : Nat) (ls : Array Slot), lv_has ls nL (xe_lm b B xs lv) → va_S (xe_A B) s.heap H locs → va_P D vwCl (xe_ws aC (xe_cv b B xs) B M) H → s.heap.size + cells = B + M.length → cells + c1 = mc → slots + s1 = ms → W p l e R s m args below meth c H locs cells slots Q (F0 m pc ls (st.map (xe_cv b B xs))))
    (hl : lv_has ls nL (xe_lm b B xs lv)) (hS : va_S (xe_A B) s.heap H locs) (hP : va_P D vwCl (xe_ws aC (xe_cv b B xs) B M) H) (hsz : s.heap.size + cells = B + M.length) (hc : cells + c1 = mc) (hs : slots + s1 = ms)
    {k : Nat} (hd : decode cc pc = .ok (.invokevirtual k, 3)) (h : xe_callV call oc k pc lv st M ihf = some (rF, MF, c1, s1)) : W p l e R s m args below meth c H locs cells slots Q (F0 m pc ls (st.map (xe_cv b B xs))) := by
  unfold xe_callV at h
  rw [xcF_eq] at h
  simp only [xmF_eq, xg_eq] at h
  split at h
  · rename_i idx mn cis hxc
    split at h
    · rename_i q hq
      split at h
      · rename_i a r hst
        split at h
        · rename_i q0 hq0
          obtain ⟨ci, fs⟩ := q0
          split at h
          · rename_i hn
            obtain ⟨o1, c2, s2, ho, hi2, e1, e2⟩ := xe_cont_ok h
            have hlen := hclen _ _ _ _ ho
            obtain ⟨⟨q', hq', w1, w2, w3⟩, hidx⟩ := xc_ok hxc
            cases hq.symm.trans hq'
            dsimp only at hidx w1 w3
            subst hidx
            obtain ⟨C, T, N, v1, v2⟩ := w3 ci (by simpa using hn.2.1)
            obtain ⟨g1, g2, g3, g4, g5, g6, g7, g8, g9⟩ := xm_ok hq
            have hlt : q.2.2.2.2 < st.length := Nat.lt_of_not_le fun z => by rw [List.drop_eq_nil_of_le z] at hst; cases hst
            have hw := xe_ws_get (aC := aC) (cv := xe_cv b B xs) (B := B) hq0
            rw [xe_el_obj hn.1] at hw
            refine xe_sized fun hz => ?_
            have hsz' := xe_size hsz hz hS.1 hB hP
            refine xe_call (va_runV (C := C) (b := B + a) (As := (st.take q.2.2.2.2).reverse.map (xe_cv b B xs)) (rest := r.map (xe_cv b B xs)) ⟨hx, hb, hml, hown, hts⟩ (hcall _ _ _ _ ho q hq) ⟨callB_of q.2.2.2.2 hts (xWS_good g2) rfl rfl rfl (hts _ g3) (hts _ w1) ⟨g4.2.1, g4.2.2, g9⟩ ⟨hRf, by show 8 + (q.1.2.2.1 + 11) + 64 * d ≤ R.locals; omega⟩, hts _ w2, hts _ v2⟩ ⟨xe_blind, va_recv hK.1 hP v1 hw, fun U hU hW => ⟨rfl, by rw [hU]; exact hsz', by rw [hU]; exact hP, hK.warm hW⟩⟩ rfl (by simp; omega) hl.1 (by show st.map (xe_cv b B xs) = _; rw [← List.map_reverse, List.reverse_reverse, show (Value.ref (B + a) :: r.map (xe_cv b B xs)) = (Value.ref a :: r).map (xe_cv b B xs) from rfl, ← hst, ← List.map_append, List.take_append_drop]) (lv_room (by rw [xe_ssum]; exact of_decide_eq_true hn.2.2)) hd ⟨by omega, by omega⟩) hS (fun H1 locs1 z1 z2 => ?_)
            rw [xe_res]
            exact ih _ _ _ _ _ _ hi2 H1 locs1 _ _ ls hl z1 z2 (by omega) (by omega) (by omega)
          · cases h
        · cases h
      · cases h
    · cases h
  · cases h
set_option maxHeartbeats 4000000 in
theorem xe_step3_ok (hx : p.tables.exec = Jvm.exec) (hb : c.code = cc) (hml : c.maxLocals = nL) (hown : s.vm.findClass (RO oc) = some m.cls) (hts : ∀ w ∈ xWS, w.before args s = true) (hK : xe_K D aC s) (hB : B ≤ s.heap.size) (hRf : d + 1 ≤ R.frames) (hRl : 64 * (d + 1) ≤ R.locals) (hmc : mc ≤ R.cells) (hms : ms ≤ R.slots)
    (hclen0 : ∀ mn as M o, call0 mn as M = some o → o.2.1.length = M.length + o.2.2.1)
    (hclen : ∀ mn as M o, call mn as M = some o → o.2.1.length = M.length + o.2.2.1)
    (hcall0 : ∀ mn as M o, call0 mn as M = some o → ∀ q, xm mn = some q → Met l q.2.1 (Cond.code q.2.1 q.2.2.1 q.1.2.2.1 q.2.2.2.1 :: xWS) (xe_rm d o.2.2.1 o.2.2.2) (xe_Pc D aC b B xs as M) (xe_Qc D aC b B xs o.1 o.2.1) o.2.2.1 o.2.2.2 (xe_A B))
    (hcall : ∀ mn as M o, call mn as M = some o → ∀ q, xm mn = some q → Met l q.2.1 (Cond.code q.2.1 q.2.2.1 q.1.2.2.1 q.2.2.2.1 :: xWS) (xe_rm d o.2.2.1 o.2.2.2) (xe_Pc D aC b B xs as M) (xe_Qc D aC b B xs o.1 o.2.1) o.2.2.1 o.2.2.2 (xe_A B))
    (hend : ∀ (i : Instr) (pc : Nat) (ls : Array Slot) (H : Heap) (locs : List Loc), xe_isret rt i rF = true → decode cc pc = .ok (i, 1) → va_S (xe_A B) s.heap H locs → va_P D vwCl (xe_ws aC (xe_cv b B xs) B MF) H → W p l e R s m args below meth c H locs mc ms Q (F0 m pc ls (rF.map (xe_cv b B xs)).toList))
    (ih : ∀ (pc : Nat) (lv : xL) (st : List Value) (M : xM) (c1 s1 : Nat), ihf pc lv st M = some (rF, MF, c1, s1) → ∀ (H : Heap) (locs : List Loc) (cells slots : Nat) (ls : Array Slot), lv_has ls nL (xe_lm b B xs lv) → va_S (xe_A B) s.heap H locs → va_P D vwCl (xe_ws aC (xe_cv b B xs) B M) H → s.heap.size + cells = B + M.length → cells + c1 = mc → slots + s1 = ms → W p l e R s m args below meth c H locs cells slots Q (F0 m pc ls (st.map (xe_cv b B xs))))
    (hl : lv_has ls nL (xe_lm b B xs lv)) (hS : va_S (xe_A B) s.heap H locs) (hP : va_P D vwCl (xe_ws aC (xe_cv b B xs) B M) H) (hsz : s.heap.size + cells = B + M.length) (hc : cells + c1 = mc) (hs : slots + s1 = ms)
    {i : Instr} {len : Nat} (hd : decode cc pc = .ok (i, xe_len i len)) (h : xe_step3 call0 call oc rt i pc lv st M ihf = some (rF, MF, c1, s1)) : W p l e R s m args below meth c H locs cells slots Q (F0 m pc ls (st.map (xe_cv b B xs))) := by
  have hA : ∀ q : Nat, s.heap.size ≤ q → xe_A B q := fun q z => Nat.le_trans hB z
  have fin : ∀ i, xe_len i len = 1 → decode cc pc = .ok (i, xe_len i len) → xe_end rt i st M = some (rF, MF, c1, s1) → W p l e R s m args below meth c H locs cells slots Q (F0 m pc ls (st.map (xe_cv b B xs))) := by
    intro i h1 hd h
    rw [h1] at hd
    unfold xe_end at h
    split at h
    · split at h
      · rename_i hr
        cases h
        have e1 : cells = mc := by omega
        have e2 : slots = ms := by omega
        subst e1; subst e2
        exact hend i pc ls H locs hr hd hS hP
      · cases h
    · split at h
      · rename_i hr
        cases h
        have e1 : cells = mc := by omega
        have e2 : slots = ms := by omega
        subst e1; subst e2
        exact hend i pc ls H locs hr hd hS hP
      · cases h
    · cases h
  unfold xe_step3 at h
  split at h
  · unfold xd_new at h
    simp only [xln_eq] at h
    split at h
    · rename_i e0 he0
      split at h
      · rename_i hpl
        obtain ⟨c2, s2, hi2, e1, e2⟩ := xe_made_ok h
        obtain ⟨⟨C, T, N, ty, h1, h2, h3, h4, h5, h6, h7⟩, hidx⟩ := xn_ok he0
        subst hidx
        refine va_new (ci := e0.2.1) (fs := e0.2.2) hx hb hts (xcl_ok _ _ _ _ h1).1 ty h5 hown (hts _ h2) (hts _ h3) (hts _ h4) hK.1 hP xe_ws_D hS hA h1 h6 (by omega) (by omega) hd (fun q H1 z1 z2 z3 => xe_sized fun hz => ?_)
        have hq := xe_newad hsz hz z1 z2
        subst hq
        have e9 : (.inr (e0.2.1, e0.2.2) : va_E) = xe_el aC (xe_cv b B xs) (e0.2.1, e0.2.2) := by rw [xe_el_obj (xe_ci h1), xe_plain_cv hpl]
        rw [e9, xe_ws_app] at z1
        exact ih _ _ _ _ _ _ hi2 H1 locs _ _ ls hl z3 z1 (by rw [List.length_append]; simp; omega) (by omega) (by omega)
      · cases h
    · cases h
  · unfold xd_newarray at h
    simp only [xln_eq] at h
    split at h
    · rename_i n r
      split at h
      · rename_i hn
        obtain ⟨c2, s2, hi2, e1, e2⟩ := xe_made_ok h
        refine va_newa (atype := .int) (ty := .int) (a0 := (n.toNatClampNeg, .inl (fun _ => 0))) hx hb (hts _ xai) rfl hK.1 hP xe_ws_D hS hA (fun _ => rfl) hn.1 rfl (by show n.toNatClampNeg * 4 ≤ 536870912; omega) (by omega) (by omega) hd (fun q cA H1 z0 z1 z2 z3 => xe_sized fun hz => ?_)
        have hq := xe_newad hsz hz z1 z2
        subst hq
        have ec : cA = aC 0 := Option.some.inj ((z0.2 4 _ rfl).2.symm.trans (hK.1.2 0 _ rfl).2)
        subst ec
        rw [xe_zeros aC b B xs, xe_ws_app] at z1
        exact ih _ _ _ _ _ _ hi2 H1 locs _ _ ls hl z3 z1 (by rw [List.length_append]; simp; omega) (by omega) (by omega)
      · cases h
    · cases h
  · unfold xd_anewarray at h
    simp only [xln_eq] at h
    split at h
    · rename_i e0 he0
      split at h
      · rename_i n r
        split at h
        · rename_i hn
          obtain ⟨c2, s2, hi2, e1, e2⟩ := xe_made_ok h
          obtain ⟨⟨C, h1, h2⟩, hidx⟩ := xa_ok he0
          subst hidx
          have hao : va_AO C s ∧ ∀ cA, va_K D vwCl (xe_ty aC ++ [(cA, .object C)]) s → cA = aC (e0.2 + 1) := by
            obtain ⟨i0, t0⟩ := e0
            match t0, h1 with
            | 0, h1 => cases h1; exact ⟨hK.2.1.1, fun cA z0 => by
                obtain ⟨_, _, _, _, _, f1⟩ := (z0.2 4 _ rfl).2
                obtain ⟨_, _, _, _, _, f2⟩ := (hK.1.2 1 _ rfl).2
                exact Option.some.inj (f1.symm.trans f2)⟩
            | 1, h1 => cases h1; exact ⟨hK.2.1.2.1, fun cA z0 => by
                obtain ⟨_, _, _, _, _, f1⟩ := (z0.2 4 _ rfl).2
                obtain ⟨_, _, _, _, _, f2⟩ := (hK.1.2 2 _ rfl).2
                exact Option.some.inj (f1.symm.trans f2)⟩
            | 2, h1 => cases h1; exact ⟨hK.2.1.2.2, fun cA z0 => by
                obtain ⟨_, _, _, _, _, f1⟩ := (z0.2 4 _ rfl).2
                obtain ⟨_, _, _, _, _, f2⟩ := (hK.1.2 3 _ rfl).2
                exact Option.some.inj (f1.symm.trans f2)⟩
            | _ + 3, h1 => cases h1
          refine va_newq hx hb hown (hts _ h2) hao.1 hK.1 hP xe_ws_D hS hA hn.1 rfl (by omega) (by omega) (by omega) hd (fun q cA H1 z0 z1 z2 z3 => xe_sized fun hz => ?_)
          have hq := xe_newad hsz hz z1 z2
          subst hq
          have ec := hao.2 cA z0
          subst ec
          rw [xe_nulls aC b B xs, xe_ws_app] at z1
          exact ih _ _ _ _ _ _ hi2 H1 locs _ _ ls hl z3 z1 (by rw [List.length_append]; simp; omega) (by omega) (by omega)
        · cases h
      · cases h
    · cases h
  · unfold xd_invokestatic at h
    exact xe_callS_ok hx hb hml hown hts hK hB hRf hRl hmc hms hclen hcall ih hl hS hP hsz hc hs hd h
  · unfold xd_invokespecial at h
    exact xe_callI_ok hx hb hml hown hts hK hB hRf hRl hmc hms hclen0 hcall0 ih hl hS hP hsz hc hs hd h
  · unfold xd_invokevirtual at h
    exact xe_callV_ok hx hb hml hown hts hK hB hRf hRl hmc hms hclen hcall ih hl hS hP hsz hc hs hd h
  · unfold xd_ireturn at h
    exact fin _ rfl hd h
  · unfold xd_lreturn at h
    exact fin _ rfl hd h
  · unfold xd_areturn at h
    exact fin _ rfl hd h
  · unfold xd_return_ at h
    exact fin _ rfl hd h
  · cases h
set_option maxHeartbeats 4000000 in
theorem xe_run_ok {iv : List (Int32 × Int32)} {a6 : Option Int32} {tb : xI} {ini : Bool} {sc : Option (List Value)} (hx : p.tables.exec = Jvm.exec) (hb : c.code = cc) (hml : c.maxLocals = nL) (hown : s.vm.findClass (RO oc) = some m.cls) (hts : ∀ w ∈ xWS, w.before args s = true) (hK : xe_K D aC s) (hB : B ≤ s.heap.size) (hRf : d + 1 ≤ R.frames) (hRl : 64 * (d + 1) ≤ R.locals) (hmc : mc ≤ R.cells) (hms : ms ≤ R.slots)
    (hi : xe_in iv xs) (h6 : ∀ v, a6 = some v → xs 0 &&& 63 = v) (htb : xe_ok cc tb = true) (hin : ini = true → meth.name = "<init>") (hsc : ∀ vs, sc = some vs → va_X b vs.length (fun j => xe_iof (xe_cv b B xs (vs.getD j .null))) s s.heap ∧ b < s.heap.size ∧ b < B)
    (hclen0 : ∀ mn as M o, call0 mn as M = some o → o.2.1.length = M.length + o.2.2.1)
    (hclen : ∀ mn as M o, call mn as M = some o → o.2.1.length = M.length + o.2.2.1)
    (hcall0 : ∀ mn as M o, call0 mn as M = some o → ∀ q, xm mn = some q → Met l q.2.1 (Cond.code q.2.1 q.2.2.1 q.1.2.2.1 q.2.2.2.1 :: xWS) (xe_rm d o.2.2.1 o.2.2.2) (xe_Pc D aC b B xs as M) (xe_Qc D aC b B xs o.1 o.2.1) o.2.2.1 o.2.2.2 (xe_A B))
    (hcall : ∀ mn as M o, call mn as M = some o → ∀ q, xm mn = some q → Met l q.2.1 (Cond.code q.2.1 q.2.2.1 q.1.2.2.1 q.2.2.2.1 :: xWS) (xe_rm d o.2.2.1 o.2.2.2) (xe_Pc D aC b B xs as M) (xe_Qc D aC b B xs o.1 o.2.1) o.2.2.1 o.2.2.2 (xe_A B))
    (hend : ∀ (i : Instr) (pc : Nat) (ls : Array Slot) (H : Heap) (locs : List Loc), xe_isret rt i rF = true → decode cc pc = .ok (i, 1) → va_S (xe_A B) s.heap H locs → va_P D vwCl (xe_ws aC (xe_cv b B xs) B MF) H → W p l e R s m args below meth c H locs mc ms Q (F0 m pc ls (rF.map (xe_cv b B xs)).toList)) :
    ∀ (n pc : Nat) (lv : xL) (st : List Value) (M : xM) (c1 s1 : Nat), xe_run iv a6 sc call0 call tb oc nL rt ini n pc lv st M = some (rF, MF, c1, s1) → ∀ (H : Heap) (locs : List Loc) (cells slots : Nat) (ls : Array Slot), lv_has ls nL (xe_lm b B xs lv) → va_S (xe_A B) s.heap H locs → va_P D vwCl (xe_ws aC (xe_cv b B xs) B M) H → s.heap.size + cells = B + M.length → cells + c1 = mc → slots + s1 = ms → W p l e R s m args below meth c H locs cells slots Q (F0 m pc ls (st.map (xe_cv b B xs))) := by
  intro n
  induction n with
  | zero =>
    intro pc lv st M c1 s1 h
    cases h
  | succ n ih =>
    intro pc lv st M c1 s1 h H locs cells slots ls hl hS hP hsz hc hs
    have h : xe_body iv a6 sc call0 call tb oc nL rt ini (xe_run iv a6 sc call0 call tb oc nL rt ini n) pc lv st M = some (rF, MF, c1, s1) := h
    unfold xe_body at h
    rw [xe_lkF_eq] at h
    split at h
    · cases h
    · rename_i q hq
      obtain ⟨i, len⟩ := q
      have hd := xe_ok_lk htb hq
      split at h
      · rename_i f hf
        exact xe_step1_ok hx hb hown hts hi h6 hd hl hf (fun ls' hl' => ih _ _ _ _ _ _ h H locs cells slots ls' hl' hS hP hsz hc hs)
      · split at h
        · rename_i g hg
          exact xe_step2_ok hx hb hown hts hK hin hsc hS hP hd hg (fun H' locs' e1 e2 hS' hP' => ih _ _ _ _ _ _ h H' locs' cells slots ls (by rw [e1]; exact hl) hS' hP' (by rw [e2]; exact hsz) hc hs)
        · exact xe_step3_ok hx hb hml hown hts hK hB hRf hRl hmc hms hclen0 hclen hcall0 hcall hend ih hl hS hP hsz hc hs hd h
end
end
section
/-! every method keeps what the pure machine says; the law over the pure machine -/
theorem xe_rt1 {t : Option FieldType} (h : xe_rt t = 1) : t = some .int := by
  unfold xe_rt at h
  split at h <;> first | rfl | cases h
theorem xe_rt2 {t : Option FieldType} (h : xe_rt t = 2) : t = some .boolean := by
  unfold xe_rt at h
  split at h <;> first | rfl | cases h
theorem xe_rt3 {t : Option FieldType} (h : xe_rt t = 3) : t = some .long := by
  unfold xe_rt at h
  split at h <;> first | rfl | cases h
theorem xe_rt0 {t : Option FieldType} (h : xe_rt t = 0) : t = none := by
  unfold xe_rt at h
  split at h <;> first | rfl | cases h
theorem xe_rt4 {t : Option FieldType} (h : xe_rt t = 4) : ∃ u, t = some u ∧ ((∃ n, u = .object n) ∨ ∃ v, u = .array v) := by
  unfold xe_rt at h
  split at h
  · cases h
  · cases h
  · cases h
  · cases h
  · exact ⟨_, rfl, Or.inl ⟨_, rfl⟩⟩
  · exact ⟨_, rfl, Or.inr ⟨_, rfl⟩⟩
  · cases h
section
variable {l : Launch} {b B : Nat} {xs : Nat → Int32} {D : va_G} {aC : Nat → ClassId} {iv : List (Int32 × Int32)} {call0 call : Nat → List Value → xM → Option xO} {d : Nat}
set_option maxHeartbeats 4000000 in
theorem xe_meth (hi : xe_in iv xs) (hclen0 : ∀ mn as M o, call0 mn as M = some o → o.2.1.length = M.length + o.2.2.1) (hclen : ∀ mn as M o, call mn as M = some o → o.2.1.length = M.length + o.2.2.1)
    (hcall0 : ∀ mn as M o, call0 mn as M = some o → ∀ q, xm mn = some q → Met l q.2.1 (Cond.code q.2.1 q.2.2.1 q.1.2.2.1 q.2.2.2.1 :: xWS) (xe_rm d o.2.2.1 o.2.2.2) (xe_Pc D aC b B xs as M) (xe_Qc D aC b B xs o.1 o.2.1) o.2.2.1 o.2.2.2 (xe_A B))
    (hcall : ∀ mn as M o, call mn as M = some o → ∀ q, xm mn = some q → Met l q.2.1 (Cond.code q.2.1 q.2.2.1 q.1.2.2.1 q.2.2.2.1 :: xWS) (xe_rm d o.2.2.1 o.2.2.2) (xe_Pc D aC b B xs as M) (xe_Qc D aC b B xs o.1 o.2.1) o.2.2.1 o.2.2.2 (xe_A B))
    {mn : Nat} {as : List Value} {M : xM} {o : xO} {q : xME} (hq : xm mn = some q) (hle : xe_cats as ≤ q.1.2.2.1) (h : xe_run iv none none call0 call q.1.1 q.1.2.1 q.1.2.2.1 q.1.2.2.2.1 q.1.2.2.2.2 4000 0 (lv_args 0 as) [] M = some o) :
    Met l q.2.1 (Cond.code q.2.1 q.2.2.1 q.1.2.2.1 q.2.2.2.1 :: xWS) (xe_rm (d + 1) o.2.2.1 o.2.2.2) (xe_Pc D aC b B xs as M) (xe_Qc D aC b B xs o.1 o.2.1) o.2.2.1 o.2.2.2 (xe_A B) := by
  obtain ⟨g1, g2, g3, g4, g5, g6, g7, g8, g9⟩ := xm_ok hq
  obtain ⟨rF, MF, c1, s1⟩ := o
  refine Met.ofW (cc := q.2.2.1) (maxL := q.1.2.2.1) (ret := q.2.2.2.1) g4.1 rfl ?_
  intro p e s m args below meth c s₁ Bd hml hv
  obtain ⟨rfl, hsz, hP, hK⟩ := hv
  have hx := Bd.exec
  have hb := Bd.bytes
  have hr := Bd.returns
  have hts0 := atoms_spec (ws := Cond.code q.2.1 q.2.2.1 q.1.2.2.1 q.2.2.2.1 :: xWS) Bd.pre
  have hts : ∀ w ∈ xWS, w.before (as.map (xe_cv b B xs)).toArray s = true := fun w hw => hts0 w (List.mem_cons_of_mem _ hw)
  have hown : s.vm.findClass q.2.1.cls = some m.cls := findClass_of_methodNamed Bd.named
  rw [g5] at hown
  have hlocks := Bd.notSynchronized
  have hnm : q.1.2.2.2.2 = true → meth.name = "<init>" := fun z => ((name_of_methodNamed Bd.named Bd.method).1).trans (g6 z)
  have hl := lv_entry (as.map (xe_cv b B xs)) (n := q.1.2.2.1) (by rw [xe_slen, ← xe_cats_eq]; exact hle)
  rw [xe_args] at hl
  rw [lg_entry_eq]
  refine xe_run_ok (d := d) (mc := c1) (ms := s1) (R := (headSpec (Cond.code q.2.1 q.2.2.1 q.1.2.2.1 q.2.2.2.1 :: xWS) (xe_rm (d + 1) c1 s1)).room) (a6 := none) (sc := none) hx hb hml hown hts hK (by omega) (Nat.le_refl (d + 1)) (Nat.le_refl (64 * (d + 1))) (Nat.le_refl c1) (Nat.le_refl s1) hi (fun _ z => by cases z) g1 hnm (fun _ z => by cases z) hclen0 hclen hcall0 hcall ?_ 4000 0 _ [] M c1 s1 h s.heap [] 0 0 _ hl va_S.rf hP (by omega) (by omega) (by omega)
  intro i pc ls H locs hret hd hS hP2
  unfold xe_isret at hret
  split at hret
  · rename_i v
    rw [Bool.and_eq_true] at hret
    obtain ⟨x, ex⟩ := xe_isI_ok (b := b) (B := B) (xs := xs) hret.1
    have hq2 : ∀ t : State, t.heap = H → s.WarmedH t.vm → xe_Qc D aC b B xs (some v) MF (as.map (xe_cv b B xs)).toArray s (.returned (some (.int x))) t := fun t ht _ => ⟨⟨by rw [← ex]; rfl, by rw [ht]; exact hP2⟩, hS.F ht⟩
    have eg : ((some v).map (xe_cv b B xs)).toList = [.int x] := by rw [← ex]; rfl
    rw [eg]
    by_cases hone : q.1.2.2.2.1 = 1
    · rw [hone] at g7
      exact W.iret hx hb (hr.trans (xe_rt1 g7)) hq2 hS.2.2 hd
    · have h2 := hret.2
      simp only [Bool.or_eq_true, Bool.and_eq_true, beq_iff_eq, decide_eq_true_eq, hone, false_or] at h2
      rw [h2.1] at g7
      have hn : narrow .boolean (.int x) = .int x := by
        rcases h2.2 with rfl | rfl
        · cases ex; rfl
        · cases ex; rfl
      exact W.zret hx hb (hr.trans (xe_rt2 g7)) hn hq2 hS.2.2 hd
  · rename_i v
    rw [Bool.and_eq_true] at hret
    obtain ⟨x, ex⟩ := xe_isL_ok (b := b) (B := B) (xs := xs) hret.1
    have hq2 : ∀ t : State, t.heap = H → s.WarmedH t.vm → xe_Qc D aC b B xs (some v) MF (as.map (xe_cv b B xs)).toArray s (.returned (some (.long x))) t := fun t ht _ => ⟨⟨by rw [← ex]; rfl, by rw [ht]; exact hP2⟩, hS.F ht⟩
    have eg : ((some v).map (xe_cv b B xs)).toList = [.long x] := by rw [← ex]; rfl
    rw [eg]
    have h2 : q.1.2.2.2.1 = 3 := by simpa using hret.2
    rw [h2] at g7
    exact W.lret hx hb (hr.trans (xe_rt3 g7)) hq2 hS.2.2 hd
  · rename_i a
    have h2 : q.1.2.2.2.1 = 4 := by simpa using hret
    rw [h2] at g7
    obtain ⟨u, eu, hu⟩ := xe_rt4 g7
    exact W.aret (v := .ref (B + a)) hx hb (hr.trans eu) hu (Or.inr ⟨_, rfl⟩) (fun t ht _ => ⟨⟨rfl, by rw [ht]; exact hP2⟩, hS.F ht⟩) hS.2.2 hd
  · have h2 : q.1.2.2.2.1 = 0 := by simpa using hret
    rw [h2] at g7
    exact W.vret hx hb (hr.trans (xe_rt0 g7)) (fun t ht _ => ⟨⟨rfl, by rw [ht]; exact hP2⟩, hS.F ht⟩) hS.2.2 hd
  · cases hret
theorem xe_ex0_ok : ∀ (d mn : Nat) (as : List Value) (M : xM) (o : xO), xe_ex0 d mn as M = some o → ∀ q, xm mn = some q → Met l q.2.1 (Cond.code q.2.1 q.2.2.1 q.1.2.2.1 q.2.2.2.1 :: xWS) (xe_rm d o.2.2.1 o.2.2.2) (xe_Pc D aC b B xs as M) (xe_Qc D aC b B xs o.1 o.2.1) o.2.2.1 o.2.2.2 (xe_A B) := by
  intro d
  induction d with
  | zero =>
    intro mn as M o h
    cases h
  | succ d ih =>
    intro mn as M o h q hq
    have h : (match xmF mn with
      | none => none
      | some q => if xe_cats as ≤ q.1.2.2.1 then xe_run [] none none (xe_ex0 d) (xe_ex0 d) q.1.1 q.1.2.1 q.1.2.2.1 q.1.2.2.2.1 q.1.2.2.2.2 4000 0 (lv_args 0 as) [] M else none) = some o := h
    rw [xmF_eq, hq] at h
    dsimp only at h
    split at h
    · rename_i hle
      exact xe_meth (fun j z hz => by simp at hz) (xe_ex0_len d) (xe_ex0_len d) ih ih hq hle h
    · cases h
theorem xe_ex_ok (hi : xe_in iv xs) : ∀ (d mn : Nat) (as : List Value) (M : xM) (o : xO), xe_ex iv d mn as M = some o → ∀ q, xm mn = some q → Met l q.2.1 (Cond.code q.2.1 q.2.2.1 q.1.2.2.1 q.2.2.2.1 :: xWS) (xe_rm d o.2.2.1 o.2.2.2) (xe_Pc D aC b B xs as M) (xe_Qc D aC b B xs o.1 o.2.1) o.2.2.1 o.2.2.2 (xe_A B) := by
  intro d
  induction d with
  | zero =>
    intro mn as M o h
    cases h
  | succ d ih =>
    intro mn as M o h q hq
    have h : (match xmF mn with
      | none => none
      | some q => if xe_cats as ≤ q.1.2.2.1 then xe_run iv none none (fun _ _ _ => none) (xe_ex iv d) q.1.1 q.1.2.1 q.1.2.2.1 q.1.2.2.2.1 q.1.2.2.2.2 4000 0 (lv_args 0 as) [] M else none) = some o := h
    rw [xmF_eq, hq] at h
    dsimp only at h
    split at h
    · rename_i hle
      exact xe_meth hi (fun _ _ _ _ z => by cases z) (xe_ex_len d) (fun _ _ _ _ z => by cases z) ih hq hle h
    · cases h
end
/-- an end with true, within the room -/
def xe_fin (x : Option xO) : Bool := match x with
  | some (some (.int v), _, c1, s1) => decide (v = 1) && (decide (c1 ≤ 600000) && decide (s1 ≤ 7302250))
  | _ => false
theorem xe_fin_ok (x : Option xO) (h : xe_fin x = true) : ∃ (MF : xM) (c1 s1 : Nat), x = some (some (.int 1), MF, c1, s1) ∧ c1 ≤ 600000 ∧ s1 ≤ 7302250 := by
  unfold xe_fin at h
  split at h
  · simp only [Bool.and_eq_true, decide_eq_true_eq] at h
    obtain ⟨rfl, hc1, hs1⟩ := h
    exact ⟨_, _, _, rfl, hc1, hs1⟩
  · cases h
/-- the law's own run -/
noncomputable def xe_law (iv : List (Int32 × Int32)) (a6 : Option Int32) (vs : List Value) : Bool := xe_fin (xe_run iv a6 (some vs) (xe_ex0 8) (xe_ex iv 8) xt_L 13 4 2 false 4000 0 [(0, .retAddr 0)] [] [])
theorem xin_ok : ∀ (ci : Nat) (C : String) (T : u_T) (N : Nat), vwCl[ci]? = some (C, T, N) → Cond.instantiable C N ∈ xWS
  | 0, _, _, _, h => by cases h; exact mw_638
  | 1, _, _, _, h => by cases h; exact mw_644
  | 2, _, _, _, h => by cases h; exact mw_640
  | 3, _, _, _, h => by cases h; exact mw_654
  | 4, _, _, _, h => by cases h; exact mw_648
  | 5, _, _, _, h => by cases h; exact mw_646
  | 6, _, _, _, h => by cases h; exact mw_639
  | 7, _, _, _, h => by cases h; exact mw_642
  | 8, _, _, _, h => by cases h; exact mw_650
  | 9, _, _, _, h => by cases h; exact mw_652
  | 10, _, _, _, h => by cases h; exact mw_635
  | 11, _, _, _, h => by cases h; exact mw_637
  | _ + 12, _, _, _, h => nomatch h
theorem xe_known {args : Array Value} {s : State} (hts : ∀ w ∈ lw_tbl, w.before args s = true) : ∃ (D : va_G) (aC : Nat → ClassId), xe_K D aC s := by
  have hts' : ∀ w ∈ xWS, w.before args s = true := fun w hw => hts w (List.mem_filter.mp hw).1
  have h0 : ∀ ci : Nat, ∃ x : ClassId × (Nat → Nat), ∀ q, vwCl[ci]? = some q → u_Kn s q.1 q.2.1 q.2.2 x.1 x.2 := by
    intro ci
    cases hq : vwCl[ci]? with
    | none => exact ⟨(0, fun _ => 0), fun q h => by cases h⟩
    | some q =>
      obtain ⟨C, T, N⟩ := q
      obtain ⟨cC, iS, h⟩ := u_known hts' (xcl_ok ci C T N hq).1 (hts' _ (xin_ok ci C T N hq))
      exact ⟨(cC, iS), fun q h1 => by cases h1; exact h⟩
  obtain ⟨cI, kI, compI, i1, i2, i3⟩ := Cond.arrayClass_spec (hts' _ xai)
  have hcell : va_AO RX0 s := va_AO.of (hts _ xao_Cells)
  have hdeed : va_AO RX2 s := va_AO.of (hts _ xao_Deeds)
  have hpane : va_AO RX7 s := va_AO.of (hts _ xao_Pane)
  have arr : ∀ C, va_AO C s → ∃ cA, ArrOfT s cA (.object C) ∧ va_RA s cA (.object C) := by
    intro C h
    obtain ⟨comp, cA, kA, f1, f2, f3, f4, f5⟩ := Cond.arrayOver_spec h
    exact ⟨cA, fun N z => ⟨(fun k h => by cases h), kA, f3, comp, f4⟩, kA, comp, f3, f4, f1, f5⟩
  obtain ⟨c1, a1, r1⟩ := arr _ hcell
  obtain ⟨c2, a2, r2⟩ := arr _ hdeed
  obtain ⟨c3, a3, r3⟩ := arr _ hpane
  refine ⟨(fun ci => (Classical.choose (h0 ci)).1, fun ci => (Classical.choose (h0 ci)).2), fun k => match k with
    | 0 => cI
    | 1 => c1
    | 2 => c2
    | _ => c3, ⟨fun ci q hq => Classical.choose_spec (h0 ci) q hq, ?_⟩, ⟨hcell, hdeed, hpane⟩, fun w hw => ?_⟩
  · intro k q hk
    match k, hk with
    | 0, hk => cases hk; exact ⟨fun N z => ⟨(fun k h => by cases h), kI, i2, compI, i3⟩, i1⟩
    | 1, hk => cases hk; exact ⟨a1, r1⟩
    | 2, hk => cases hk; exact ⟨a2, r2⟩
    | 3, hk => cases hk; exact ⟨a3, r3⟩
    | _ + 4, hk => cases hk
  · have h4 := hts w (xnw_in w hw)
    refine va_Nw.of ?_ h4
    unfold xnw at hw
    simp only [List.mem_cons, List.not_mem_nil, or_false] at hw
    rcases hw with rfl | rfl | rfl | rfl | rfl | rfl | rfl | rfl | rfl | rfl | rfl
    all_goals rfl
end
section
/-! one call on a fresh object, by bounds of its numbers -/
def xcov (lo : Int32) (t : List (Int32 × Int32)) : List (Int32 × Int32) := match t with
  | [] => [(lo, 2147483647)]
  | q :: t => (lo, q.1) :: xcov q.2 t
def xst (t : List (Int32 × Int32)) : Bool := t.all fun q => decide (q.2.toInt = q.1.toInt + 1)
theorem xcov_ok {t : List (Int32 × Int32)} (ht : xst t = true) : ∀ {lo x : Int32}, lo ≤ x → ∃ q ∈ xcov lo t, q.1 ≤ x ∧ x ≤ q.2 := by
  induction t with
  | nil =>
    intro lo x h
    refine ⟨_, List.mem_singleton.mpr rfl, h, ?_⟩
    have h1 := x.toInt_lt
    rw [Int32.le_iff_toInt_le]
    have h2 : (2147483647 : Int32).toInt = 2147483647 := by decide
    show x.toInt ≤ (2147483647 : Int32).toInt
    rw [h2]
    omega
  | cons q t ih =>
    intro lo x h
    unfold xst at ht
    rw [List.all_cons, Bool.and_eq_true] at ht
    have h0 : q.2.toInt = q.1.toInt + 1 := of_decide_eq_true ht.1
    by_cases hx : x ≤ q.1
    · exact ⟨_, List.mem_cons_self, h, hx⟩
    · have h1 : q.2 ≤ x := by
        rw [Int32.le_iff_toInt_le] at hx ⊢
        omega
      obtain ⟨r, hr, hr2⟩ := ih ht.2 h1
      exact ⟨r, List.mem_cons_of_mem _ hr, hr2⟩
def xcl (j : Nat) (q : Int32 × Int32) : Value := if q.1 = q.2 then .int q.1 else .float (UInt32.ofNat j)
def xiv (q1 q2 q3 q4 q5 : Int32 × Int32) : List (Int32 × Int32) := [(-2147483648, 2147483647), q1, q2, q3, q4, q5]
def xvs (q1 q2 q3 q4 q5 : Int32 × Int32) : List Value := [.float 0, xcl 1 q1, xcl 2 q2, xcl 3 q3, xcl 4 q4, xcl 5 q5]
abbrev xmi : Int32 := -2147483648
noncomputable def xok (a : Int32) (t1 t2 t3 t4 t5 : List (Int32 × Int32)) : Bool := (xst t1 && (xst t2 && (xst t3 && (xst t4 && xst t5)))) && ((xcov xmi t1).all fun q1 => (xcov xmi t2).all fun q2 => (xcov xmi t3).all fun q3 => (xcov xmi t4).all fun q4 => (xcov xmi t5).all fun q5 => xe_law (xiv q1 q2 q3 q4 q5) (some a) (xvs q1 q2 q3 q4 q5))
theorem xok_ok {a : Int32} {t1 t2 t3 t4 t5 : List (Int32 × Int32)} (h : xok a t1 t2 t3 t4 t5 = true) (xs : Nat → Int32) : ∃ q1 q2 q3 q4 q5, xe_law (xiv q1 q2 q3 q4 q5) (some a) (xvs q1 q2 q3 q4 q5) = true ∧ (q1.1 ≤ xs 1 ∧ xs 1 ≤ q1.2) ∧ (q2.1 ≤ xs 2 ∧ xs 2 ≤ q2.2) ∧ (q3.1 ≤ xs 3 ∧ xs 3 ≤ q3.2) ∧ (q4.1 ≤ xs 4 ∧ xs 4 ≤ q4.2) ∧ (q5.1 ≤ xs 5 ∧ xs 5 ≤ q5.2) := by
  unfold xok at h
  simp only [Bool.and_eq_true] at h
  obtain ⟨⟨e1, e2, e3, e4, e5⟩, h⟩ := h
  have hm : ∀ x : Int32, xmi ≤ x := fun x => by
    have h1 := x.le_toInt
    rw [Int32.le_iff_toInt_le]
    have h2 : xmi.toInt = -2147483648 := by decide
    rw [h2]
    omega
  obtain ⟨q1, m1, b1⟩ := xcov_ok e1 (hm (xs 1))
  obtain ⟨q2, m2, b2⟩ := xcov_ok e2 (hm (xs 2))
  obtain ⟨q3, m3, b3⟩ := xcov_ok e3 (hm (xs 3))
  obtain ⟨q4, m4, b4⟩ := xcov_ok e4 (hm (xs 4))
  obtain ⟨q5, m5, b5⟩ := xcov_ok e5 (hm (xs 5))
  have g1 := List.all_eq_true.mp h q1 m1
  have g2 := List.all_eq_true.mp g1 q2 m2
  have g3 := List.all_eq_true.mp g2 q3 m3
  have g4 := List.all_eq_true.mp g3 q4 m4
  have g5 := List.all_eq_true.mp g4 q5 m5
  exact ⟨q1, q2, q3, q4, q5, g5, b1, b2, b3, b4, b5⟩
/-- by the first two numbers' bounds -/
noncomputable def xokR (a : Int32) (q1 q2 : Int32 × Int32) (t3 t4 t5 : List (Int32 × Int32)) : Bool := (xcov xmi t3).all fun q3 => (xcov xmi t4).all fun q4 => (xcov xmi t5).all fun q5 => xe_law (xiv q1 q2 q3 q4 q5) (some a) (xvs q1 q2 q3 q4 q5)
noncomputable def xokS (a : Int32) (q1 : Int32 × Int32) (g : List (Int32 × Int32)) (t3 t4 t5 : List (Int32 × Int32)) : Bool := g.all fun q2 => xokR a q1 q2 t3 t4 t5
theorem xokS_nil {a : Int32} {q1 : Int32 × Int32} {t3 t4 t5 : List (Int32 × Int32)} : xokS a q1 [] t3 t4 t5 = true := rfl
theorem xokS_app {a : Int32} {q1 : Int32 × Int32} {g h : List (Int32 × Int32)} {t3 t4 t5 : List (Int32 × Int32)} (hg : xokS a q1 g t3 t4 t5 = true) (hh : xokS a q1 h t3 t4 t5 = true) : xokS a q1 (g ++ h) t3 t4 t5 = true := by
  unfold xokS at *
  rw [List.all_append, hg, hh]
  rfl
theorem xok_mk {a : Int32} {t1 t2 t3 t4 t5 : List (Int32 × Int32)} (hs : (xst t1 && (xst t2 && (xst t3 && (xst t4 && xst t5)))) = true) (h : ∀ q1 ∈ xcov xmi t1, xokS a q1 (xcov xmi t2) t3 t4 t5 = true) : xok a t1 t2 t3 t4 t5 = true := by
  unfold xok
  rw [hs, Bool.true_and]
  exact List.all_eq_true.mpr h
end
section
set_option maxRecDepth 1000000 in
theorem xl_0 : xe_law [] none [] = true := by decide +kernel
set_option maxRecDepth 1000000 in
theorem xl_1 : xe_law [] none [.float 0] = true := by decide +kernel
set_option maxRecDepth 1000000 in
theorem xl_2 : xe_law [] none [.float 0, .float 1] = true := by decide +kernel
set_option maxRecDepth 1000000 in
theorem xl_3 : xe_law [] none [.float 0, .float 1, .float 2] = true := by decide +kernel
set_option maxRecDepth 1000000 in
theorem xl_4 : xe_law [] none [.float 0, .float 1, .float 2, .float 3] = true := by decide +kernel
set_option maxRecDepth 1000000 in
theorem xl_5 : xe_law [] none [.float 0, .float 1, .float 2, .float 3, .float 4] = true := by decide +kernel
set_option maxRecDepth 1000000 in
theorem xgr_1 : (xok (nI 1) [(-1, 0), (0, 1), (1, 2), (2, 3), (3, 4), (4, 5), (5, 6)] [] [] [] [] && (xok (nI 2) [(-1, 0), (0, 1), (1, 2), (2, 3), (3, 4), (4, 5), (5, 6)] [] [] [] [] && (xok (nI 3) [(-1, 0), (0, 1), (1, 2), (2, 3), (3, 4), (4, 5), (5, 6)] [] [] [] [] && (xok (nI 5) [(-1, 0), (0, 1), (1, 2), (2, 3), (3, 4), (4, 5), (5, 6)] [] [] [] [] && (xok (nI 7) [(-1, 0), (0, 1), (1, 2), (2, 3), (3, 4)] [] [] [] [] && (xok (nI 8) [(-1, 0), (0, 1), (1, 2), (2, 3), (3, 4)] [] [] [] [] && (xok (nI 9) [(-1, 0), (0, 1), (1, 2), (2, 3), (3, 4)] [] [] [] [] && (xok (nI 10) [(-1, 0)] [] [] [] [])))))))) = true := by decide +kernel
theorem xok_1 : xok (nI 1) [(-1, 0), (0, 1), (1, 2), (2, 3), (3, 4), (4, 5), (5, 6)] [] [] [] [] = true := (Bool.and_eq_true_iff.mp (xgr_1)).1
theorem xok_2 : xok (nI 2) [(-1, 0), (0, 1), (1, 2), (2, 3), (3, 4), (4, 5), (5, 6)] [] [] [] [] = true := (Bool.and_eq_true_iff.mp ((Bool.and_eq_true_iff.mp (xgr_1)).2)).1
theorem xok_3 : xok (nI 3) [(-1, 0), (0, 1), (1, 2), (2, 3), (3, 4), (4, 5), (5, 6)] [] [] [] [] = true := (Bool.and_eq_true_iff.mp ((Bool.and_eq_true_iff.mp ((Bool.and_eq_true_iff.mp (xgr_1)).2)).2)).1
theorem xok_5 : xok (nI 5) [(-1, 0), (0, 1), (1, 2), (2, 3), (3, 4), (4, 5), (5, 6)] [] [] [] [] = true := (Bool.and_eq_true_iff.mp ((Bool.and_eq_true_iff.mp ((Bool.and_eq_true_iff.mp ((Bool.and_eq_true_iff.mp (xgr_1)).2)).2)).2)).1
theorem xok_7 : xok (nI 7) [(-1, 0), (0, 1), (1, 2), (2, 3), (3, 4)] [] [] [] [] = true := (Bool.and_eq_true_iff.mp ((Bool.and_eq_true_iff.mp ((Bool.and_eq_true_iff.mp ((Bool.and_eq_true_iff.mp ((Bool.and_eq_true_iff.mp (xgr_1)).2)).2)).2)).2)).1
theorem xok_8 : xok (nI 8) [(-1, 0), (0, 1), (1, 2), (2, 3), (3, 4)] [] [] [] [] = true := (Bool.and_eq_true_iff.mp ((Bool.and_eq_true_iff.mp ((Bool.and_eq_true_iff.mp ((Bool.and_eq_true_iff.mp ((Bool.and_eq_true_iff.mp ((Bool.and_eq_true_iff.mp (xgr_1)).2)).2)).2)).2)).2)).1
theorem xok_9 : xok (nI 9) [(-1, 0), (0, 1), (1, 2), (2, 3), (3, 4)] [] [] [] [] = true := (Bool.and_eq_true_iff.mp ((Bool.and_eq_true_iff.mp ((Bool.and_eq_true_iff.mp ((Bool.and_eq_true_iff.mp ((Bool.and_eq_true_iff.mp ((Bool.and_eq_true_iff.mp ((Bool.and_eq_true_iff.mp (xgr_1)).2)).2)).2)).2)).2)).2)).1
theorem xok_10 : xok (nI 10) [(-1, 0)] [] [] [] [] = true := (Bool.and_eq_true_iff.mp ((Bool.and_eq_true_iff.mp ((Bool.and_eq_true_iff.mp ((Bool.and_eq_true_iff.mp ((Bool.and_eq_true_iff.mp ((Bool.and_eq_true_iff.mp ((Bool.and_eq_true_iff.mp (xgr_1)).2)).2)).2)).2)).2)).2)).2
set_option maxRecDepth 1000000 in
theorem xgr_11 : (xok (nI 11) [(-1, 0)] [] [] [] [] && (xok (nI 12) [(-1, 0), (0, 1), (1, 2), (2, 3), (3, 4), (4, 5), (5, 6)] [] [] [] [] && (xok (nI 13) [(-1, 0)] [] [] [] [] && (xok (nI 14) [(-1, 0)] [] [] [] [] && (xok (nI 15) [(-1, 0)] [] [] [] [] && (xok (nI 16) [] [] [] [] [] && (xok (nI 17) [(-1, 0), (0, 1)] [] [] [] [] && (xok (nI 18) [(-1, 0), (0, 1), (1, 2), (2, 3)] [] [] [] [])))))))) = true := by decide +kernel
theorem xok_11 : xok (nI 11) [(-1, 0)] [] [] [] [] = true := (Bool.and_eq_true_iff.mp (xgr_11)).1
theorem xok_12 : xok (nI 12) [(-1, 0), (0, 1), (1, 2), (2, 3), (3, 4), (4, 5), (5, 6)] [] [] [] [] = true := (Bool.and_eq_true_iff.mp ((Bool.and_eq_true_iff.mp (xgr_11)).2)).1
theorem xok_13 : xok (nI 13) [(-1, 0)] [] [] [] [] = true := (Bool.and_eq_true_iff.mp ((Bool.and_eq_true_iff.mp ((Bool.and_eq_true_iff.mp (xgr_11)).2)).2)).1
theorem xok_14 : xok (nI 14) [(-1, 0)] [] [] [] [] = true := (Bool.and_eq_true_iff.mp ((Bool.and_eq_true_iff.mp ((Bool.and_eq_true_iff.mp ((Bool.and_eq_true_iff.mp (xgr_11)).2)).2)).2)).1
theorem xok_15 : xok (nI 15) [(-1, 0)] [] [] [] [] = true := (Bool.and_eq_true_iff.mp ((Bool.and_eq_true_iff.mp ((Bool.and_eq_true_iff.mp ((Bool.and_eq_true_iff.mp ((Bool.and_eq_true_iff.mp (xgr_11)).2)).2)).2)).2)).1
theorem xok_16 : xok (nI 16) [] [] [] [] [] = true := (Bool.and_eq_true_iff.mp ((Bool.and_eq_true_iff.mp ((Bool.and_eq_true_iff.mp ((Bool.and_eq_true_iff.mp ((Bool.and_eq_true_iff.mp ((Bool.and_eq_true_iff.mp (xgr_11)).2)).2)).2)).2)).2)).1
theorem xok_17 : xok (nI 17) [(-1, 0), (0, 1)] [] [] [] [] = true := (Bool.and_eq_true_iff.mp ((Bool.and_eq_true_iff.mp ((Bool.and_eq_true_iff.mp ((Bool.and_eq_true_iff.mp ((Bool.and_eq_true_iff.mp ((Bool.and_eq_true_iff.mp ((Bool.and_eq_true_iff.mp (xgr_11)).2)).2)).2)).2)).2)).2)).1
theorem xok_18 : xok (nI 18) [(-1, 0), (0, 1), (1, 2), (2, 3)] [] [] [] [] = true := (Bool.and_eq_true_iff.mp ((Bool.and_eq_true_iff.mp ((Bool.and_eq_true_iff.mp ((Bool.and_eq_true_iff.mp ((Bool.and_eq_true_iff.mp ((Bool.and_eq_true_iff.mp ((Bool.and_eq_true_iff.mp (xgr_11)).2)).2)).2)).2)).2)).2)).2
set_option maxRecDepth 1000000 in
theorem xgr_19 : (xok (nI 19) [(-1, 0), (0, 1), (1, 2), (2, 3)] [] [] [] [] && (xok (nI 20) [(-1, 0)] [] [] [] [] && (xok (nI 21) [(-1, 0)] [] [] [] [] && (xok (nI 22) [(-1, 0)] [] [] [] [] && (xok (nI 24) [(-1, 0)] [] [] [] [] && (xok (nI 25) [(-1, 0)] [] [] [] [] && (xok (nI 26) [(-1, 0)] [] [] [] [] && (xok (nI 29) [(-1, 0)] [] [] [] [])))))))) = true := by decide +kernel
theorem xok_19 : xok (nI 19) [(-1, 0), (0, 1), (1, 2), (2, 3)] [] [] [] [] = true := (Bool.and_eq_true_iff.mp (xgr_19)).1
theorem xok_20 : xok (nI 20) [(-1, 0)] [] [] [] [] = true := (Bool.and_eq_true_iff.mp ((Bool.and_eq_true_iff.mp (xgr_19)).2)).1
theorem xok_21 : xok (nI 21) [(-1, 0)] [] [] [] [] = true := (Bool.and_eq_true_iff.mp ((Bool.and_eq_true_iff.mp ((Bool.and_eq_true_iff.mp (xgr_19)).2)).2)).1
theorem xok_22 : xok (nI 22) [(-1, 0)] [] [] [] [] = true := (Bool.and_eq_true_iff.mp ((Bool.and_eq_true_iff.mp ((Bool.and_eq_true_iff.mp ((Bool.and_eq_true_iff.mp (xgr_19)).2)).2)).2)).1
theorem xok_24 : xok (nI 24) [(-1, 0)] [] [] [] [] = true := (Bool.and_eq_true_iff.mp ((Bool.and_eq_true_iff.mp ((Bool.and_eq_true_iff.mp ((Bool.and_eq_true_iff.mp ((Bool.and_eq_true_iff.mp (xgr_19)).2)).2)).2)).2)).1
theorem xok_25 : xok (nI 25) [(-1, 0)] [] [] [] [] = true := (Bool.and_eq_true_iff.mp ((Bool.and_eq_true_iff.mp ((Bool.and_eq_true_iff.mp ((Bool.and_eq_true_iff.mp ((Bool.and_eq_true_iff.mp ((Bool.and_eq_true_iff.mp (xgr_19)).2)).2)).2)).2)).2)).1
theorem xok_26 : xok (nI 26) [(-1, 0)] [] [] [] [] = true := (Bool.and_eq_true_iff.mp ((Bool.and_eq_true_iff.mp ((Bool.and_eq_true_iff.mp ((Bool.and_eq_true_iff.mp ((Bool.and_eq_true_iff.mp ((Bool.and_eq_true_iff.mp ((Bool.and_eq_true_iff.mp (xgr_19)).2)).2)).2)).2)).2)).2)).1
theorem xok_29 : xok (nI 29) [(-1, 0)] [] [] [] [] = true := (Bool.and_eq_true_iff.mp ((Bool.and_eq_true_iff.mp ((Bool.and_eq_true_iff.mp ((Bool.and_eq_true_iff.mp ((Bool.and_eq_true_iff.mp ((Bool.and_eq_true_iff.mp ((Bool.and_eq_true_iff.mp (xgr_19)).2)).2)).2)).2)).2)).2)).2
set_option maxRecDepth 1000000 in
theorem xgr_30 : (xok (nI 30) [(-1, 0)] [] [] [] [] && (xok (nI 31) [(-1, 0)] [] [] [] [])) = true := by decide +kernel
theorem xok_30 : xok (nI 30) [(-1, 0)] [] [] [] [] = true := (Bool.and_eq_true_iff.mp (xgr_30)).1
theorem xok_31 : xok (nI 31) [(-1, 0)] [] [] [] [] = true := (Bool.and_eq_true_iff.mp (xgr_30)).2
end
section
set_option maxRecDepth 1000000 in
theorem xgr_32 : (xok (nI 32) [(-1, 0), (3, 4)] [] [] [] [] && (xok (nI 33) [(0, 1), (3, 4)] [] [] [] [] && (xok (nI 34) [(-1, 0)] [] [] [] [] && (xok (nI 35) [(-1, 0)] [] [] [] [] && (xok (nI 36) [(0, 1), (20, 21)] [(0, 1), (2147483646, 2147483647)] [] [] [] && (xok (nI 37) [] [] [] [] [] && (xok (nI 38) [] [] [] [] [] && (xok (nI 39) [] [] [] [] [])))))))) = true := by decide +kernel
theorem xok_32 : xok (nI 32) [(-1, 0), (3, 4)] [] [] [] [] = true := (Bool.and_eq_true_iff.mp (xgr_32)).1
theorem xok_33 : xok (nI 33) [(0, 1), (3, 4)] [] [] [] [] = true := (Bool.and_eq_true_iff.mp ((Bool.and_eq_true_iff.mp (xgr_32)).2)).1
theorem xok_34 : xok (nI 34) [(-1, 0)] [] [] [] [] = true := (Bool.and_eq_true_iff.mp ((Bool.and_eq_true_iff.mp ((Bool.and_eq_true_iff.mp (xgr_32)).2)).2)).1
theorem xok_35 : xok (nI 35) [(-1, 0)] [] [] [] [] = true := (Bool.and_eq_true_iff.mp ((Bool.and_eq_true_iff.mp ((Bool.and_eq_true_iff.mp ((Bool.and_eq_true_iff.mp (xgr_32)).2)).2)).2)).1
theorem xok_36 : xok (nI 36) [(0, 1), (20, 21)] [(0, 1), (2147483646, 2147483647)] [] [] [] = true := (Bool.and_eq_true_iff.mp ((Bool.and_eq_true_iff.mp ((Bool.and_eq_true_iff.mp ((Bool.and_eq_true_iff.mp ((Bool.and_eq_true_iff.mp (xgr_32)).2)).2)).2)).2)).1
theorem xok_37 : xok (nI 37) [] [] [] [] [] = true := (Bool.and_eq_true_iff.mp ((Bool.and_eq_true_iff.mp ((Bool.and_eq_true_iff.mp ((Bool.and_eq_true_iff.mp ((Bool.and_eq_true_iff.mp ((Bool.and_eq_true_iff.mp (xgr_32)).2)).2)).2)).2)).2)).1
theorem xok_38 : xok (nI 38) [] [] [] [] [] = true := (Bool.and_eq_true_iff.mp ((Bool.and_eq_true_iff.mp ((Bool.and_eq_true_iff.mp ((Bool.and_eq_true_iff.mp ((Bool.and_eq_true_iff.mp ((Bool.and_eq_true_iff.mp ((Bool.and_eq_true_iff.mp (xgr_32)).2)).2)).2)).2)).2)).2)).1
theorem xok_39 : xok (nI 39) [] [] [] [] [] = true := (Bool.and_eq_true_iff.mp ((Bool.and_eq_true_iff.mp ((Bool.and_eq_true_iff.mp ((Bool.and_eq_true_iff.mp ((Bool.and_eq_true_iff.mp ((Bool.and_eq_true_iff.mp ((Bool.and_eq_true_iff.mp (xgr_32)).2)).2)).2)).2)).2)).2)).2
set_option maxRecDepth 1000000 in
theorem xgr_40 : (xok (nI 40) [(-1, 0), (0, 1), (1, 2), (2, 3), (3, 4), (4, 5), (5, 6), (6, 7), (7, 8), (8, 9)] [] [] [] [] && (xok (nI 41) [] [] [] [] [] && (xok (nI 42) [(0, 1), (1, 2), (2, 3), (3, 4), (4, 5), (5, 6)] [] [] [] [] && (xok (nI 43) [] [] [] [] [] && (xok (nI 44) [] [] [] [] [] && (xok (nI 45) [] [] [] [] [] && (xok (nI 46) [] [] [] [] [] && (xok (nI 47) [] [] [] [] [])))))))) = true := by decide +kernel
theorem xok_40 : xok (nI 40) [(-1, 0), (0, 1), (1, 2), (2, 3), (3, 4), (4, 5), (5, 6), (6, 7), (7, 8), (8, 9)] [] [] [] [] = true := (Bool.and_eq_true_iff.mp (xgr_40)).1
theorem xok_41 : xok (nI 41) [] [] [] [] [] = true := (Bool.and_eq_true_iff.mp ((Bool.and_eq_true_iff.mp (xgr_40)).2)).1
theorem xok_42 : xok (nI 42) [(0, 1), (1, 2), (2, 3), (3, 4), (4, 5), (5, 6)] [] [] [] [] = true := (Bool.and_eq_true_iff.mp ((Bool.and_eq_true_iff.mp ((Bool.and_eq_true_iff.mp (xgr_40)).2)).2)).1
theorem xok_43 : xok (nI 43) [] [] [] [] [] = true := (Bool.and_eq_true_iff.mp ((Bool.and_eq_true_iff.mp ((Bool.and_eq_true_iff.mp ((Bool.and_eq_true_iff.mp (xgr_40)).2)).2)).2)).1
theorem xok_44 : xok (nI 44) [] [] [] [] [] = true := (Bool.and_eq_true_iff.mp ((Bool.and_eq_true_iff.mp ((Bool.and_eq_true_iff.mp ((Bool.and_eq_true_iff.mp ((Bool.and_eq_true_iff.mp (xgr_40)).2)).2)).2)).2)).1
theorem xok_45 : xok (nI 45) [] [] [] [] [] = true := (Bool.and_eq_true_iff.mp ((Bool.and_eq_true_iff.mp ((Bool.and_eq_true_iff.mp ((Bool.and_eq_true_iff.mp ((Bool.and_eq_true_iff.mp ((Bool.and_eq_true_iff.mp (xgr_40)).2)).2)).2)).2)).2)).1
theorem xok_46 : xok (nI 46) [] [] [] [] [] = true := (Bool.and_eq_true_iff.mp ((Bool.and_eq_true_iff.mp ((Bool.and_eq_true_iff.mp ((Bool.and_eq_true_iff.mp ((Bool.and_eq_true_iff.mp ((Bool.and_eq_true_iff.mp ((Bool.and_eq_true_iff.mp (xgr_40)).2)).2)).2)).2)).2)).2)).1
theorem xok_47 : xok (nI 47) [] [] [] [] [] = true := (Bool.and_eq_true_iff.mp ((Bool.and_eq_true_iff.mp ((Bool.and_eq_true_iff.mp ((Bool.and_eq_true_iff.mp ((Bool.and_eq_true_iff.mp ((Bool.and_eq_true_iff.mp ((Bool.and_eq_true_iff.mp (xgr_40)).2)).2)).2)).2)).2)).2)).2
set_option maxRecDepth 1000000 in
theorem xgr_48 : (xok (nI 48) [] [] [] [] [] && (xok (nI 49) [] [] [] [] [] && (xok (nI 50) [] [] [] [] [] && (xok (nI 51) [] [] [] [] [] && (xok (nI 52) [] [] [] [] [] && (xok (nI 53) [] [] [] [] [] && (xok (nI 54) [] [] [] [] [] && (xok (nI 55) [] [] [] [] [])))))))) = true := by decide +kernel
theorem xok_48 : xok (nI 48) [] [] [] [] [] = true := (Bool.and_eq_true_iff.mp (xgr_48)).1
theorem xok_49 : xok (nI 49) [] [] [] [] [] = true := (Bool.and_eq_true_iff.mp ((Bool.and_eq_true_iff.mp (xgr_48)).2)).1
theorem xok_50 : xok (nI 50) [] [] [] [] [] = true := (Bool.and_eq_true_iff.mp ((Bool.and_eq_true_iff.mp ((Bool.and_eq_true_iff.mp (xgr_48)).2)).2)).1
theorem xok_51 : xok (nI 51) [] [] [] [] [] = true := (Bool.and_eq_true_iff.mp ((Bool.and_eq_true_iff.mp ((Bool.and_eq_true_iff.mp ((Bool.and_eq_true_iff.mp (xgr_48)).2)).2)).2)).1
theorem xok_52 : xok (nI 52) [] [] [] [] [] = true := (Bool.and_eq_true_iff.mp ((Bool.and_eq_true_iff.mp ((Bool.and_eq_true_iff.mp ((Bool.and_eq_true_iff.mp ((Bool.and_eq_true_iff.mp (xgr_48)).2)).2)).2)).2)).1
theorem xok_53 : xok (nI 53) [] [] [] [] [] = true := (Bool.and_eq_true_iff.mp ((Bool.and_eq_true_iff.mp ((Bool.and_eq_true_iff.mp ((Bool.and_eq_true_iff.mp ((Bool.and_eq_true_iff.mp ((Bool.and_eq_true_iff.mp (xgr_48)).2)).2)).2)).2)).2)).1
theorem xok_54 : xok (nI 54) [] [] [] [] [] = true := (Bool.and_eq_true_iff.mp ((Bool.and_eq_true_iff.mp ((Bool.and_eq_true_iff.mp ((Bool.and_eq_true_iff.mp ((Bool.and_eq_true_iff.mp ((Bool.and_eq_true_iff.mp ((Bool.and_eq_true_iff.mp (xgr_48)).2)).2)).2)).2)).2)).2)).1
theorem xok_55 : xok (nI 55) [] [] [] [] [] = true := (Bool.and_eq_true_iff.mp ((Bool.and_eq_true_iff.mp ((Bool.and_eq_true_iff.mp ((Bool.and_eq_true_iff.mp ((Bool.and_eq_true_iff.mp ((Bool.and_eq_true_iff.mp ((Bool.and_eq_true_iff.mp (xgr_48)).2)).2)).2)).2)).2)).2)).2
set_option maxRecDepth 1000000 in
theorem xgr_56 : (xok (nI 56) [] [] [] [] [] && (xok (nI 57) [] [] [] [] [] && (xok (nI 58) [] [] [] [] [] && (xok (nI 59) [] [] [] [] [] && (xok (nI 60) [] [] [] [] [] && (xok (nI 61) [] [] [] [] [] && (xok (nI 62) [] [] [] [] [] && (xok (nI 63) [] [] [] [] [])))))))) = true := by decide +kernel
theorem xok_56 : xok (nI 56) [] [] [] [] [] = true := (Bool.and_eq_true_iff.mp (xgr_56)).1
theorem xok_57 : xok (nI 57) [] [] [] [] [] = true := (Bool.and_eq_true_iff.mp ((Bool.and_eq_true_iff.mp (xgr_56)).2)).1
theorem xok_58 : xok (nI 58) [] [] [] [] [] = true := (Bool.and_eq_true_iff.mp ((Bool.and_eq_true_iff.mp ((Bool.and_eq_true_iff.mp (xgr_56)).2)).2)).1
theorem xok_59 : xok (nI 59) [] [] [] [] [] = true := (Bool.and_eq_true_iff.mp ((Bool.and_eq_true_iff.mp ((Bool.and_eq_true_iff.mp ((Bool.and_eq_true_iff.mp (xgr_56)).2)).2)).2)).1
theorem xok_60 : xok (nI 60) [] [] [] [] [] = true := (Bool.and_eq_true_iff.mp ((Bool.and_eq_true_iff.mp ((Bool.and_eq_true_iff.mp ((Bool.and_eq_true_iff.mp ((Bool.and_eq_true_iff.mp (xgr_56)).2)).2)).2)).2)).1
theorem xok_61 : xok (nI 61) [] [] [] [] [] = true := (Bool.and_eq_true_iff.mp ((Bool.and_eq_true_iff.mp ((Bool.and_eq_true_iff.mp ((Bool.and_eq_true_iff.mp ((Bool.and_eq_true_iff.mp ((Bool.and_eq_true_iff.mp (xgr_56)).2)).2)).2)).2)).2)).1
theorem xok_62 : xok (nI 62) [] [] [] [] [] = true := (Bool.and_eq_true_iff.mp ((Bool.and_eq_true_iff.mp ((Bool.and_eq_true_iff.mp ((Bool.and_eq_true_iff.mp ((Bool.and_eq_true_iff.mp ((Bool.and_eq_true_iff.mp ((Bool.and_eq_true_iff.mp (xgr_56)).2)).2)).2)).2)).2)).2)).1
theorem xok_63 : xok (nI 63) [] [] [] [] [] = true := (Bool.and_eq_true_iff.mp ((Bool.and_eq_true_iff.mp ((Bool.and_eq_true_iff.mp ((Bool.and_eq_true_iff.mp ((Bool.and_eq_true_iff.mp ((Bool.and_eq_true_iff.mp ((Bool.and_eq_true_iff.mp (xgr_56)).2)).2)).2)).2)).2)).2)).2
end
section
set_option maxRecDepth 1000000 in
theorem xok_4 : xok (nI 4) [(-1, 0), (0, 1), (1, 2), (2, 3), (3, 4), (4, 5), (5, 6)] [] [(-1, 0), (0, 1), (1, 2), (2, 3), (3, 4), (4, 5), (5, 6)] [] [(-1, 0)] = true := by decide +kernel
set_option maxRecDepth 1000000 in
theorem xok_23 : xok (nI 23) [(-1, 0), (0, 1), (1, 2), (2, 3), (3, 4), (4, 5), (5, 6)] [(-1, 0), (0, 1), (1, 2), (2, 3), (3, 4), (4, 5), (5, 6)] [] [] [] = true := by decide +kernel
set_option maxRecDepth 1000000 in
theorem xok_27 : xok (nI 27) [(-1, 0), (0, 1), (1, 2), (2, 3), (3, 4), (4, 5), (5, 6)] [(-1, 0), (0, 1), (1, 2), (2, 3), (3, 4), (4, 5), (5, 6)] [] [] [] = true := by decide +kernel
set_option maxRecDepth 1000000 in
theorem xok_28 : xok (nI 28) [(-1, 0), (0, 1), (1, 2), (2, 3), (3, 4), (4, 5), (5, 6)] [(-1, 0), (0, 1), (1, 2), (2, 3), (3, 4), (4, 5), (5, 6)] [] [] [] = true := by decide +kernel
end
section
set_option maxRecDepth 1000000 in
theorem xr_0_0_0 : xokS (nI 0) (xmi, -1) [(xmi, -1), (0, 0), (1, 1), (2, 2), (3, 3), (4, 4), (5, 5), (6, 6), (7, 7), (8, 8), (9, 9), (10, 10), (11, 11), (12, 12), (13, 13), (14, 14), (15, 15), (16, 16), (17, 17), (18, 18), (19, 19), (20, 20), (21, 21), (22, 22), (23, 23), (24, 24), (25, 25), (26, 26), (27, 27), (28, 28), (29, 29), (30, 30), (31, 31), (32, 32), (33, 33), (34, 34), (35, 35), (36, 36), (37, 37), (38, 38), (39, 39), (40, 40), (41, 2147483647)] [] [] [] = true := by decide +kernel
set_option maxRecDepth 1000000 in
theorem xr_0_1_0 : xokS (nI 0) (0, 0) [(xmi, -1), (0, 0), (1, 1), (2, 2), (3, 3), (4, 4), (5, 5), (6, 6), (7, 7), (8, 8), (9, 9), (10, 10), (11, 11), (12, 12), (13, 13), (14, 14), (15, 15), (16, 16), (17, 17), (18, 18), (19, 19), (20, 20), (21, 21), (22, 22), (23, 23), (24, 24), (25, 25), (26, 26), (27, 27)] [] [] [] = true := by decide +kernel
set_option maxRecDepth 1000000 in
theorem xr_0_1_1 : xokS (nI 0) (0, 0) [(28, 28), (29, 29), (30, 30), (31, 31), (32, 32), (33, 33), (34, 34), (35, 35), (36, 36), (37, 37), (38, 38), (39, 39)] [] [] [] = true := by decide +kernel
set_option maxRecDepth 1000000 in
theorem xr_0_1_2 : xokS (nI 0) (0, 0) [(40, 40), (41, 2147483647)] [] [] [] = true := by decide +kernel
set_option maxRecDepth 1000000 in
theorem xr_0_2_0 : xokS (nI 0) (1, 1) [(xmi, -1), (0, 0), (1, 1), (2, 2), (3, 3), (4, 4), (5, 5), (6, 6), (7, 7), (8, 8), (9, 9), (10, 10), (11, 11), (12, 12), (13, 13), (14, 14), (15, 15), (16, 16), (17, 17), (18, 18), (19, 19), (20, 20), (21, 21), (22, 22), (23, 23), (24, 24), (25, 25), (26, 26), (27, 27)] [] [] [] = true := by decide +kernel
set_option maxRecDepth 1000000 in
theorem xr_0_2_1 : xokS (nI 0) (1, 1) [(28, 28), (29, 29), (30, 30), (31, 31), (32, 32), (33, 33), (34, 34), (35, 35), (36, 36), (37, 37), (38, 38), (39, 39)] [] [] [] = true := by decide +kernel
set_option maxRecDepth 1000000 in
theorem xr_0_2_2 : xokS (nI 0) (1, 1) [(40, 40), (41, 2147483647)] [] [] [] = true := by decide +kernel
set_option maxRecDepth 1000000 in
theorem xr_0_3_0 : xokS (nI 0) (2, 2) [(xmi, -1), (0, 0), (1, 1), (2, 2), (3, 3), (4, 4), (5, 5), (6, 6), (7, 7), (8, 8), (9, 9), (10, 10), (11, 11), (12, 12), (13, 13), (14, 14), (15, 15), (16, 16), (17, 17), (18, 18), (19, 19), (20, 20), (21, 21), (22, 22), (23, 23), (24, 24), (25, 25), (26, 26), (27, 27)] [] [] [] = true := by decide +kernel
set_option maxRecDepth 1000000 in
theorem xr_0_3_1 : xokS (nI 0) (2, 2) [(28, 28), (29, 29), (30, 30), (31, 31), (32, 32), (33, 33), (34, 34), (35, 35), (36, 36), (37, 37), (38, 38), (39, 39)] [] [] [] = true := by decide +kernel
set_option maxRecDepth 1000000 in
theorem xr_0_3_2 : xokS (nI 0) (2, 2) [(40, 40), (41, 2147483647)] [] [] [] = true := by decide +kernel
set_option maxRecDepth 1000000 in
theorem xr_0_4_0 : xokS (nI 0) (3, 3) [(xmi, -1), (0, 0), (1, 1), (2, 2), (3, 3), (4, 4), (5, 5), (6, 6), (7, 7), (8, 8), (9, 9), (10, 10), (11, 11), (12, 12), (13, 13), (14, 14), (15, 15), (16, 16), (17, 17), (18, 18), (19, 19), (20, 20), (21, 21), (22, 22), (23, 23), (24, 24), (25, 25), (26, 26), (27, 27)] [] [] [] = true := by decide +kernel
set_option maxRecDepth 1000000 in
theorem xr_0_4_1 : xokS (nI 0) (3, 3) [(28, 28), (29, 29), (30, 30), (31, 31), (32, 32), (33, 33), (34, 34), (35, 35), (36, 36), (37, 37), (38, 38), (39, 39)] [] [] [] = true := by decide +kernel
set_option maxRecDepth 1000000 in
theorem xr_0_4_2 : xokS (nI 0) (3, 3) [(40, 40), (41, 2147483647)] [] [] [] = true := by decide +kernel
set_option maxRecDepth 1000000 in
theorem xr_0_5_0 : xokS (nI 0) (4, 4) [(xmi, -1), (0, 0), (1, 1), (2, 2), (3, 3), (4, 4), (5, 5), (6, 6), (7, 7), (8, 8), (9, 9), (10, 10), (11, 11), (12, 12), (13, 13), (14, 14), (15, 15), (16, 16), (17, 17), (18, 18), (19, 19), (20, 20), (21, 21), (22, 22), (23, 23), (24, 24), (25, 25), (26, 26), (27, 27)] [] [] [] = true := by decide +kernel
set_option maxRecDepth 1000000 in
theorem xr_0_5_1 : xokS (nI 0) (4, 4) [(28, 28), (29, 29), (30, 30), (31, 31), (32, 32), (33, 33), (34, 34), (35, 35), (36, 36), (37, 37), (38, 38), (39, 39)] [] [] [] = true := by decide +kernel
set_option maxRecDepth 1000000 in
theorem xr_0_5_2 : xokS (nI 0) (4, 4) [(40, 40), (41, 2147483647)] [] [] [] = true := by decide +kernel
set_option maxRecDepth 1000000 in
theorem xr_0_6_0 : xokS (nI 0) (5, 5) [(xmi, -1), (0, 0), (1, 1), (2, 2), (3, 3), (4, 4), (5, 5), (6, 6), (7, 7), (8, 8), (9, 9), (10, 10), (11, 11), (12, 12), (13, 13), (14, 14), (15, 15), (16, 16), (17, 17), (18, 18), (19, 19), (20, 20), (21, 21), (22, 22), (23, 23), (24, 24), (25, 25), (26, 26), (27, 27)] [] [] [] = true := by decide +kernel
set_option maxRecDepth 1000000 in
theorem xr_0_6_1 : xokS (nI 0) (5, 5) [(28, 28), (29, 29), (30, 30), (31, 31), (32, 32), (33, 33), (34, 34), (35, 35), (36, 36), (37, 37), (38, 38), (39, 39)] [] [] [] = true := by decide +kernel
set_option maxRecDepth 1000000 in
theorem xr_0_6_2 : xokS (nI 0) (5, 5) [(40, 40), (41, 2147483647)] [] [] [] = true := by decide +kernel
set_option maxRecDepth 1000000 in
theorem xr_0_7_0 : xokS (nI 0) (6, 2147483647) [(xmi, -1), (0, 0), (1, 1), (2, 2), (3, 3), (4, 4), (5, 5), (6, 6), (7, 7), (8, 8), (9, 9), (10, 10), (11, 11), (12, 12), (13, 13), (14, 14), (15, 15), (16, 16), (17, 17), (18, 18), (19, 19), (20, 20), (21, 21), (22, 22), (23, 23), (24, 24), (25, 25), (26, 26), (27, 27), (28, 28), (29, 29), (30, 30), (31, 31), (32, 32), (33, 33), (34, 34), (35, 35), (36, 36), (37, 37), (38, 38), (39, 39), (40, 40), (41, 2147483647)] [] [] [] = true := by decide +kernel
end
section
set_option maxRecDepth 1000000 in
theorem xr_6_0_0 : xokS (nI 6) (xmi, -1) [(xmi, -1), (0, 0), (1, 1), (2, 2), (3, 3), (4, 4), (5, 5), (6, 6), (7, 7), (8, 8), (9, 9), (10, 10), (11, 11), (12, 12), (13, 13), (14, 14), (15, 15), (16, 16), (17, 17), (18, 18), (19, 19), (20, 20), (21, 21), (22, 22), (23, 23), (24, 24), (25, 25), (26, 26), (27, 27), (28, 28), (29, 29), (30, 30), (31, 31), (32, 32), (33, 33), (34, 34), (35, 35), (36, 36), (37, 37), (38, 38), (39, 39), (40, 40), (41, 41), (42, 42), (43, 43), (44, 44), (45, 45), (46, 46), (47, 47), (48, 48), (49, 49), (50, 50), (51, 51), (52, 52), (53, 53), (54, 54), (55, 55), (56, 56), (57, 57), (58, 58), (59, 59), (60, 60), (61, 2147483647)] [] [] [] = true := by decide +kernel
set_option maxRecDepth 1000000 in
theorem xr_6_1_0 : xokS (nI 6) (0, 0) [(xmi, -1), (0, 0), (1, 1), (2, 2), (3, 3), (4, 4), (5, 5), (6, 6), (7, 7), (8, 8), (9, 9), (10, 10), (11, 11), (12, 12), (13, 13), (14, 14), (15, 15), (16, 16), (17, 17), (18, 18), (19, 19), (20, 20), (21, 21), (22, 22), (23, 23), (24, 24), (25, 25), (26, 26), (27, 27)] [] [] [] = true := by decide +kernel
set_option maxRecDepth 1000000 in
theorem xr_6_1_1 : xokS (nI 6) (0, 0) [(28, 28), (29, 29), (30, 30), (31, 31), (32, 32), (33, 33), (34, 34), (35, 35), (36, 36), (37, 37), (38, 38), (39, 39)] [] [] [] = true := by decide +kernel
set_option maxRecDepth 1000000 in
theorem xr_6_1_2 : xokS (nI 6) (0, 0) [(40, 40), (41, 41), (42, 42), (43, 43), (44, 44), (45, 45), (46, 46), (47, 47), (48, 48)] [] [] [] = true := by decide +kernel
set_option maxRecDepth 1000000 in
theorem xr_6_1_3 : xokS (nI 6) (0, 0) [(49, 49), (50, 50), (51, 51), (52, 52), (53, 53), (54, 54), (55, 55), (56, 56)] [] [] [] = true := by decide +kernel
set_option maxRecDepth 1000000 in
theorem xr_6_1_4 : xokS (nI 6) (0, 0) [(57, 57), (58, 58), (59, 59), (60, 60), (61, 2147483647)] [] [] [] = true := by decide +kernel
set_option maxRecDepth 1000000 in
theorem xr_6_2_0 : xokS (nI 6) (1, 1) [(xmi, -1), (0, 0), (1, 1), (2, 2), (3, 3), (4, 4), (5, 5), (6, 6), (7, 7), (8, 8), (9, 9), (10, 10), (11, 11), (12, 12), (13, 13), (14, 14), (15, 15), (16, 16), (17, 17), (18, 18), (19, 19), (20, 20), (21, 21), (22, 22), (23, 23), (24, 24), (25, 25), (26, 26), (27, 27)] [] [] [] = true := by decide +kernel
set_option maxRecDepth 1000000 in
theorem xr_6_2_1 : xokS (nI 6) (1, 1) [(28, 28), (29, 29), (30, 30), (31, 31), (32, 32), (33, 33), (34, 34), (35, 35), (36, 36), (37, 37), (38, 38), (39, 39)] [] [] [] = true := by decide +kernel
set_option maxRecDepth 1000000 in
theorem xr_6_2_2 : xokS (nI 6) (1, 1) [(40, 40), (41, 41), (42, 42), (43, 43), (44, 44), (45, 45), (46, 46), (47, 47), (48, 48)] [] [] [] = true := by decide +kernel
set_option maxRecDepth 1000000 in
theorem xr_6_2_3 : xokS (nI 6) (1, 1) [(49, 49), (50, 50), (51, 51), (52, 52), (53, 53), (54, 54), (55, 55), (56, 56)] [] [] [] = true := by decide +kernel
set_option maxRecDepth 1000000 in
theorem xr_6_2_4 : xokS (nI 6) (1, 1) [(57, 57), (58, 58), (59, 59), (60, 60), (61, 2147483647)] [] [] [] = true := by decide +kernel
set_option maxRecDepth 1000000 in
theorem xr_6_3_0 : xokS (nI 6) (2, 2) [(xmi, -1), (0, 0), (1, 1), (2, 2), (3, 3), (4, 4), (5, 5), (6, 6), (7, 7), (8, 8), (9, 9), (10, 10), (11, 11), (12, 12), (13, 13), (14, 14), (15, 15), (16, 16), (17, 17), (18, 18), (19, 19), (20, 20), (21, 21), (22, 22), (23, 23), (24, 24), (25, 25), (26, 26), (27, 27)] [] [] [] = true := by decide +kernel
set_option maxRecDepth 1000000 in
theorem xr_6_3_1 : xokS (nI 6) (2, 2) [(28, 28), (29, 29), (30, 30), (31, 31), (32, 32), (33, 33), (34, 34), (35, 35), (36, 36), (37, 37), (38, 38), (39, 39)] [] [] [] = true := by decide +kernel
set_option maxRecDepth 1000000 in
theorem xr_6_3_2 : xokS (nI 6) (2, 2) [(40, 40), (41, 41), (42, 42), (43, 43), (44, 44), (45, 45), (46, 46), (47, 47), (48, 48)] [] [] [] = true := by decide +kernel
set_option maxRecDepth 1000000 in
theorem xr_6_3_3 : xokS (nI 6) (2, 2) [(49, 49), (50, 50), (51, 51), (52, 52), (53, 53), (54, 54), (55, 55), (56, 56)] [] [] [] = true := by decide +kernel
set_option maxRecDepth 1000000 in
theorem xr_6_3_4 : xokS (nI 6) (2, 2) [(57, 57), (58, 58), (59, 59), (60, 60), (61, 2147483647)] [] [] [] = true := by decide +kernel
set_option maxRecDepth 1000000 in
theorem xr_6_4_0 : xokS (nI 6) (3, 3) [(xmi, -1), (0, 0), (1, 1), (2, 2), (3, 3), (4, 4), (5, 5), (6, 6), (7, 7), (8, 8), (9, 9), (10, 10), (11, 11), (12, 12), (13, 13), (14, 14), (15, 15), (16, 16), (17, 17), (18, 18), (19, 19), (20, 20), (21, 21), (22, 22), (23, 23), (24, 24), (25, 25), (26, 26), (27, 27)] [] [] [] = true := by decide +kernel
set_option maxRecDepth 1000000 in
theorem xr_6_4_1 : xokS (nI 6) (3, 3) [(28, 28), (29, 29), (30, 30), (31, 31), (32, 32), (33, 33), (34, 34), (35, 35), (36, 36), (37, 37), (38, 38), (39, 39)] [] [] [] = true := by decide +kernel
set_option maxRecDepth 1000000 in
theorem xr_6_4_2 : xokS (nI 6) (3, 3) [(40, 40), (41, 41), (42, 42), (43, 43), (44, 44), (45, 45), (46, 46), (47, 47), (48, 48)] [] [] [] = true := by decide +kernel
set_option maxRecDepth 1000000 in
theorem xr_6_4_3 : xokS (nI 6) (3, 3) [(49, 49), (50, 50), (51, 51), (52, 52), (53, 53), (54, 54), (55, 55), (56, 56)] [] [] [] = true := by decide +kernel
set_option maxRecDepth 1000000 in
theorem xr_6_4_4 : xokS (nI 6) (3, 3) [(57, 57), (58, 58), (59, 59), (60, 60), (61, 2147483647)] [] [] [] = true := by decide +kernel
set_option maxRecDepth 1000000 in
theorem xr_6_5_0 : xokS (nI 6) (4, 2147483647) [(xmi, -1), (0, 0), (1, 1), (2, 2), (3, 3), (4, 4), (5, 5), (6, 6), (7, 7), (8, 8), (9, 9), (10, 10), (11, 11), (12, 12), (13, 13), (14, 14), (15, 15), (16, 16), (17, 17), (18, 18), (19, 19), (20, 20), (21, 21), (22, 22), (23, 23), (24, 24), (25, 25), (26, 26), (27, 27), (28, 28), (29, 29), (30, 30), (31, 31), (32, 32), (33, 33), (34, 34), (35, 35), (36, 36), (37, 37), (38, 38), (39, 39), (40, 40), (41, 41), (42, 42), (43, 43), (44, 44), (45, 45), (46, 46), (47, 47), (48, 48), (49, 49), (50, 50), (51, 51), (52, 52), (53, 53), (54, 54), (55, 55), (56, 56), (57, 57), (58, 58), (59, 59), (60, 60), (61, 2147483647)] [] [] [] = true := by decide +kernel
end
section
theorem xcv_0_1 : xcov xmi [(-1, 0), (0, 1), (1, 2), (2, 3), (3, 4), (4, 5), (5, 6)] = [(xmi, -1), (0, 0), (1, 1), (2, 2), (3, 3), (4, 4), (5, 5), (6, 2147483647)] := by decide +kernel
theorem xcv_0_2 : xcov xmi [(-1, 0), (0, 1), (1, 2), (2, 3), (3, 4), (4, 5), (5, 6), (6, 7), (7, 8), (8, 9), (9, 10), (10, 11), (11, 12), (12, 13), (13, 14), (14, 15), (15, 16), (16, 17), (17, 18), (18, 19), (19, 20), (20, 21), (21, 22), (22, 23), (23, 24), (24, 25), (25, 26), (26, 27), (27, 28), (28, 29), (29, 30), (30, 31), (31, 32), (32, 33), (33, 34), (34, 35), (35, 36), (36, 37), (37, 38), (38, 39), (39, 40), (40, 41)] = [(xmi, -1), (0, 0), (1, 1), (2, 2), (3, 3), (4, 4), (5, 5), (6, 6), (7, 7), (8, 8), (9, 9), (10, 10), (11, 11), (12, 12), (13, 13), (14, 14), (15, 15), (16, 16), (17, 17), (18, 18), (19, 19), (20, 20), (21, 21), (22, 22), (23, 23), (24, 24), (25, 25), (26, 26), (27, 27), (28, 28), (29, 29), (30, 30), (31, 31), (32, 32), (33, 33), (34, 34), (35, 35), (36, 36), (37, 37), (38, 38), (39, 39), (40, 40), (41, 2147483647)] := by decide +kernel
theorem xcv_0_3 : ([(xmi, -1), (0, 0), (1, 1), (2, 2), (3, 3), (4, 4), (5, 5), (6, 6), (7, 7), (8, 8), (9, 9), (10, 10), (11, 11), (12, 12), (13, 13), (14, 14), (15, 15), (16, 16), (17, 17), (18, 18), (19, 19), (20, 20), (21, 21), (22, 22), (23, 23), (24, 24), (25, 25), (26, 26), (27, 27), (28, 28), (29, 29), (30, 30), (31, 31), (32, 32), (33, 33), (34, 34), (35, 35), (36, 36), (37, 37), (38, 38), (39, 39), (40, 40), (41, 2147483647)] : List (Int32 × Int32)) = [(xmi, -1), (0, 0), (1, 1), (2, 2), (3, 3), (4, 4), (5, 5), (6, 6), (7, 7), (8, 8), (9, 9), (10, 10), (11, 11), (12, 12), (13, 13), (14, 14), (15, 15), (16, 16), (17, 17), (18, 18), (19, 19), (20, 20), (21, 21), (22, 22), (23, 23), (24, 24), (25, 25), (26, 26), (27, 27)] ++ ([(28, 28), (29, 29), (30, 30), (31, 31), (32, 32), (33, 33), (34, 34), (35, 35), (36, 36), (37, 37), (38, 38), (39, 39)] ++ ([(40, 40), (41, 2147483647)])) := by decide +kernel
set_option maxRecDepth 100000 in
theorem xok_0 : xok (nI 0) [(-1, 0), (0, 1), (1, 2), (2, 3), (3, 4), (4, 5), (5, 6)] [(-1, 0), (0, 1), (1, 2), (2, 3), (3, 4), (4, 5), (5, 6), (6, 7), (7, 8), (8, 9), (9, 10), (10, 11), (11, 12), (12, 13), (13, 14), (14, 15), (15, 16), (16, 17), (17, 18), (18, 19), (19, 20), (20, 21), (21, 22), (22, 23), (23, 24), (24, 25), (25, 26), (26, 27), (27, 28), (28, 29), (29, 30), (30, 31), (31, 32), (32, 33), (33, 34), (34, 35), (35, 36), (36, 37), (37, 38), (38, 39), (39, 40), (40, 41)] [] [] [] = true := xok_mk (by decide +kernel) (by
  rw [xcv_0_1]
  try rw [xcv_0_2]
  exact List.forall_mem_cons.mpr ⟨(xr_0_0_0), List.forall_mem_cons.mpr ⟨(xcv_0_3 ▸ (xokS_app xr_0_1_0 (xokS_app xr_0_1_1 (xr_0_1_2)))), List.forall_mem_cons.mpr ⟨(xcv_0_3 ▸ (xokS_app xr_0_2_0 (xokS_app xr_0_2_1 (xr_0_2_2)))), List.forall_mem_cons.mpr ⟨(xcv_0_3 ▸ (xokS_app xr_0_3_0 (xokS_app xr_0_3_1 (xr_0_3_2)))), List.forall_mem_cons.mpr ⟨(xcv_0_3 ▸ (xokS_app xr_0_4_0 (xokS_app xr_0_4_1 (xr_0_4_2)))), List.forall_mem_cons.mpr ⟨(xcv_0_3 ▸ (xokS_app xr_0_5_0 (xokS_app xr_0_5_1 (xr_0_5_2)))), List.forall_mem_cons.mpr ⟨(xcv_0_3 ▸ (xokS_app xr_0_6_0 (xokS_app xr_0_6_1 (xr_0_6_2)))), List.forall_mem_cons.mpr ⟨(xr_0_7_0), fun _ h => absurd h List.not_mem_nil⟩⟩⟩⟩⟩⟩⟩⟩)
theorem xcv_6_1 : xcov xmi [(-1, 0), (0, 1), (1, 2), (2, 3), (3, 4)] = [(xmi, -1), (0, 0), (1, 1), (2, 2), (3, 3), (4, 2147483647)] := by decide +kernel
theorem xcv_6_2 : xcov xmi [(-1, 0), (0, 1), (1, 2), (2, 3), (3, 4), (4, 5), (5, 6), (6, 7), (7, 8), (8, 9), (9, 10), (10, 11), (11, 12), (12, 13), (13, 14), (14, 15), (15, 16), (16, 17), (17, 18), (18, 19), (19, 20), (20, 21), (21, 22), (22, 23), (23, 24), (24, 25), (25, 26), (26, 27), (27, 28), (28, 29), (29, 30), (30, 31), (31, 32), (32, 33), (33, 34), (34, 35), (35, 36), (36, 37), (37, 38), (38, 39), (39, 40), (40, 41), (41, 42), (42, 43), (43, 44), (44, 45), (45, 46), (46, 47), (47, 48), (48, 49), (49, 50), (50, 51), (51, 52), (52, 53), (53, 54), (54, 55), (55, 56), (56, 57), (57, 58), (58, 59), (59, 60), (60, 61)] = [(xmi, -1), (0, 0), (1, 1), (2, 2), (3, 3), (4, 4), (5, 5), (6, 6), (7, 7), (8, 8), (9, 9), (10, 10), (11, 11), (12, 12), (13, 13), (14, 14), (15, 15), (16, 16), (17, 17), (18, 18), (19, 19), (20, 20), (21, 21), (22, 22), (23, 23), (24, 24), (25, 25), (26, 26), (27, 27), (28, 28), (29, 29), (30, 30), (31, 31), (32, 32), (33, 33), (34, 34), (35, 35), (36, 36), (37, 37), (38, 38), (39, 39), (40, 40), (41, 41), (42, 42), (43, 43), (44, 44), (45, 45), (46, 46), (47, 47), (48, 48), (49, 49), (50, 50), (51, 51), (52, 52), (53, 53), (54, 54), (55, 55), (56, 56), (57, 57), (58, 58), (59, 59), (60, 60), (61, 2147483647)] := by decide +kernel
theorem xcv_6_3 : ([(xmi, -1), (0, 0), (1, 1), (2, 2), (3, 3), (4, 4), (5, 5), (6, 6), (7, 7), (8, 8), (9, 9), (10, 10), (11, 11), (12, 12), (13, 13), (14, 14), (15, 15), (16, 16), (17, 17), (18, 18), (19, 19), (20, 20), (21, 21), (22, 22), (23, 23), (24, 24), (25, 25), (26, 26), (27, 27), (28, 28), (29, 29), (30, 30), (31, 31), (32, 32), (33, 33), (34, 34), (35, 35), (36, 36), (37, 37), (38, 38), (39, 39), (40, 40), (41, 41), (42, 42), (43, 43), (44, 44), (45, 45), (46, 46), (47, 47), (48, 48), (49, 49), (50, 50), (51, 51), (52, 52), (53, 53), (54, 54), (55, 55), (56, 56), (57, 57), (58, 58), (59, 59), (60, 60), (61, 2147483647)] : List (Int32 × Int32)) = [(xmi, -1), (0, 0), (1, 1), (2, 2), (3, 3), (4, 4), (5, 5), (6, 6), (7, 7), (8, 8), (9, 9), (10, 10), (11, 11), (12, 12), (13, 13), (14, 14), (15, 15), (16, 16), (17, 17), (18, 18), (19, 19), (20, 20), (21, 21), (22, 22), (23, 23), (24, 24), (25, 25), (26, 26), (27, 27)] ++ ([(28, 28), (29, 29), (30, 30), (31, 31), (32, 32), (33, 33), (34, 34), (35, 35), (36, 36), (37, 37), (38, 38), (39, 39)] ++ ([(40, 40), (41, 41), (42, 42), (43, 43), (44, 44), (45, 45), (46, 46), (47, 47), (48, 48)] ++ ([(49, 49), (50, 50), (51, 51), (52, 52), (53, 53), (54, 54), (55, 55), (56, 56)] ++ ([(57, 57), (58, 58), (59, 59), (60, 60), (61, 2147483647)])))) := by decide +kernel
set_option maxRecDepth 100000 in
theorem xok_6 : xok (nI 6) [(-1, 0), (0, 1), (1, 2), (2, 3), (3, 4)] [(-1, 0), (0, 1), (1, 2), (2, 3), (3, 4), (4, 5), (5, 6), (6, 7), (7, 8), (8, 9), (9, 10), (10, 11), (11, 12), (12, 13), (13, 14), (14, 15), (15, 16), (16, 17), (17, 18), (18, 19), (19, 20), (20, 21), (21, 22), (22, 23), (23, 24), (24, 25), (25, 26), (26, 27), (27, 28), (28, 29), (29, 30), (30, 31), (31, 32), (32, 33), (33, 34), (34, 35), (35, 36), (36, 37), (37, 38), (38, 39), (39, 40), (40, 41), (41, 42), (42, 43), (43, 44), (44, 45), (45, 46), (46, 47), (47, 48), (48, 49), (49, 50), (50, 51), (51, 52), (52, 53), (53, 54), (54, 55), (55, 56), (56, 57), (57, 58), (58, 59), (59, 60), (60, 61)] [] [] [] = true := xok_mk (by decide +kernel) (by
  rw [xcv_6_1]
  try rw [xcv_6_2]
  exact List.forall_mem_cons.mpr ⟨(xr_6_0_0), List.forall_mem_cons.mpr ⟨(xcv_6_3 ▸ (xokS_app xr_6_1_0 (xokS_app xr_6_1_1 (xokS_app xr_6_1_2 (xokS_app xr_6_1_3 (xr_6_1_4)))))), List.forall_mem_cons.mpr ⟨(xcv_6_3 ▸ (xokS_app xr_6_2_0 (xokS_app xr_6_2_1 (xokS_app xr_6_2_2 (xokS_app xr_6_2_3 (xr_6_2_4)))))), List.forall_mem_cons.mpr ⟨(xcv_6_3 ▸ (xokS_app xr_6_3_0 (xokS_app xr_6_3_1 (xokS_app xr_6_3_2 (xokS_app xr_6_3_3 (xr_6_3_4)))))), List.forall_mem_cons.mpr ⟨(xcv_6_3 ▸ (xokS_app xr_6_4_0 (xokS_app xr_6_4_1 (xokS_app xr_6_4_2 (xokS_app xr_6_4_3 (xr_6_4_4)))))), List.forall_mem_cons.mpr ⟨(xr_6_5_0), fun _ h => absurd h List.not_mem_nil⟩⟩⟩⟩⟩⟩)
theorem xok_all : ∀ k : Nat, k < 64 → ∃ t1 t2 t3 t4 t5, xok (nI k) t1 t2 t3 t4 t5 = true
  | 0, _ => ⟨_, _, _, _, _, xok_0⟩
  | 1, _ => ⟨_, _, _, _, _, xok_1⟩
  | 2, _ => ⟨_, _, _, _, _, xok_2⟩
  | 3, _ => ⟨_, _, _, _, _, xok_3⟩
  | 4, _ => ⟨_, _, _, _, _, xok_4⟩
  | 5, _ => ⟨_, _, _, _, _, xok_5⟩
  | 6, _ => ⟨_, _, _, _, _, xok_6⟩
  | 7, _ => ⟨_, _, _, _, _, xok_7⟩
  | 8, _ => ⟨_, _, _, _, _, xok_8⟩
  | 9, _ => ⟨_, _, _, _, _, xok_9⟩
  | 10, _ => ⟨_, _, _, _, _, xok_10⟩
  | 11, _ => ⟨_, _, _, _, _, xok_11⟩
  | 12, _ => ⟨_, _, _, _, _, xok_12⟩
  | 13, _ => ⟨_, _, _, _, _, xok_13⟩
  | 14, _ => ⟨_, _, _, _, _, xok_14⟩
  | 15, _ => ⟨_, _, _, _, _, xok_15⟩
  | 16, _ => ⟨_, _, _, _, _, xok_16⟩
  | 17, _ => ⟨_, _, _, _, _, xok_17⟩
  | 18, _ => ⟨_, _, _, _, _, xok_18⟩
  | 19, _ => ⟨_, _, _, _, _, xok_19⟩
  | 20, _ => ⟨_, _, _, _, _, xok_20⟩
  | 21, _ => ⟨_, _, _, _, _, xok_21⟩
  | 22, _ => ⟨_, _, _, _, _, xok_22⟩
  | 23, _ => ⟨_, _, _, _, _, xok_23⟩
  | 24, _ => ⟨_, _, _, _, _, xok_24⟩
  | 25, _ => ⟨_, _, _, _, _, xok_25⟩
  | 26, _ => ⟨_, _, _, _, _, xok_26⟩
  | 27, _ => ⟨_, _, _, _, _, xok_27⟩
  | 28, _ => ⟨_, _, _, _, _, xok_28⟩
  | 29, _ => ⟨_, _, _, _, _, xok_29⟩
  | 30, _ => ⟨_, _, _, _, _, xok_30⟩
  | 31, _ => ⟨_, _, _, _, _, xok_31⟩
  | 32, _ => ⟨_, _, _, _, _, xok_32⟩
  | 33, _ => ⟨_, _, _, _, _, xok_33⟩
  | 34, _ => ⟨_, _, _, _, _, xok_34⟩
  | 35, _ => ⟨_, _, _, _, _, xok_35⟩
  | 36, _ => ⟨_, _, _, _, _, xok_36⟩
  | 37, _ => ⟨_, _, _, _, _, xok_37⟩
  | 38, _ => ⟨_, _, _, _, _, xok_38⟩
  | 39, _ => ⟨_, _, _, _, _, xok_39⟩
  | 40, _ => ⟨_, _, _, _, _, xok_40⟩
  | 41, _ => ⟨_, _, _, _, _, xok_41⟩
  | 42, _ => ⟨_, _, _, _, _, xok_42⟩
  | 43, _ => ⟨_, _, _, _, _, xok_43⟩
  | 44, _ => ⟨_, _, _, _, _, xok_44⟩
  | 45, _ => ⟨_, _, _, _, _, xok_45⟩
  | 46, _ => ⟨_, _, _, _, _, xok_46⟩
  | 47, _ => ⟨_, _, _, _, _, xok_47⟩
  | 48, _ => ⟨_, _, _, _, _, xok_48⟩
  | 49, _ => ⟨_, _, _, _, _, xok_49⟩
  | 50, _ => ⟨_, _, _, _, _, xok_50⟩
  | 51, _ => ⟨_, _, _, _, _, xok_51⟩
  | 52, _ => ⟨_, _, _, _, _, xok_52⟩
  | 53, _ => ⟨_, _, _, _, _, xok_53⟩
  | 54, _ => ⟨_, _, _, _, _, xok_54⟩
  | 55, _ => ⟨_, _, _, _, _, xok_55⟩
  | 56, _ => ⟨_, _, _, _, _, xok_56⟩
  | 57, _ => ⟨_, _, _, _, _, xok_57⟩
  | 58, _ => ⟨_, _, _, _, _, xok_58⟩
  | 59, _ => ⟨_, _, _, _, _, xok_59⟩
  | 60, _ => ⟨_, _, _, _, _, xok_60⟩
  | 61, _ => ⟨_, _, _, _, _, xok_61⟩
  | 62, _ => ⟨_, _, _, _, _, xok_62⟩
  | 63, _ => ⟨_, _, _, _, _, xok_63⟩
  | _ + 64, h => absurd h (by omega)
end
section
/-! THE CLAIM OUT OF ONE WALK OF THE LAW'S BODY. Your part is whole_start (and what it stands on); all else here is the same for every law, but numbers. -/
def R_law : String := "LimpMirrorLaw"
def lw_P (b : Addr) (xs : List Int32) (args : Array Value) (s : State) : Prop := args = #[.ref b] ∧ s.IntsAt b xs ∧ xs.length ≤ 6 ∧ (Jvm.Cond.and given_1 narrow_1).before args s = true
def lw_Q (_ : Array Value) (s : State) (o : Outcome) (t : State) : Prop := o = .returned (some (.int 1)) ∧ Framed s o t [] 600000 7302250
def lw_Z (below : List Frame) (a : Array Value) (s : State) : State → Prop := fun t => ∃ o, t.status = .running ∧ Ended t below o ∧ lw_Q a s o t
/-- the law's own end, with 1 on the stack, nothing written that was there before, its room as the claim has it -/
theorem lw_ret {p : Program} {l : Launch} {e : Env} {s : State} {m : MethodId} {below : List Frame} {meth : Method} {c : Code} {b : Nat} (hx : p.tables.exec = Jvm.exec) (hb : c.code = code) (hr : meth.sig.returnType = ret) (hlocks : meth.locks = false) {pc : Nat} {H : Heap} {ls : Array Slot} (hdg : decode code pc = .ok (.ireturn, 1)) : W p l e room_1 s m #[Value.ref b] below meth c H [] 600000 7302250 (lw_Z below #[Value.ref b] s) (F0 m pc ls [.int 1]) := by
  intro T hT X
  obtain ⟨fs, hret, hrun, hended, hW, hframe⟩ := X.leave (v := some (.int 1)) (hlocks := hlocks) (fun h => by rw [hr] at h; cases h)
  have hmeth' : T.vm.method? m = some meth := X.method'
  refine ⟨T.setFrames fs, ?_, .returned (some (.int 1)), hrun, hended, rfl, ⟨_, rfl⟩, hW, hframe⟩
  jvm_step X.here [X.here.top, hx, hb, hdg, hmeth', hr, ret, narrow_b1]
  (try refine ⟨rfl, ?_⟩); (try refine ⟨rfl, ?_⟩)
  first | (intro acts; rw [hret _ acts rfl rfl rfl]) | rw [hret _ _ rfl rfl rfl]
  exact Steps.refl _
/-- what holds at the law's entry: the machine, the code, the tables' words (any of lw_tbl by 'hts w (by decide +kernel)'), the script of L ints xs at the cell b, what the Statement gives of the start (any of its parts by flat_of_before) -/
def lw_At (p : Program) (s : State) (m : MethodId) (meth : Method) (c : Code) (b L : Nat) (xs : Nat → Int32) : Prop :=
  p.tables.exec = Jvm.exec ∧ c.code = code ∧ meth.sig.returnType = ret ∧ c.maxLocals = 4 ∧ s.vm.findClass R_law = some m.cls ∧ (∀ w ∈ lw_tbl, w.before #[Value.ref b] s = true) ∧ va_X b L xs s s.heap ∧ b < s.heap.size ∧ meth.locks = false ∧ (Jvm.Cond.and given_1 narrow_1).before #[Value.ref b] s = true
theorem xl_out {iv : List (Int32 × Int32)} {a6 : Option Int32} {vs : List Value} (h : xe_law iv a6 vs = true) : ∃ (MF : xM) (c1 s1 : Nat), xe_run iv a6 (some vs) (xe_ex0 8) (xe_ex iv 8) xt_L 13 4 2 false 4000 0 [(0, .retAddr 0)] [] [] = some (some (.int 1), MF, c1, s1) ∧ c1 ≤ 600000 ∧ s1 ≤ 7302250 := xe_fin_ok _ h
set_option maxHeartbeats 4000000 in
theorem xl_go {p : Program} {e : Env} {s : State} {m : MethodId} {below : List Frame} {meth : Method} {c : Code} (l : Launch) {b L : Nat} {xs : Nat → Int32} (C0 : lw_At p s m meth c b L xs) {iv : List (Int32 × Int32)} {a6 : Option Int32} {vs : List Value} (h : xe_law iv a6 vs = true) (hi : xe_in iv xs) (h6 : ∀ v, a6 = some v → xs 0 &&& 63 = v) (hl0 : vs.length = L) (hv : ∀ j, j < L → xe_iof (xe_cv b s.heap.size xs (vs.getD j .null)) = xs j) :
    W p l e room_1 s m #[Value.ref b] below meth c s.heap [] 0 0 (lw_Z below #[Value.ref b] s) (entryFrame m ([Value.ref b] : List Value).toArray 4) := by
  obtain ⟨hx, hb, hr, hml, hown, hts, hX, hbl, hlocks, hgv⟩ := C0
  obtain ⟨D, aC, hK⟩ := xe_known hts
  have hts' : ∀ w ∈ xWS, w.before #[Value.ref b] s = true := fun w hw => hts w (List.mem_filter.mp hw).1
  obtain ⟨MF, c1, s1, hrun, hc1, hs1⟩ := xl_out h
  have hl := lv_entry ([Value.ref b]) (n := 4) (Nat.le_of_ble_eq_true rfl)
  rw [lg_entry_eq]
  have hsc : ∀ vs', some vs = some vs' → va_X b vs'.length (fun j => xe_iof (xe_cv b s.heap.size xs (vs'.getD j .null))) s s.heap ∧ b < s.heap.size ∧ b < s.heap.size := by
    intro vs' e1
    cases e1
    refine ⟨?_, hbl, hbl⟩
    obtain ⟨scr, x1, x2, x3, x4, x5⟩ := hX
    refine ⟨scr, x1, x2, x3, by rw [hl0]; exact x4, fun j hj => ?_⟩
    rw [hl0] at hj
    have h5 := x5 j hj
    rw [← hv j hj] at h5
    exact h5
  refine xe_run_ok (d := 8) (b := b) (B := s.heap.size) (xs := xs) (D := D) (aC := aC) (oc := 13) (nL := 4) (rt := 2) (cc := code) (rF := some (.int 1)) (MF := MF) (mc := c1) (ms := s1) (R := room_1) hx hb hml hown hts' hK (Nat.le_refl _) (by decide) (by decide) hc1 hs1 hi h6 xt_ok_L (fun z => by cases z) hsc (xe_ex0_len 8) (xe_ex_len 8) (xe_ex0_ok 8) (xe_ex_ok hi 8) ?_ 4000 0 [(0, .retAddr 0)] [] [] c1 s1 hrun s.heap [] 0 0 _ hl va_S.rf (fun k q hk => by simp [xe_ws] at hk) rfl (Nat.zero_add _) (Nat.zero_add _)
  intro i pc ls H locs hret hd hS _
  have hi2 : i = .ireturn := by
    unfold xe_isret at hret
    split at hret
    · rfl
    · rename_i z; cases z; cases hret
    · rename_i z; cases z
    · rename_i z; cases z
    · cases hret
  subst hi2
  exact va_forget (fun q hq => hS.2.2 q hq) (W.widen hc1 hs1 (lw_ret hx hb hr hlocks hd))
theorem xl_v {b B : Nat} {xs : Nat → Int32} (j : Nat) (hj : j < 6) {q : Int32 × Int32} (h1 : q.1 ≤ xs j) (h2 : xs j ≤ q.2) : xe_iof (xe_cv b B xs (xcl j q)) = xs j := by
  unfold xcl
  split
  · rename_i e
    show q.1 = xs j
    rw [Int32.le_iff_toInt_le] at h1 h2
    apply Int32.toInt_inj.mp
    rw [← e] at h2
    omega
  · show xs (UInt32.ofNat j).toNat = xs j
    congr 1
    rw [UInt32.toNat_ofNat']
    omega
set_option maxHeartbeats 4000000 in
/-- from the entry, for every script of at most 6 ints, the law comes to its end with true -/
theorem whole_start {p : Program} {e : Env} {s : State} {m : MethodId} {below : List Frame} {meth : Method} {c : Code} (l : Launch) {b L : Nat} {xs : Nat → Int32} (hL : L ≤ 6) (C0 : lw_At p s m meth c b L xs) : W p l e room_1 s m #[Value.ref b] below meth c s.heap [] 0 0 (lw_Z below #[Value.ref b] s) (entryFrame m ([Value.ref b] : List Value).toArray 4) := by
  have hnil : xe_in [] xs := fun j z hz => by simp at hz
  have hcase : L = 0 ∨ L = 1 ∨ L = 2 ∨ L = 3 ∨ L = 4 ∨ L = 5 ∨ L = 6 := by omega
  rcases hcase with rfl | rfl | rfl | rfl | rfl | rfl | rfl
  · exact xl_go l C0 xl_0 hnil (fun _ z => by cases z) rfl (fun j hj => absurd hj (by omega))
  · exact xl_go l C0 xl_1 hnil (fun _ z => by cases z) rfl (fun j hj => match j, hj with
      | 0, _ => rfl
      | _ + 1, hj => absurd hj (by omega))
  · exact xl_go l C0 xl_2 hnil (fun _ z => by cases z) rfl (fun j hj => match j, hj with
      | 0, _ => rfl
      | 1, _ => rfl
      | _ + 2, hj => absurd hj (by omega))
  · exact xl_go l C0 xl_3 hnil (fun _ z => by cases z) rfl (fun j hj => match j, hj with
      | 0, _ => rfl
      | 1, _ => rfl
      | 2, _ => rfl
      | _ + 3, hj => absurd hj (by omega))
  · exact xl_go l C0 xl_4 hnil (fun _ z => by cases z) rfl (fun j hj => match j, hj with
      | 0, _ => rfl
      | 1, _ => rfl
      | 2, _ => rfl
      | 3, _ => rfl
      | _ + 4, hj => absurd hj (by omega))
  · exact xl_go l C0 xl_5 hnil (fun _ z => by cases z) rfl (fun j hj => match j, hj with
      | 0, _ => rfl
      | 1, _ => rfl
      | 2, _ => rfl
      | 3, _ => rfl
      | 4, _ => rfl
      | _ + 5, hj => absurd hj (by omega))
  · obtain ⟨k, hk, hk2⟩ := pk_andE (xs 0) (m := 63) 6 (by decide)
    obtain ⟨t1, t2, t3, t4, t5, ht⟩ := xok_all k hk
    obtain ⟨q1, q2, q3, q4, q5, hlaw, b1, b2, b3, b4, b5⟩ := xok_ok ht xs
    refine xl_go l C0 hlaw (fun j z hz => ?_) (fun v z => by cases z; exact hk2) rfl (fun j hj => ?_)
    · match j, hz with
      | 0, hz =>
        cases hz
        have h1 := (xs 0).le_toInt
        have h2 := (xs 0).toInt_lt
        have h3 : (-2147483648 : Int32).toInt = -2147483648 := by decide
        have h4 : (2147483647 : Int32).toInt = 2147483647 := by decide
        exact ⟨Int32.le_iff_toInt_le.mpr (by rw [h3]; omega), Int32.le_iff_toInt_le.mpr (by rw [h4]; omega)⟩
      | 1, hz => cases hz; exact b1
      | 2, hz => cases hz; exact b2
      | 3, hz => cases hz; exact b3
      | 4, hz => cases hz; exact b4
      | 5, hz => cases hz; exact b5
      | _ + 6, hz => cases hz
    · match j, hj with
      | 0, _ => rfl
      | 1, _ => exact xl_v 1 (by decide) b1.1 b1.2
      | 2, _ => exact xl_v 2 (by decide) b2.1 b2.2
      | 3, _ => exact xl_v 3 (by decide) b3.1 b3.2
      | 4, _ => exact xl_v 4 (by decide) b4.1 b4.2
      | 5, _ => exact xl_v 5 (by decide) b5.1 b5.2
      | _ + 6, hj => exact absurd hj (by omega)
set_option maxHeartbeats 4000000 in
theorem lw_walk (l : Launch) (b : Addr) (xs : List Int32) : MetFree l x (headSpec (Jvm.Cond.code x code maxLocals ret :: tables_1) room_1) (lw_P b xs) (fun _ _ _ _ _ => True) lw_Q := by
  refine MetFree.of_bodyS (code := code) (maxLocals := maxLocals) (ret := ret) (by decide) ?_ ?_
  · intro args s m h hn
    obtain ⟨meth, c, h1, h2, h3, h4, h5, h6, -, -⟩ := Cond.code_spec hn (atoms_spec (ws := Jvm.Cond.code x code maxLocals ret :: tables_1) h _ List.mem_cons_self)
    exact ⟨meth, c, h1, h2, h3, h4, h5, h6⟩
  · intro p e s m args below meth c s₁ B hml0 hP _
    obtain ⟨rfl, hx, hbd, hgv⟩ := hP
    obtain ⟨scr, harrAt, hlist, hof, hsmall⟩ := hx
    obtain ⟨hcb, hkn, -, -⟩ := State.arrayAt?_spec harrAt
    have hown : s.vm.findClass R_law = some m.cls := findClass_of_methodNamed B.named
    have hts0 : ∀ c ∈ (Jvm.Cond.code x code maxLocals ret :: tables_1), c.before #[Value.ref b] s = true := atoms_spec (ws := Jvm.Cond.code x code maxLocals ret :: tables_1) B.pre
    have hts : ∀ w ∈ lw_tbl, w.before #[Value.ref b] s = true := k2_hts_sels lw_privs (fun w hw => hts0 w (List.mem_cons_of_mem _ hw)) lw_privs_ok
    have hml : c.maxLocals = 4 := B.maxLocals_eq (hts0 _ List.mem_cons_self)
    have X₀ : Stand p l e room_1 s m #[Value.ref b] below meth c s₁ [] 0 0 := Stand.of_body B
    have hh0 : s₁.heap = s.heap := by rw [B.state]; rfl
    have hsz : scr.slots.size = xs.length := by rw [← Array.length_toList, hlist, List.length_map]
    have hval : ∀ j : Nat, j < xs.length → scr.slots[j]? = some (.int (xs.getD j 0)) := fun j hj => by
      rw [← Array.getElem?_toList, hlist]
      simp [hj]
    have hbl : b < s.heap.size := (Array.getElem?_eq_some_iff.mp hcb).1
    have hX : va_X b xs.length (fun j => xs.getD j 0) s s.heap := ⟨scr, hcb, hof, hkn, hsz, hval⟩
    have K : W p l e room_1 s m #[Value.ref b] below meth c s₁.heap [] 0 0 (lw_Z below #[Value.ref b] s) (entryFrame m ([Value.ref b] : List Value).toArray 4) := by
      rw [hh0]
      exact whole_start l hbd ⟨B.exec, B.bytes, B.returns, hml, hown, hts, hX, hbl, B.notSynchronized, hgv⟩
    obtain ⟨t, a1, o, b1, b2, b3⟩ := K s₁ rfl X₀
    exact ⟨t, o, a1, b1, b2, b3⟩
theorem lw_pre_spec {args : Array Value} {s : State} (h : (Jvm.Cond.and given_1 narrow_1).before args s = true) (hr : rest_1_c.before args s = true) : ∃ (b : Addr) (xs : List Int32), lw_P b xs args s := by
  have hs := flat_of_before _ h
  have hq := flat_of_before _ hr
  have hc : (Cond.count 1).before args s = true := hs _ (by decide +kernel)
  have harr : (Cond.arrayOf (.arg 0) .int).before args s = true := hs _ (by decide +kernel)
  have hle : (Cond.le (.length (.arg 0)) (.int 6)).before args s = true := hs _ (by decide +kernel)
  have hlen : (Cond.isInt (.length (.arg 0))).before args s = true := hq _ (by decide +kernel)
  have hall : (Cond.all (.arg 0) (.isInt (.elem (.arg 0) (.index 0)))).before args s = true := hq _ (by decide +kernel)
  obtain ⟨b, xs, hb, hx⟩ := State.ints_of_pre rfl harr hlen hall
  have hsm : xs.length < 2 ^ 31 := hx.choose_spec.2.2.2
  have hev : (Term.length (.arg 0)).eval args s none [] s = some (.int xs.length.toInt32) := hx.length_eval hb
  have hv := Cond.le_ints hev (show (Term.int 6).eval args s none [] s = some (.int 6) from rfl)
  have hd : xs.length.toInt32 ≤ 6 := by
    simpa [Cond.before, Cond.holds, hv] using hle
  have hN : xs.length ≤ 6 := (Int32.ofNat_le_ofNat hsm (by decide)).mp (show Int32.ofNat xs.length ≤ Int32.ofNat 6 from hd)
  exact ⟨b, xs, Cond.one_arg hc (show args[0]? = some (.ref b) from hb), hx, hN, h⟩
theorem lw_comes (l : Launch) : Comes l x (Jvm.Cond.code x code maxLocals ret :: tables_1) room_1 (fun tb e args s => Calls_1 tb e args s ∧ rest_1 tb e args s ∧ Pre_1 tb e args s)
    (fun _ _ args s o t => lw_Q args s o t) := by
  intro p e ha hc hk s m args below hf hfit hheap happ hpre
  obtain ⟨b, xs, hP⟩ := lw_pre_spec hpre.2.2 hpre.2.1
  obtain ⟨k, o, h1, h2, h3, hQ⟩ := lw_walk l b xs p e ha hc hk s m args below hf ((Spec.applies_iff_loose hf).mp happ).1 hP trivial
  exact ⟨k, o, h1, h2, h3, hQ⟩
theorem lw_frame {s t : State} {o : Outcome} {args : Array Value} (h : Framed s o t [] 600000 7302250) :
    Framed s o t (fieldLocs frame_1_writes args s ++ arrayLocs frame_1_arrays args s ++ staticLocs frame_1_statics s) 600000 7302250 := h
theorem lw_limb (L : Cond) (hL : ∀ (args : Array Value) (s t : State), L.after args s (.returned (some (.int 1))) t = true) :
    ArmFor flags0 classFile x code maxLocals ret World_1 tables_1 room_1 Calls_1 rest_1 Pre_1
      (fun tb e a s o t => postC L tb e a s o t ∧ Framed s o t (fieldLocs frame_1_writes a s ++ arrayLocs frame_1_arrays a s ++ staticLocs frame_1_statics s) 600000 7302250) := by
  intro l _ _ _ p e ha hc hk s m args below hf hfit hheap happ hpre
  obtain ⟨k, o, h1, h2, h3, rfl, hF⟩ := lw_comes l p e ha hc hk s m args below hf hfit hheap happ hpre
  exact ⟨k, _, h1, h2, h3, hL args s _, lw_frame hF⟩
theorem i_vc : Claimed_1_1 ∧ Claimed_1_2 := ⟨lw_limb limb_1_1 (fun args s t => by simp [limb_1_1, Cond.after, Cond.holds, Cond.value]), lw_limb limb_1_2 (fun args s t => Cond.after_iff.mpr (by
  first | (rw [show limb_1_2 = Cond.eq .result (.int 1) from rfl, Cond.eq_ints (x := 1) (y := 1) rfl rfl]; simp; done) | (simp [limb_1_2, Cond.value, Term.eval]; done)))⟩
end
