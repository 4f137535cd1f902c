-- ===== PART A: goes FIRST, ahead of the names: the tables' words, and 'selects' of the private methods out of them =====
/-- a private method of a class that the tables say can be made, by its rows of tables_1 -/
def lw_okq (q : MethodName × Nat) : Prop := (q.1.cls ≠ "java/lang/invoke/MethodHandle" ∧ q.1.cls ≠ "java/lang/invoke/VarHandle") ∧ Cond.instantiable q.1.cls q.2 ∈ tables_1 ∧ Cond.privateMethod q.1 ∈ tables_1 ∧ Cond.instanceMethod q.1 ∈ tables_1
theorem lw_p0 : lw_okq (⟨"LimpMirror", "refuse", "(I)I"⟩, 16) := ⟨⟨by decide +kernel, by decide +kernel⟩, List.mem_of_getElem? (i := 18) (by decide +kernel), List.mem_of_getElem? (i := 227) (by decide +kernel), List.mem_of_getElem? (i := 228) (by decide +kernel)⟩
theorem lw_p1 : lw_okq (⟨"LimpMirror$Room", "readItems", "(LLimpMirror$Cells;I)I"⟩, 5) := ⟨⟨by decide +kernel, by decide +kernel⟩, List.mem_of_getElem? (i := 48) (by decide +kernel), List.mem_of_getElem? (i := 326) (by decide +kernel), List.mem_of_getElem? (i := 327) (by decide +kernel)⟩
theorem lw_p2 : lw_okq (⟨"LimpMirror$Room", "readTerm", "(LLimpMirror$Cells;I)I"⟩, 5) := ⟨⟨by decide +kernel, by decide +kernel⟩, List.mem_of_getElem? (i := 48) (by decide +kernel), List.mem_of_getElem? (i := 330) (by decide +kernel), List.mem_of_getElem? (i := 331) (by decide +kernel)⟩
theorem lw_p3 : lw_okq (⟨"LimpMirror$Room", "readGlass", "(LLimpMirror$Cells;I)I"⟩, 5) := ⟨⟨by decide +kernel, by decide +kernel⟩, List.mem_of_getElem? (i := 48) (by decide +kernel), List.mem_of_getElem? (i := 334) (by decide +kernel), List.mem_of_getElem? (i := 335) (by decide +kernel)⟩
theorem lw_p4 : lw_okq (⟨"LimpMirror", "isGlass", "(I)Z"⟩, 16) := ⟨⟨by decide +kernel, by decide +kernel⟩, List.mem_of_getElem? (i := 18) (by decide +kernel), List.mem_of_getElem? (i := 359) (by decide +kernel), List.mem_of_getElem? (i := 360) (by decide +kernel)⟩
theorem lw_p5 : lw_okq (⟨"LimpMirror", "glassFact", "(II)I"⟩, 16) := ⟨⟨by decide +kernel, by decide +kernel⟩, List.mem_of_getElem? (i := 18) (by decide +kernel), List.mem_of_getElem? (i := 363) (by decide +kernel), List.mem_of_getElem? (i := 364) (by decide +kernel)⟩
theorem lw_p6 : lw_okq (⟨"LimpMirror", "paneOf", "(I)LLimpMirror$Pane;"⟩, 16) := ⟨⟨by decide +kernel, by decide +kernel⟩, List.mem_of_getElem? (i := 18) (by decide +kernel), List.mem_of_getElem? (i := 367) (by decide +kernel), List.mem_of_getElem? (i := 368) (by decide +kernel)⟩
theorem lw_p7 : lw_okq (⟨"LimpMirror", "noughtsAtDeeds", "(LLimpMirror$Pane;)I"⟩, 16) := ⟨⟨by decide +kernel, by decide +kernel⟩, List.mem_of_getElem? (i := 18) (by decide +kernel), List.mem_of_getElem? (i := 503) (by decide +kernel), List.mem_of_getElem? (i := 504) (by decide +kernel)⟩
theorem lw_p8 : lw_okq (⟨"LimpMirror", "doStep", "(II)I"⟩, 16) := ⟨⟨by decide +kernel, by decide +kernel⟩, List.mem_of_getElem? (i := 18) (by decide +kernel), List.mem_of_getElem? (i := 541) (by decide +kernel), List.mem_of_getElem? (i := 542) (by decide +kernel)⟩
theorem lw_p9 : lw_okq (⟨"LimpMirror$Deeds", "write", "(III)V"⟩, 2) := ⟨⟨by decide +kernel, by decide +kernel⟩, List.mem_of_getElem? (i := 30) (by decide +kernel), List.mem_of_getElem? (i := 549) (by decide +kernel), List.mem_of_getElem? (i := 550) (by decide +kernel)⟩
theorem lw_p10 : lw_okq (⟨"LimpMirror", "findSets", "(LLimpMirror$Pane;LLimpMirror$Cells;)Z"⟩, 16) := ⟨⟨by decide +kernel, by decide +kernel⟩, List.mem_of_getElem? (i := 18) (by decide +kernel), List.mem_of_getElem? (i := 640) (by decide +kernel), List.mem_of_getElem? (i := 641) (by decide +kernel)⟩
theorem lw_p11 : lw_okq (⟨"LimpMirror", "tell", "(JJ)V"⟩, 16) := ⟨⟨by decide +kernel, by decide +kernel⟩, List.mem_of_getElem? (i := 18) (by decide +kernel), List.mem_of_getElem? (i := 646) (by decide +kernel), List.mem_of_getElem? (i := 647) (by decide +kernel)⟩
theorem lw_p12 : lw_okq (⟨"LimpMirror", "lawsOf", "(LLimpMirror$Cells;LLimpMirror$Cells;)I"⟩, 16) := ⟨⟨by decide +kernel, by decide +kernel⟩, List.mem_of_getElem? (i := 18) (by decide +kernel), List.mem_of_getElem? (i := 668) (by decide +kernel), List.mem_of_getElem? (i := 669) (by decide +kernel)⟩
theorem lw_p13 : lw_okq (⟨"LimpMirror", "firstNotShown", "(LLimpMirror$Pane;LLimpMirror$Cells;LLimpMirror$Cells;)I"⟩, 16) := ⟨⟨by decide +kernel, by decide +kernel⟩, List.mem_of_getElem? (i := 18) (by decide +kernel), List.mem_of_getElem? (i := 672) (by decide +kernel), List.mem_of_getElem? (i := 673) (by decide +kernel)⟩
theorem lw_p14 : lw_okq (⟨"LimpMirror", "mostThatShowOneThing", "(II)I"⟩, 16) := ⟨⟨by decide +kernel, by decide +kernel⟩, List.mem_of_getElem? (i := 18) (by decide +kernel), List.mem_of_getElem? (i := 680) (by decide +kernel), List.mem_of_getElem? (i := 681) (by decide +kernel)⟩
theorem lw_p15 : lw_okq (⟨"LimpMirror$Chains", "weighStep", "(LLimpMirror$Room;LLimpMirror$Pane;III)V"⟩, 5) := ⟨⟨by decide +kernel, by decide +kernel⟩, List.mem_of_getElem? (i := 85) (by decide +kernel), List.mem_of_getElem? (i := 702) (by decide +kernel), List.mem_of_getElem? (i := 703) (by decide +kernel)⟩
def lw_privs_1 : List (MethodName × Nat) := [(⟨"LimpMirror", "refuse", "(I)I"⟩, 16), (⟨"LimpMirror$Room", "readItems", "(LLimpMirror$Cells;I)I"⟩, 5), (⟨"LimpMirror$Room", "readTerm", "(LLimpMirror$Cells;I)I"⟩, 5), (⟨"LimpMirror$Room", "readGlass", "(LLimpMirror$Cells;I)I"⟩, 5), (⟨"LimpMirror", "isGlass", "(I)Z"⟩, 16), (⟨"LimpMirror", "glassFact", "(II)I"⟩, 16), (⟨"LimpMirror", "paneOf", "(I)LLimpMirror$Pane;"⟩, 16), (⟨"LimpMirror", "noughtsAtDeeds", "(LLimpMirror$Pane;)I"⟩, 16), (⟨"LimpMirror", "doStep", "(II)I"⟩, 16), (⟨"LimpMirror$Deeds", "write", "(III)V"⟩, 2), (⟨"LimpMirror", "findSets", "(LLimpMirror$Pane;LLimpMirror$Cells;)Z"⟩, 16), (⟨"LimpMirror", "tell", "(JJ)V"⟩, 16), (⟨"LimpMirror", "lawsOf", "(LLimpMirror$Cells;LLimpMirror$Cells;)I"⟩, 16), (⟨"LimpMirror", "firstNotShown", "(LLimpMirror$Pane;LLimpMirror$Cells;LLimpMirror$Cells;)I"⟩, 16), (⟨"LimpMirror", "mostThatShowOneThing", "(II)I"⟩, 16), (⟨"LimpMirror$Chains", "weighStep", "(LLimpMirror$Room;LLimpMirror$Pane;III)V"⟩, 5)]
theorem lw_r1 : ∀ q ∈ lw_privs_1, lw_okq q := List.forall_mem_cons.mpr ⟨lw_p0, List.forall_mem_cons.mpr ⟨lw_p1, List.forall_mem_cons.mpr ⟨lw_p2, List.forall_mem_cons.mpr ⟨lw_p3, List.forall_mem_cons.mpr ⟨lw_p4, List.forall_mem_cons.mpr ⟨lw_p5, List.forall_mem_cons.mpr ⟨lw_p6, List.forall_mem_cons.mpr ⟨lw_p7, List.forall_mem_cons.mpr ⟨lw_p8, List.forall_mem_cons.mpr ⟨lw_p9, List.forall_mem_cons.mpr ⟨lw_p10, List.forall_mem_cons.mpr ⟨lw_p11, List.forall_mem_cons.mpr ⟨lw_p12, List.forall_mem_cons.mpr ⟨lw_p13, List.forall_mem_cons.mpr ⟨lw_p14, List.forall_mem_cons.mpr ⟨lw_p15, fun _ h => absurd h List.not_mem_nil⟩⟩⟩⟩⟩⟩⟩⟩⟩⟩⟩⟩⟩⟩⟩⟩
theorem lw_p16 : lw_okq (⟨"LimpMirror$Chains", "addChain", "(I)V"⟩, 5) := ⟨⟨by decide +kernel, by decide +kernel⟩, List.mem_of_getElem? (i := 85) (by decide +kernel), List.mem_of_getElem? (i := 714) (by decide +kernel), List.mem_of_getElem? (i := 715) (by decide +kernel)⟩
theorem lw_p17 : lw_okq (⟨"LimpMirror", "leastPick", "(II)I"⟩, 16) := ⟨⟨by decide +kernel, by decide +kernel⟩, List.mem_of_getElem? (i := 18) (by decide +kernel), List.mem_of_getElem? (i := 738) (by decide +kernel), List.mem_of_getElem? (i := 739) (by decide +kernel)⟩
theorem lw_p18 : lw_okq (⟨"LimpMirror", "isSafeBeforeAll", "(I)Z"⟩, 16) := ⟨⟨by decide +kernel, by decide +kernel⟩, List.mem_of_getElem? (i := 18) (by decide +kernel), List.mem_of_getElem? (i := 742) (by decide +kernel), List.mem_of_getElem? (i := 743) (by decide +kernel)⟩
theorem lw_p19 : lw_okq (⟨"LimpMirror", "breakingOfTwelve", "(LLimpMirror$Pane;LLimpMirror$Cells;II)I"⟩, 16) := ⟨⟨by decide +kernel, by decide +kernel⟩, List.mem_of_getElem? (i := 18) (by decide +kernel), List.mem_of_getElem? (i := 754) (by decide +kernel), List.mem_of_getElem? (i := 755) (by decide +kernel)⟩
theorem lw_p20 : lw_okq (⟨"LimpMirror", "glassesOf", "(I)I"⟩, 16) := ⟨⟨by decide +kernel, by decide +kernel⟩, List.mem_of_getElem? (i := 18) (by decide +kernel), List.mem_of_getElem? (i := 787) (by decide +kernel), List.mem_of_getElem? (i := 788) (by decide +kernel)⟩
theorem lw_p21 : lw_okq (⟨"LimpMirror", "keptOnes", "()I"⟩, 16) := ⟨⟨by decide +kernel, by decide +kernel⟩, List.mem_of_getElem? (i := 18) (by decide +kernel), List.mem_of_getElem? (i := 794) (by decide +kernel), List.mem_of_getElem? (i := 795) (by decide +kernel)⟩
theorem lw_p22 : lw_okq (⟨"LimpMirrorModel", "finds", "(I)I"⟩, 32) := ⟨⟨by decide +kernel, by decide +kernel⟩, List.mem_of_getElem? (i := 816) (by decide +kernel), List.mem_of_getElem? (i := 929) (by decide +kernel), List.mem_of_getElem? (i := 930) (by decide +kernel)⟩
theorem lw_p23 : lw_okq (⟨"LimpMirrorModel", "wrongAt", "(II)I"⟩, 32) := ⟨⟨by decide +kernel, by decide +kernel⟩, List.mem_of_getElem? (i := 816) (by decide +kernel), List.mem_of_getElem? (i := 937) (by decide +kernel), List.mem_of_getElem? (i := 938) (by decide +kernel)⟩
theorem lw_p24 : lw_okq (⟨"LimpMirrorModel", "tells", "(I)I"⟩, 32) := ⟨⟨by decide +kernel, by decide +kernel⟩, List.mem_of_getElem? (i := 816) (by decide +kernel), List.mem_of_getElem? (i := 941) (by decide +kernel), List.mem_of_getElem? (i := 942) (by decide +kernel)⟩
theorem lw_p25 : lw_okq (⟨"LimpMirrorModel", "isRoom", "(I)Z"⟩, 32) := ⟨⟨by decide +kernel, by decide +kernel⟩, List.mem_of_getElem? (i := 816) (by decide +kernel), List.mem_of_getElem? (i := 979) (by decide +kernel), List.mem_of_getElem? (i := 980) (by decide +kernel)⟩
theorem lw_p26 : lw_okq (⟨"LimpMirrorModel", "areHabits", "()Z"⟩, 32) := ⟨⟨by decide +kernel, by decide +kernel⟩, List.mem_of_getElem? (i := 816) (by decide +kernel), List.mem_of_getElem? (i := 983) (by decide +kernel), List.mem_of_getElem? (i := 984) (by decide +kernel)⟩
theorem lw_p27 : lw_okq (⟨"LimpMirrorModel", "skip", "()V"⟩, 32) := ⟨⟨by decide +kernel, by decide +kernel⟩, List.mem_of_getElem? (i := 816) (by decide +kernel), List.mem_of_getElem? (i := 987) (by decide +kernel), List.mem_of_getElem? (i := 988) (by decide +kernel)⟩
theorem lw_p28 : lw_okq (⟨"LimpMirrorModel", "letter", "()I"⟩, 32) := ⟨⟨by decide +kernel, by decide +kernel⟩, List.mem_of_getElem? (i := 816) (by decide +kernel), List.mem_of_getElem? (i := 991) (by decide +kernel), List.mem_of_getElem? (i := 992) (by decide +kernel)⟩
theorem lw_p29 : lw_okq (⟨"LimpMirrorModel", "figure", "(I)I"⟩, 32) := ⟨⟨by decide +kernel, by decide +kernel⟩, List.mem_of_getElem? (i := 816) (by decide +kernel), List.mem_of_getElem? (i := 995) (by decide +kernel), List.mem_of_getElem? (i := 996) (by decide +kernel)⟩
theorem lw_p30 : lw_okq (⟨"LimpMirrorModel", "isGlassItem", "()Z"⟩, 32) := ⟨⟨by decide +kernel, by decide +kernel⟩, List.mem_of_getElem? (i := 816) (by decide +kernel), List.mem_of_getElem? (i := 1002) (by decide +kernel), List.mem_of_getElem? (i := 1003) (by decide +kernel)⟩
theorem lw_p31 : lw_okq (⟨"LimpMirrorModel", "isTermItem", "()Z"⟩, 32) := ⟨⟨by decide +kernel, by decide +kernel⟩, List.mem_of_getElem? (i := 816) (by decide +kernel), List.mem_of_getElem? (i := 1006) (by decide +kernel), List.mem_of_getElem? (i := 1007) (by decide +kernel)⟩
def lw_privs_2 : List (MethodName × Nat) := [(⟨"LimpMirror$Chains", "addChain", "(I)V"⟩, 5), (⟨"LimpMirror", "leastPick", "(II)I"⟩, 16), (⟨"LimpMirror", "isSafeBeforeAll", "(I)Z"⟩, 16), (⟨"LimpMirror", "breakingOfTwelve", "(LLimpMirror$Pane;LLimpMirror$Cells;II)I"⟩, 16), (⟨"LimpMirror", "glassesOf", "(I)I"⟩, 16), (⟨"LimpMirror", "keptOnes", "()I"⟩, 16), (⟨"LimpMirrorModel", "finds", "(I)I"⟩, 32), (⟨"LimpMirrorModel", "wrongAt", "(II)I"⟩, 32), (⟨"LimpMirrorModel", "tells", "(I)I"⟩, 32), (⟨"LimpMirrorModel", "isRoom", "(I)Z"⟩, 32), (⟨"LimpMirrorModel", "areHabits", "()Z"⟩, 32), (⟨"LimpMirrorModel", "skip", "()V"⟩, 32), (⟨"LimpMirrorModel", "letter", "()I"⟩, 32), (⟨"LimpMirrorModel", "figure", "(I)I"⟩, 32), (⟨"LimpMirrorModel", "isGlassItem", "()Z"⟩, 32), (⟨"LimpMirrorModel", "isTermItem", "()Z"⟩, 32)]
theorem lw_r2 : ∀ q ∈ lw_privs_2, lw_okq q := List.forall_mem_cons.mpr ⟨lw_p16, List.forall_mem_cons.mpr ⟨lw_p17, List.forall_mem_cons.mpr ⟨lw_p18, List.forall_mem_cons.mpr ⟨lw_p19, List.forall_mem_cons.mpr ⟨lw_p20, List.forall_mem_cons.mpr ⟨lw_p21, List.forall_mem_cons.mpr ⟨lw_p22, List.forall_mem_cons.mpr ⟨lw_p23, List.forall_mem_cons.mpr ⟨lw_p24, List.forall_mem_cons.mpr ⟨lw_p25, List.forall_mem_cons.mpr ⟨lw_p26, List.forall_mem_cons.mpr ⟨lw_p27, List.forall_mem_cons.mpr ⟨lw_p28, List.forall_mem_cons.mpr ⟨lw_p29, List.forall_mem_cons.mpr ⟨lw_p30, List.forall_mem_cons.mpr ⟨lw_p31, fun _ h => absurd h List.not_mem_nil⟩⟩⟩⟩⟩⟩⟩⟩⟩⟩⟩⟩⟩⟩⟩⟩
theorem lw_p32 : lw_okq (⟨"LimpMirrorModel", "isGlass", "(I)Z"⟩, 32) := ⟨⟨by decide +kernel, by decide +kernel⟩, List.mem_of_getElem? (i := 816) (by decide +kernel), List.mem_of_getElem? (i := 1018) (by decide +kernel), List.mem_of_getElem? (i := 1019) (by decide +kernel)⟩
theorem lw_p33 : lw_okq (⟨"LimpMirrorModel", "brokenBy", "(I)I"⟩, 32) := ⟨⟨by decide +kernel, by decide +kernel⟩, List.mem_of_getElem? (i := 816) (by decide +kernel), List.mem_of_getElem? (i := 1022) (by decide +kernel), List.mem_of_getElem? (i := 1023) (by decide +kernel)⟩
theorem lw_p34 : lw_okq (⟨"LimpMirrorModel", "shownOf", "(I)I"⟩, 32) := ⟨⟨by decide +kernel, by decide +kernel⟩, List.mem_of_getElem? (i := 816) (by decide +kernel), List.mem_of_getElem? (i := 1026) (by decide +kernel), List.mem_of_getElem? (i := 1027) (by decide +kernel)⟩
theorem lw_p35 : lw_okq (⟨"LimpMirrorModel", "showsOf", "(I[II)I"⟩, 32) := ⟨⟨by decide +kernel, by decide +kernel⟩, List.mem_of_getElem? (i := 816) (by decide +kernel), List.mem_of_getElem? (i := 1030) (by decide +kernel), List.mem_of_getElem? (i := 1031) (by decide +kernel)⟩
theorem lw_p36 : lw_okq (⟨"LimpMirrorModel", "showsBy", "(II[II)I"⟩, 32) := ⟨⟨by decide +kernel, by decide +kernel⟩, List.mem_of_getElem? (i := 816) (by decide +kernel), List.mem_of_getElem? (i := 1034) (by decide +kernel), List.mem_of_getElem? (i := 1035) (by decide +kernel)⟩
theorem lw_p37 : lw_okq (⟨"LimpMirrorModel", "termBy", "(II)I"⟩, 32) := ⟨⟨by decide +kernel, by decide +kernel⟩, List.mem_of_getElem? (i := 816) (by decide +kernel), List.mem_of_getElem? (i := 1041) (by decide +kernel), List.mem_of_getElem? (i := 1042) (by decide +kernel)⟩
theorem lw_p38 : lw_okq (⟨"LimpMirrorModel", "doStep", "(II)I"⟩, 32) := ⟨⟨by decide +kernel, by decide +kernel⟩, List.mem_of_getElem? (i := 816) (by decide +kernel), List.mem_of_getElem? (i := 1067) (by decide +kernel), List.mem_of_getElem? (i := 1068) (by decide +kernel)⟩
theorem lw_p39 : lw_okq (⟨"LimpMirrorModel", "brokenMany", "()I"⟩, 32) := ⟨⟨by decide +kernel, by decide +kernel⟩, List.mem_of_getElem? (i := 816) (by decide +kernel), List.mem_of_getElem? (i := 1079) (by decide +kernel), List.mem_of_getElem? (i := 1080) (by decide +kernel)⟩
theorem lw_p40 : lw_okq (⟨"LimpMirrorModel", "takeOut", "(II[I)I"⟩, 32) := ⟨⟨by decide +kernel, by decide +kernel⟩, List.mem_of_getElem? (i := 816) (by decide +kernel), List.mem_of_getElem? (i := 1099) (by decide +kernel), List.mem_of_getElem? (i := 1100) (by decide +kernel)⟩
theorem lw_p41 : lw_okq (⟨"LimpMirrorModel", "layRow", "(II[I)I"⟩, 32) := ⟨⟨by decide +kernel, by decide +kernel⟩, List.mem_of_getElem? (i := 816) (by decide +kernel), List.mem_of_getElem? (i := 1103) (by decide +kernel), List.mem_of_getElem? (i := 1104) (by decide +kernel)⟩
theorem lw_p42 : lw_okq (⟨"LimpMirrorModel", "breaksAt", "(II)Z"⟩, 32) := ⟨⟨by decide +kernel, by decide +kernel⟩, List.mem_of_getElem? (i := 816) (by decide +kernel), List.mem_of_getElem? (i := 1111) (by decide +kernel), List.mem_of_getElem? (i := 1112) (by decide +kernel)⟩
theorem lw_p43 : lw_okq (⟨"LimpMirrorModel", "takeTwo", "(II)I"⟩, 32) := ⟨⟨by decide +kernel, by decide +kernel⟩, List.mem_of_getElem? (i := 816) (by decide +kernel), List.mem_of_getElem? (i := 1123) (by decide +kernel), List.mem_of_getElem? (i := 1124) (by decide +kernel)⟩
theorem lw_p44 : lw_okq (⟨"LimpMirrorModel", "layDoings", "(II)V"⟩, 32) := ⟨⟨by decide +kernel, by decide +kernel⟩, List.mem_of_getElem? (i := 816) (by decide +kernel), List.mem_of_getElem? (i := 1134) (by decide +kernel), List.mem_of_getElem? (i := 1135) (by decide +kernel)⟩
theorem lw_p45 : lw_okq (⟨"LimpMirrorModel", "shows", "(II)Z"⟩, 32) := ⟨⟨by decide +kernel, by decide +kernel⟩, List.mem_of_getElem? (i := 816) (by decide +kernel), List.mem_of_getElem? (i := 1138) (by decide +kernel), List.mem_of_getElem? (i := 1139) (by decide +kernel)⟩
theorem lw_p46 : lw_okq (⟨"LimpMirrorModel", "tellParts", "(JJ)V"⟩, 32) := ⟨⟨by decide +kernel, by decide +kernel⟩, List.mem_of_getElem? (i := 816) (by decide +kernel), List.mem_of_getElem? (i := 1142) (by decide +kernel), List.mem_of_getElem? (i := 1143) (by decide +kernel)⟩
theorem lw_p47 : lw_okq (⟨"LimpMirrorModel", "lawsOf", "(I)I"⟩, 32) := ⟨⟨by decide +kernel, by decide +kernel⟩, List.mem_of_getElem? (i := 816) (by decide +kernel), List.mem_of_getElem? (i := 1158) (by decide +kernel), List.mem_of_getElem? (i := 1159) (by decide +kernel)⟩
def lw_privs_3 : List (MethodName × Nat) := [(⟨"LimpMirrorModel", "isGlass", "(I)Z"⟩, 32), (⟨"LimpMirrorModel", "brokenBy", "(I)I"⟩, 32), (⟨"LimpMirrorModel", "shownOf", "(I)I"⟩, 32), (⟨"LimpMirrorModel", "showsOf", "(I[II)I"⟩, 32), (⟨"LimpMirrorModel", "showsBy", "(II[II)I"⟩, 32), (⟨"LimpMirrorModel", "termBy", "(II)I"⟩, 32), (⟨"LimpMirrorModel", "doStep", "(II)I"⟩, 32), (⟨"LimpMirrorModel", "brokenMany", "()I"⟩, 32), (⟨"LimpMirrorModel", "takeOut", "(II[I)I"⟩, 32), (⟨"LimpMirrorModel", "layRow", "(II[I)I"⟩, 32), (⟨"LimpMirrorModel", "breaksAt", "(II)Z"⟩, 32), (⟨"LimpMirrorModel", "takeTwo", "(II)I"⟩, 32), (⟨"LimpMirrorModel", "layDoings", "(II)V"⟩, 32), (⟨"LimpMirrorModel", "shows", "(II)Z"⟩, 32), (⟨"LimpMirrorModel", "tellParts", "(JJ)V"⟩, 32), (⟨"LimpMirrorModel", "lawsOf", "(I)I"⟩, 32)]
theorem lw_r3 : ∀ q ∈ lw_privs_3, lw_okq q := List.forall_mem_cons.mpr ⟨lw_p32, List.forall_mem_cons.mpr ⟨lw_p33, List.forall_mem_cons.mpr ⟨lw_p34, List.forall_mem_cons.mpr ⟨lw_p35, List.forall_mem_cons.mpr ⟨lw_p36, List.forall_mem_cons.mpr ⟨lw_p37, List.forall_mem_cons.mpr ⟨lw_p38, List.forall_mem_cons.mpr ⟨lw_p39, List.forall_mem_cons.mpr ⟨lw_p40, List.forall_mem_cons.mpr ⟨lw_p41, List.forall_mem_cons.mpr ⟨lw_p42, List.forall_mem_cons.mpr ⟨lw_p43, List.forall_mem_cons.mpr ⟨lw_p44, List.forall_mem_cons.mpr ⟨lw_p45, List.forall_mem_cons.mpr ⟨lw_p46, List.forall_mem_cons.mpr ⟨lw_p47, fun _ h => absurd h List.not_mem_nil⟩⟩⟩⟩⟩⟩⟩⟩⟩⟩⟩⟩⟩⟩⟩⟩
theorem lw_p48 : lw_okq (⟨"LimpMirrorModel", "breaksNone", "(II)Z"⟩, 32) := ⟨⟨by decide +kernel, by decide +kernel⟩, List.mem_of_getElem? (i := 816) (by decide +kernel), List.mem_of_getElem? (i := 1180) (by decide +kernel), List.mem_of_getElem? (i := 1181) (by decide +kernel)⟩
theorem lw_p49 : lw_okq (⟨"LimpMirrorModel", "gameBy", "(I)I"⟩, 32) := ⟨⟨by decide +kernel, by decide +kernel⟩, List.mem_of_getElem? (i := 816) (by decide +kernel), List.mem_of_getElem? (i := 1192) (by decide +kernel), List.mem_of_getElem? (i := 1193) (by decide +kernel)⟩
theorem lw_p50 : lw_okq (⟨"LimpMirrorModel", "isSafe", "(I)Z"⟩, 32) := ⟨⟨by decide +kernel, by decide +kernel⟩, List.mem_of_getElem? (i := 816) (by decide +kernel), List.mem_of_getElem? (i := 1196) (by decide +kernel), List.mem_of_getElem? (i := 1197) (by decide +kernel)⟩
theorem lw_p51 : lw_okq (⟨"LimpMirrorModel", "countOf", "(I)I"⟩, 32) := ⟨⟨by decide +kernel, by decide +kernel⟩, List.mem_of_getElem? (i := 816) (by decide +kernel), List.mem_of_getElem? (i := 1238) (by decide +kernel), List.mem_of_getElem? (i := 1239) (by decide +kernel)⟩
theorem lw_p52 : lw_okq (⟨"LimpMirrorModel", "kindsOf", "(I)I"⟩, 32) := ⟨⟨by decide +kernel, by decide +kernel⟩, List.mem_of_getElem? (i := 816) (by decide +kernel), List.mem_of_getElem? (i := 1242) (by decide +kernel), List.mem_of_getElem? (i := 1243) (by decide +kernel)⟩
theorem lw_p53 : lw_okq (⟨"LimpMirrorModel", "add", "(I)V"⟩, 32) := ⟨⟨by decide +kernel, by decide +kernel⟩, List.mem_of_getElem? (i := 816) (by decide +kernel), List.mem_of_getElem? (i := 1262) (by decide +kernel), List.mem_of_getElem? (i := 1263) (by decide +kernel)⟩
def lw_privs_4 : List (MethodName × Nat) := [(⟨"LimpMirrorModel", "breaksNone", "(II)Z"⟩, 32), (⟨"LimpMirrorModel", "gameBy", "(I)I"⟩, 32), (⟨"LimpMirrorModel", "isSafe", "(I)Z"⟩, 32), (⟨"LimpMirrorModel", "countOf", "(I)I"⟩, 32), (⟨"LimpMirrorModel", "kindsOf", "(I)I"⟩, 32), (⟨"LimpMirrorModel", "add", "(I)V"⟩, 32)]
theorem lw_r4 : ∀ q ∈ lw_privs_4, lw_okq q := List.forall_mem_cons.mpr ⟨lw_p48, List.forall_mem_cons.mpr ⟨lw_p49, List.forall_mem_cons.mpr ⟨lw_p50, List.forall_mem_cons.mpr ⟨lw_p51, List.forall_mem_cons.mpr ⟨lw_p52, List.forall_mem_cons.mpr ⟨lw_p53, fun _ h => absurd h List.not_mem_nil⟩⟩⟩⟩⟩⟩
def lw_privs : List (MethodName × Nat) := lw_privs_1 ++ (lw_privs_2 ++ (lw_privs_3 ++ (lw_privs_4)))
def lw_tbl : List Cond := k2_sels lw_privs ++ tables_1
theorem lw_privs_ok : ∀ q ∈ lw_privs, lw_okq q := by
  show ∀ q ∈ lw_privs_1 ++ (lw_privs_2 ++ (lw_privs_3 ++ (lw_privs_4))), lw_okq q
  exact List.forall_mem_append.mpr ⟨lw_r1, List.forall_mem_append.mpr ⟨lw_r2, List.forall_mem_append.mpr ⟨lw_r3, lw_r4⟩⟩⟩
def RX0 : String := "LimpMirror$Cells"
def TX0 : u_T := fun k => match k with
  | 0 => ("LimpMirror$Cells", "cells", "[I", true)
  | _ => ("LimpMirror$Cells", "size", "I", false)
def tyX0 : Nat → FieldType := fun k => match k with
  | 0 => .array .int
  | _ => .int
theorem nmX0 : ∀ a, a < 2 → ∀ b, b < 2 → a ≠ b → (TX0 a).2.1 ≠ (TX0 b).2.1 := by decide +kernel
theorem tyX0_ok : ∀ k, k < 2 → parseFieldDescriptor (TX0 k).2.2.1 = some (tyX0 k) := by decide +kernel
abbrev cX0_init : ByteArray := prog_2_method_1_code
def yX0_init : MethodName := ⟨RX0, "<init>", "(I)V"⟩
abbrev cX0_isMissing : ByteArray := prog_2_method_2_code
def yX0_isMissing : MethodName := ⟨RX0, "isMissing", "()Z"⟩
abbrev cX0_size : ByteArray := prog_2_method_3_code
def yX0_size : MethodName := ⟨RX0, "size", "()I"⟩
abbrev cX0_has : ByteArray := prog_2_method_4_code
def yX0_has : MethodName := ⟨RX0, "has", "(I)Z"⟩
abbrev cX0_hasPlaces : ByteArray := prog_2_method_5_code
def yX0_hasPlaces : MethodName := ⟨RX0, "hasPlaces", "(II)Z"⟩
abbrev cX0_get : ByteArray := prog_2_method_6_code
def yX0_get : MethodName := ⟨RX0, "get", "(I)I"⟩
abbrev cX0_set : ByteArray := prog_2_method_7_code
def yX0_set : MethodName := ⟨RX0, "set", "(II)V"⟩
abbrev cX0_open : ByteArray := prog_2_method_8_code
def yX0_open : MethodName := ⟨RX0, "open", "(II)V"⟩
abbrev cX0_drop : ByteArray := prog_2_method_9_code
def yX0_drop : MethodName := ⟨RX0, "drop", "()V"⟩
abbrev cX0_take : ByteArray := prog_2_method_10_code
def yX0_take : MethodName := ⟨RX0, "take", "(LLimpMirror$Cells;III)V"⟩
abbrev cX0_takeAll : ByteArray := prog_2_method_11_code
def yX0_takeAll : MethodName := ⟨RX0, "takeAll", "(LLimpMirror$Cells;)V"⟩
abbrev cX0_stepAt : ByteArray := prog_2_method_12_code
def yX0_stepAt : MethodName := ⟨RX0, "stepAt", "(I)I"⟩
def RX1 : String := "LimpMirror$Chains"
def TX1 : u_T := fun k => match k with
  | 0 => ("LimpMirror$Chains", "rowsFrom", "[I", true)
  | 1 => ("LimpMirror$Chains", "stillFrom", "[I", true)
  | 2 => ("LimpMirror$Chains", "rows", "I", false)
  | 3 => ("LimpMirror$Chains", "fewest", "I", false)
  | _ => ("LimpMirror$Chains", "firsts", "I", false)
def tyX1 : Nat → FieldType := fun k => match k with
  | 0 => .array .int
  | 1 => .array .int
  | 2 => .int
  | 3 => .int
  | _ => .int
theorem nmX1 : ∀ a, a < 5 → ∀ b, b < 5 → a ≠ b → (TX1 a).2.1 ≠ (TX1 b).2.1 := by decide +kernel
theorem tyX1_ok : ∀ k, k < 5 → parseFieldDescriptor (TX1 k).2.2.1 = some (tyX1 k) := by decide +kernel
abbrev cX1_init : ByteArray := prog_3_method_1_code
def yX1_init : MethodName := ⟨RX1, "<init>", "()V"⟩
abbrev cX1_rows : ByteArray := prog_3_method_2_code
def yX1_rows : MethodName := ⟨RX1, "rows", "()I"⟩
abbrev cX1_fewestStill : ByteArray := prog_3_method_3_code
def yX1_fewestStill : MethodName := ⟨RX1, "fewestStill", "()I"⟩
abbrev cX1_firstSteps : ByteArray := prog_3_method_4_code
def yX1_firstSteps : MethodName := ⟨RX1, "firstSteps", "()I"⟩
abbrev cX1_weigh : ByteArray := prog_3_method_5_code
def yX1_weigh : MethodName := ⟨RX1, "weigh", "(LLimpMirror$Room;LLimpMirror$Pane;I)V"⟩
abbrev cX1_isHead : ByteArray := prog_3_method_6_code
def yX1_isHead : MethodName := ⟨RX1, "isHead", "(LLimpMirror$Pane;I)Z"⟩
abbrev cX1_heirOf : ByteArray := prog_3_method_7_code
def yX1_heirOf : MethodName := ⟨RX1, "heirOf", "(LLimpMirror$Pane;II)I"⟩
abbrev cX1_weighStep : ByteArray := prog_3_method_8_code
def yX1_weighStep : MethodName := ⟨RX1, "weighStep", "(LLimpMirror$Room;LLimpMirror$Pane;III)V"⟩
abbrev cX1_shownAtHead : ByteArray := prog_3_method_9_code
def yX1_shownAtHead : MethodName := ⟨RX1, "shownAtHead", "(LLimpMirror$Room;LLimpMirror$Pane;II)I"⟩
abbrev cX1_addChain : ByteArray := prog_3_method_10_code
def yX1_addChain : MethodName := ⟨RX1, "addChain", "(I)V"⟩
def RX2 : String := "LimpMirror$Deeds"
def TX2 : u_T := fun k => match k with
  | 0 => ("LimpMirror$Deeds", "facts", "[I", true)
  | _ => ("LimpMirror$Deeds", "size", "I", false)
def tyX2 : Nat → FieldType := fun k => match k with
  | 0 => .array .int
  | _ => .int
theorem nmX2 : ∀ a, a < 2 → ∀ b, b < 2 → a ≠ b → (TX2 a).2.1 ≠ (TX2 b).2.1 := by decide +kernel
theorem tyX2_ok : ∀ k, k < 2 → parseFieldDescriptor (TX2 k).2.2.1 = some (tyX2 k) := by decide +kernel
abbrev cX2_init : ByteArray := prog_4_method_1_code
def yX2_init : MethodName := ⟨RX2, "<init>", "()V"⟩
abbrev cX2_size : ByteArray := prog_4_method_2_code
def yX2_size : MethodName := ⟨RX2, "size", "()I"⟩
abbrev cX2_isMissing : ByteArray := prog_4_method_3_code
def yX2_isMissing : MethodName := ⟨RX2, "isMissing", "()Z"⟩
abbrev cX2_drop : ByteArray := prog_4_method_4_code
def yX2_drop : MethodName := ⟨RX2, "drop", "()V"⟩
abbrev cX2_fact : ByteArray := prog_4_method_5_code
def yX2_fact : MethodName := ⟨RX2, "fact", "(II)I"⟩
abbrev cX2_write : ByteArray := prog_4_method_6_code
def yX2_write : MethodName := ⟨RX2, "write", "(III)V"⟩
abbrev cX2_add : ByteArray := prog_4_method_7_code
def yX2_add : MethodName := ⟨RX2, "add", "(II)V"⟩
abbrev cX2_see : ByteArray := prog_4_method_8_code
def yX2_see : MethodName := ⟨RX2, "see", "(III)V"⟩
abbrev cX2_cutTo : ByteArray := prog_4_method_9_code
def yX2_cutTo : MethodName := ⟨RX2, "cutTo", "(I)V"⟩
abbrev cX2_takeAll : ByteArray := prog_4_method_10_code
def yX2_takeAll : MethodName := ⟨RX2, "takeAll", "(LLimpMirror$Deeds;)V"⟩
abbrev cX2_howManyBefore : ByteArray := prog_4_method_11_code
def yX2_howManyBefore : MethodName := ⟨RX2, "howManyBefore", "(I)I"⟩
abbrev cX2_howManyBrokeBefore : ByteArray := prog_4_method_12_code
def yX2_howManyBrokeBefore : MethodName := ⟨RX2, "howManyBrokeBefore", "(I)I"⟩
abbrev cX2_howManyBroke : ByteArray := prog_4_method_13_code
def yX2_howManyBroke : MethodName := ⟨RX2, "howManyBroke", "(I)I"⟩
abbrev cX2_firstThatBroke : ByteArray := prog_4_method_14_code
def yX2_firstThatBroke : MethodName := ⟨RX2, "firstThatBroke", "()I"⟩
abbrev cX2_stepAt : ByteArray := prog_4_method_15_code
def yX2_stepAt : MethodName := ⟨RX2, "stepAt", "(I)I"⟩
def RX3 : String := "LimpMirror$Doings"
def TX3 : u_T := fun k => match k with
  | _ => ("", "", "", false)
def tyX3 : Nat → FieldType := fun k => match k with
  | _ => .int
theorem nmX3 : ∀ a, a < 0 → ∀ b, b < 0 → a ≠ b → (TX3 a).2.1 ≠ (TX3 b).2.1 := by decide +kernel
theorem tyX3_ok : ∀ k, k < 0 → parseFieldDescriptor (TX3 k).2.2.1 = some (tyX3 k) := by decide +kernel
abbrev cX3_init : ByteArray := prog_5_method_1_code
def yX3_init : MethodName := ⟨RX3, "<init>", "()V"⟩
def RX4 : String := "LimpMirror$Friend"
def TX4 : u_T := fun k => match k with
  | 0 => ("LimpMirror$Pane", "kind", "I", true)
  | _ => ("LimpMirror$Pane", "delay", "I", true)
def tyX4 : Nat → FieldType := fun k => match k with
  | 0 => .int
  | _ => .int
theorem nmX4 : ∀ a, a < 2 → ∀ b, b < 2 → a ≠ b → (TX4 a).2.1 ≠ (TX4 b).2.1 := by decide +kernel
theorem tyX4_ok : ∀ k, k < 2 → parseFieldDescriptor (TX4 k).2.2.1 = some (tyX4 k) := by decide +kernel
abbrev cX4_init : ByteArray := prog_6_method_1_code
def yX4_init : MethodName := ⟨RX4, "<init>", "(II)V"⟩
abbrev cX4_source : ByteArray := prog_6_method_2_code
def yX4_source : MethodName := ⟨RX4, "source", "(I)I"⟩
abbrev cX4_thinks : ByteArray := prog_6_method_3_code
def yX4_thinks : MethodName := ⟨RX4, "thinks", "(I)Z"⟩
def RX5 : String := "LimpMirror$Late"
def TX5 : u_T := fun k => match k with
  | 0 => ("LimpMirror$Pane", "kind", "I", true)
  | _ => ("LimpMirror$Pane", "delay", "I", true)
def tyX5 : Nat → FieldType := fun k => match k with
  | 0 => .int
  | _ => .int
theorem nmX5 : ∀ a, a < 2 → ∀ b, b < 2 → a ≠ b → (TX5 a).2.1 ≠ (TX5 b).2.1 := by decide +kernel
theorem tyX5_ok : ∀ k, k < 2 → parseFieldDescriptor (TX5 k).2.2.1 = some (tyX5 k) := by decide +kernel
abbrev cX5_init : ByteArray := prog_7_method_1_code
def yX5_init : MethodName := ⟨RX5, "<init>", "(II)V"⟩
abbrev cX5_source : ByteArray := prog_7_method_2_code
def yX5_source : MethodName := ⟨RX5, "source", "(I)I"⟩
abbrev cX5_isOf : ByteArray := prog_7_method_3_code
def yX5_isOf : MethodName := ⟨RX5, "isOf", "(I)Z"⟩
def RX6 : String := "LimpMirror$Limp"
def TX6 : u_T := fun k => match k with
  | 0 => ("LimpMirror$Pane", "kind", "I", true)
  | _ => ("LimpMirror$Pane", "delay", "I", true)
def tyX6 : Nat → FieldType := fun k => match k with
  | 0 => .int
  | _ => .int
theorem nmX6 : ∀ a, a < 2 → ∀ b, b < 2 → a ≠ b → (TX6 a).2.1 ≠ (TX6 b).2.1 := by decide +kernel
theorem tyX6_ok : ∀ k, k < 2 → parseFieldDescriptor (TX6 k).2.2.1 = some (tyX6 k) := by decide +kernel
abbrev cX6_init : ByteArray := prog_8_method_1_code
def yX6_init : MethodName := ⟨RX6, "<init>", "(II)V"⟩
abbrev cX6_source : ByteArray := prog_8_method_2_code
def yX6_source : MethodName := ⟨RX6, "source", "(I)I"⟩
abbrev cX6_placesToLimp : ByteArray := prog_8_method_3_code
def yX6_placesToLimp : MethodName := ⟨RX6, "placesToLimp", "(I)I"⟩
def RX7 : String := "LimpMirror$Pane"
def TX7 : u_T := fun k => match k with
  | 0 => ("LimpMirror$Pane", "kind", "I", true)
  | _ => ("LimpMirror$Pane", "delay", "I", true)
def tyX7 : Nat → FieldType := fun k => match k with
  | 0 => .int
  | _ => .int
theorem nmX7 : ∀ a, a < 2 → ∀ b, b < 2 → a ≠ b → (TX7 a).2.1 ≠ (TX7 b).2.1 := by decide +kernel
theorem tyX7_ok : ∀ k, k < 2 → parseFieldDescriptor (TX7 k).2.2.1 = some (tyX7 k) := by decide +kernel
abbrev cX7_init : ByteArray := prog_9_method_1_code
def yX7_init : MethodName := ⟨RX7, "<init>", "(II)V"⟩
abbrev cX7_kind : ByteArray := prog_9_method_2_code
def yX7_kind : MethodName := ⟨RX7, "kind", "()I"⟩
abbrev cX7_delay : ByteArray := prog_9_method_3_code
def yX7_delay : MethodName := ⟨RX7, "delay", "()I"⟩
abbrev cX7_isOf : ByteArray := prog_9_method_4_code
def yX7_isOf : MethodName := ⟨RX7, "isOf", "(I)Z"⟩
abbrev cX7_source : ByteArray := prog_9_method_5_code
def yX7_source : MethodName := ⟨RX7, "source", "(I)I"⟩
abbrev cX7_thinks : ByteArray := prog_9_method_6_code
def yX7_thinks : MethodName := ⟨RX7, "thinks", "(I)Z"⟩
abbrev cX7_isOdd : ByteArray := prog_9_method_7_code
def yX7_isOdd : MethodName := ⟨RX7, "isOdd", "(I)Z"⟩
def RX8 : String := "LimpMirror$Room"
def TX8 : u_T := fun k => match k with
  | 0 => ("LimpMirror$Room", "habits", "[I", true)
  | 1 => ("LimpMirror$Room", "glassLaws", "[I", true)
  | 2 => ("LimpMirror$Room", "glasses", "I", false)
  | 3 => ("LimpMirror$Room", "termSteps", "[I", true)
  | _ => ("LimpMirror$Room", "terms", "I", false)
def tyX8 : Nat → FieldType := fun k => match k with
  | 0 => .array .int
  | 1 => .array .int
  | 2 => .int
  | 3 => .array .int
  | _ => .int
theorem nmX8 : ∀ a, a < 5 → ∀ b, b < 5 → a ≠ b → (TX8 a).2.1 ≠ (TX8 b).2.1 := by decide +kernel
theorem tyX8_ok : ∀ k, k < 5 → parseFieldDescriptor (TX8 k).2.2.1 = some (tyX8 k) := by decide +kernel
abbrev cX8_init : ByteArray := prog_10_method_1_code
def yX8_init : MethodName := ⟨RX8, "<init>", "()V"⟩
abbrev cX8_glasses : ByteArray := prog_10_method_2_code
def yX8_glasses : MethodName := ⟨RX8, "glasses", "()I"⟩
abbrev cX8_terms : ByteArray := prog_10_method_3_code
def yX8_terms : MethodName := ⟨RX8, "terms", "()I"⟩
abbrev cX8_lawOf : ByteArray := prog_10_method_4_code
def yX8_lawOf : MethodName := ⟨RX8, "lawOf", "(I)I"⟩
abbrev cX8_termStep : ByteArray := prog_10_method_5_code
def yX8_termStep : MethodName := ⟨RX8, "termStep", "(II)I"⟩
abbrev cX8_thought : ByteArray := prog_10_method_6_code
def yX8_thought : MethodName := ⟨RX8, "thought", "(I)I"⟩
abbrev cX8_seen : ByteArray := prog_10_method_7_code
def yX8_seen : MethodName := ⟨RX8, "seen", "(LLimpMirror$Pane;II)I"⟩
abbrev cX8_shown : ByteArray := prog_10_method_8_code
def yX8_shown : MethodName := ⟨RX8, "shown", "(LLimpMirror$Pane;LLimpMirror$Doings;I)I"⟩
abbrev cX8_stepsSeenAs : ByteArray := prog_10_method_9_code
def yX8_stepsSeenAs : MethodName := ⟨RX8, "stepsSeenAs", "(LLimpMirror$Pane;II)I"⟩
abbrev cX8_firstBroken : ByteArray := prog_10_method_10_code
def yX8_firstBroken : MethodName := ⟨RX8, "firstBroken", "(II)I"⟩
abbrev cX8_isBroken : ByteArray := prog_10_method_11_code
def yX8_isBroken : MethodName := ⟨RX8, "isBroken", "(II)Z"⟩
abbrev cX8_read : ByteArray := prog_10_method_12_code
def yX8_read : MethodName := ⟨RX8, "read", "(LLimpMirror$Cells;)I"⟩
abbrev cX8_readItems : ByteArray := prog_10_method_13_code
def yX8_readItems : MethodName := ⟨RX8, "readItems", "(LLimpMirror$Cells;I)I"⟩
abbrev cX8_readGlass : ByteArray := prog_10_method_14_code
def yX8_readGlass : MethodName := ⟨RX8, "readGlass", "(LLimpMirror$Cells;I)I"⟩
abbrev cX8_readTerm : ByteArray := prog_10_method_15_code
def yX8_readTerm : MethodName := ⟨RX8, "readTerm", "(LLimpMirror$Cells;I)I"⟩
abbrev cX8_kindOf : ByteArray := prog_10_method_16_code
def yX8_kindOf : MethodName := ⟨RX8, "kindOf", "(I)I"⟩
abbrev cX8_afterBlanks : ByteArray := prog_10_method_17_code
def yX8_afterBlanks : MethodName := ⟨RX8, "afterBlanks", "(LLimpMirror$Cells;I)I"⟩
abbrev cX8_isFigure : ByteArray := prog_10_method_18_code
def yX8_isFigure : MethodName := ⟨RX8, "isFigure", "(LLimpMirror$Cells;II)Z"⟩
def RX9 : String := "LimpMirror$Thin"
def TX9 : u_T := fun k => match k with
  | 0 => ("LimpMirror$Pane", "kind", "I", true)
  | _ => ("LimpMirror$Pane", "delay", "I", true)
def tyX9 : Nat → FieldType := fun k => match k with
  | 0 => .int
  | _ => .int
theorem nmX9 : ∀ a, a < 2 → ∀ b, b < 2 → a ≠ b → (TX9 a).2.1 ≠ (TX9 b).2.1 := by decide +kernel
theorem tyX9_ok : ∀ k, k < 2 → parseFieldDescriptor (TX9 k).2.2.1 = some (tyX9 k) := by decide +kernel
abbrev cX9_init : ByteArray := prog_11_method_1_code
def yX9_init : MethodName := ⟨RX9, "<init>", "(II)V"⟩
abbrev cX9_source : ByteArray := prog_11_method_2_code
def yX9_source : MethodName := ⟨RX9, "source", "(I)I"⟩
abbrev cX9_isOf : ByteArray := prog_11_method_3_code
def yX9_isOf : MethodName := ⟨RX9, "isOf", "(I)Z"⟩
def RX10 : String := "LimpMirror$Thought"
def TX10 : u_T := fun k => match k with
  | 0 => ("LimpMirror$Pane", "kind", "I", true)
  | _ => ("LimpMirror$Pane", "delay", "I", true)
def tyX10 : Nat → FieldType := fun k => match k with
  | 0 => .int
  | _ => .int
theorem nmX10 : ∀ a, a < 2 → ∀ b, b < 2 → a ≠ b → (TX10 a).2.1 ≠ (TX10 b).2.1 := by decide +kernel
theorem tyX10_ok : ∀ k, k < 2 → parseFieldDescriptor (TX10 k).2.2.1 = some (tyX10 k) := by decide +kernel
abbrev cX10_init : ByteArray := prog_12_method_1_code
def yX10_init : MethodName := ⟨RX10, "<init>", "(II)V"⟩
abbrev cX10_thinks : ByteArray := prog_12_method_2_code
def yX10_thinks : MethodName := ⟨RX10, "thinks", "(I)Z"⟩
def RX11 : String := "LimpMirror"
def TX11 : u_T := fun k => match k with
  | 0 => ("LimpMirror", "rows", "[LLimpMirror$Cells;", true)
  | 1 => ("LimpMirror", "texts", "[LLimpMirror$Cells;", true)
  | 2 => ("LimpMirror", "panes", "[LLimpMirror$Pane;", true)
  | 3 => ("LimpMirror", "deeds", "LLimpMirror$Deeds;", true)
  | 4 => ("LimpMirror", "kept", "[LLimpMirror$Deeds;", true)
  | 5 => ("LimpMirror", "room", "LLimpMirror$Room;", false)
  | 6 => ("LimpMirror", "draft", "LLimpMirror$Room;", false)
  | 7 => ("LimpMirror", "trial", "LLimpMirror$Cells;", true)
  | 8 => ("LimpMirror", "sets", "[I", true)
  | 9 => ("LimpMirror", "tally", "[I", true)
  | 10 => ("LimpMirror", "chains", "LLimpMirror$Chains;", true)
  | 11 => ("LimpMirror", "told", "I", false)
  | 12 => ("LimpMirror", "over", "J", false)
  | 13 => ("LimpMirror", "under", "J", false)
  | 14 => ("LimpMirror", "latestFinding", "I", false)
  | _ => ("LimpMirror", "findingCounts", "[I", true)
def tyX11 : Nat → FieldType := fun k => match k with
  | 0 => .array (.object "LimpMirror$Cells")
  | 1 => .array (.object "LimpMirror$Cells")
  | 2 => .array (.object "LimpMirror$Pane")
  | 3 => .object "LimpMirror$Deeds"
  | 4 => .array (.object "LimpMirror$Deeds")
  | 5 => .object "LimpMirror$Room"
  | 6 => .object "LimpMirror$Room"
  | 7 => .object "LimpMirror$Cells"
  | 8 => .array .int
  | 9 => .array .int
  | 10 => .object "LimpMirror$Chains"
  | 11 => .int
  | 12 => .long
  | 13 => .long
  | 14 => .int
  | _ => .array .int
theorem nmX11 : ∀ a, a < 16 → ∀ b, b < 16 → a ≠ b → (TX11 a).2.1 ≠ (TX11 b).2.1 := by decide +kernel
theorem tyX11_ok : ∀ k, k < 16 → parseFieldDescriptor (TX11 k).2.2.1 = some (tyX11 k) := by decide +kernel
abbrev cX11_init : ByteArray := prog_1_method_1_code
def yX11_init : MethodName := ⟨RX11, "<init>", "()V"⟩
abbrev cX11_row : ByteArray := prog_1_method_2_code
def yX11_row : MethodName := ⟨RX11, "row", "(II)I"⟩
abbrev cX11_lay : ByteArray := prog_1_method_3_code
def yX11_lay : MethodName := ⟨RX11, "lay", "(III)I"⟩
abbrev cX11_at : ByteArray := prog_1_method_4_code
def yX11_at : MethodName := ⟨RX11, "at", "(II)I"⟩
abbrev cX11_tear : ByteArray := prog_1_method_5_code
def yX11_tear : MethodName := ⟨RX11, "tear", "(I)I"⟩
abbrev cX11_copy : ByteArray := prog_1_method_6_code
def yX11_copy : MethodName := ⟨RX11, "copy", "(IIIII)I"⟩
abbrev cX11_mean : ByteArray := prog_1_method_7_code
def yX11_mean : MethodName := ⟨RX11, "mean", "(I)I"⟩
abbrev cX11_text : ByteArray := prog_1_method_8_code
def yX11_text : MethodName := ⟨RX11, "text", "(II)I"⟩
abbrev cX11_put : ByteArray := prog_1_method_9_code
def yX11_put : MethodName := ⟨RX11, "put", "(III)I"⟩
abbrev cX11_fault : ByteArray := prog_1_method_10_code
def yX11_fault : MethodName := ⟨RX11, "fault", "(I)I"⟩
abbrev cX11_room : ByteArray := prog_1_method_11_code
def yX11_room : MethodName := ⟨RX11, "room", "(I)I"⟩
abbrev cX11_glass : ByteArray := prog_1_method_12_code
def yX11_glass : MethodName := ⟨RX11, "glass", "(II)I"⟩
abbrev cX11_mark : ByteArray := prog_1_method_13_code
def yX11_mark : MethodName := ⟨RX11, "mark", "(II)I"⟩
abbrev cX11_habit : ByteArray := prog_1_method_14_code
def yX11_habit : MethodName := ⟨RX11, "habit", "(I)I"⟩
abbrev cX11_term : ByteArray := prog_1_method_15_code
def yX11_term : MethodName := ⟨RX11, "term", "(II)I"⟩
abbrev cX11_step : ByteArray := prog_1_method_16_code
def yX11_step : MethodName := ⟨RX11, "step", "(II)I"⟩
abbrev cX11_deed : ByteArray := prog_1_method_17_code
def yX11_deed : MethodName := ⟨RX11, "deed", "(II)I"⟩
abbrev cX11_broken : ByteArray := prog_1_method_18_code
def yX11_broken : MethodName := ⟨RX11, "broken", "()I"⟩
abbrev cX11_undo : ByteArray := prog_1_method_19_code
def yX11_undo : MethodName := ⟨RX11, "undo", "(I)I"⟩
abbrev cX11_keep : ByteArray := prog_1_method_20_code
def yX11_keep : MethodName := ⟨RX11, "keep", "(I)I"⟩
abbrev cX11_on : ByteArray := prog_1_method_21_code
def yX11_on : MethodName := ⟨RX11, "on", "(I)I"⟩
abbrev cX11_show : ByteArray := prog_1_method_22_code
def yX11_show : MethodName := ⟨RX11, "show", "(III)I"⟩
abbrev cX11_breaks : ByteArray := prog_1_method_23_code
def yX11_breaks : MethodName := ⟨RX11, "breaks", "(II)I"⟩
abbrev cX11_alike : ByteArray := prog_1_method_24_code
def yX11_alike : MethodName := ⟨RX11, "alike", "(II)I"⟩
abbrev cX11_fit : ByteArray := prog_1_method_25_code
def yX11_fit : MethodName := ⟨RX11, "fit", "(II)I"⟩
abbrev cX11_ways : ByteArray := prog_1_method_26_code
def yX11_ways : MethodName := ⟨RX11, "ways", "(II)I"⟩
abbrev cX11_first : ByteArray := prog_1_method_27_code
def yX11_first : MethodName := ⟨RX11, "first", "(III)I"⟩
abbrev cX11_can : ByteArray := prog_1_method_28_code
def yX11_can : MethodName := ⟨RX11, "can", "(III)I"⟩
abbrev cX11_laws : ByteArray := prog_1_method_29_code
def yX11_laws : MethodName := ⟨RX11, "laws", "(II)I"⟩
abbrev cX11_next : ByteArray := prog_1_method_30_code
def yX11_next : MethodName := ⟨RX11, "next", "(II)I"⟩
abbrev cX11_he : ByteArray := prog_1_method_31_code
def yX11_he : MethodName := ⟨RX11, "he", "(III)I"⟩
abbrev cX11_keeps : ByteArray := prog_1_method_32_code
def yX11_keeps : MethodName := ⟨RX11, "keeps", "(II)I"⟩
abbrev cX11_still : ByteArray := prog_1_method_33_code
def yX11_still : MethodName := ⟨RX11, "still", "(II)I"⟩
abbrev cX11_game : ByteArray := prog_1_method_34_code
def yX11_game : MethodName := ⟨RX11, "game", "(I)I"⟩
abbrev cX11_picks : ByteArray := prog_1_method_35_code
def yX11_picks : MethodName := ⟨RX11, "picks", "(I)I"⟩
abbrev cX11_odds : ByteArray := prog_1_method_36_code
def yX11_odds : MethodName := ⟨RX11, "odds", "(III)I"⟩
abbrev cX11_mid : ByteArray := prog_1_method_37_code
def yX11_mid : MethodName := ⟨RX11, "mid", "(III)I"⟩
abbrev cX11_lots : ByteArray := prog_1_method_38_code
def yX11_lots : MethodName := ⟨RX11, "lots", "(II)I"⟩
abbrev cX11_asked : ByteArray := prog_1_method_39_code
def yX11_asked : MethodName := ⟨RX11, "asked", "()I"⟩
abbrev cX11_upper : ByteArray := prog_1_method_40_code
def yX11_upper : MethodName := ⟨RX11, "upper", "()J"⟩
abbrev cX11_lower : ByteArray := prog_1_method_41_code
def yX11_lower : MethodName := ⟨RX11, "lower", "()J"⟩
abbrev cX11_count : ByteArray := prog_1_method_42_code
def yX11_count : MethodName := ⟨RX11, "count", "(I)I"⟩
abbrev cX11_finding : ByteArray := prog_1_method_43_code
def yX11_finding : MethodName := ⟨RX11, "finding", "()I"⟩
abbrev cX11_findings : ByteArray := prog_1_method_44_code
def yX11_findings : MethodName := ⟨RX11, "findings", "(I)I"⟩
abbrev cX11_digest : ByteArray := prog_1_method_45_code
def yX11_digest : MethodName := ⟨RX11, "digest", "()J"⟩
abbrev cX11_refuse : ByteArray := prog_1_method_46_code
def yX11_refuse : MethodName := ⟨RX11, "refuse", "(I)I"⟩
abbrev cX11_isRow : ByteArray := prog_1_method_47_code
def yX11_isRow : MethodName := ⟨RX11, "isRow", "(I)Z"⟩
abbrev cX11_isText : ByteArray := prog_1_method_48_code
def yX11_isText : MethodName := ⟨RX11, "isText", "(I)Z"⟩
abbrev cX11_isKept : ByteArray := prog_1_method_49_code
def yX11_isKept : MethodName := ⟨RX11, "isKept", "(I)Z"⟩
abbrev cX11_isStep : ByteArray := prog_1_method_50_code
def yX11_isStep : MethodName := ⟨RX11, "isStep", "(I)Z"⟩
abbrev cX11_isGlass : ByteArray := prog_1_method_51_code
def yX11_isGlass : MethodName := ⟨RX11, "isGlass", "(I)Z"⟩
abbrev cX11_findingOfPlace : ByteArray := prog_1_method_52_code
def yX11_findingOfPlace : MethodName := ⟨RX11, "findingOfPlace", "(LLimpMirror$Cells;I)I"⟩
abbrev cX11_findingOfSteps : ByteArray := prog_1_method_53_code
def yX11_findingOfSteps : MethodName := ⟨RX11, "findingOfSteps", "(LLimpMirror$Cells;I)I"⟩
abbrev cX11_findingOfPair : ByteArray := prog_1_method_54_code
def yX11_findingOfPair : MethodName := ⟨RX11, "findingOfPair", "(LLimpMirror$Cells;LLimpMirror$Cells;I)I"⟩
abbrev cX11_newPane : ByteArray := prog_1_method_55_code
def yX11_newPane : MethodName := ⟨RX11, "newPane", "(II)LLimpMirror$Pane;"⟩
abbrev cX11_paneOf : ByteArray := prog_1_method_56_code
def yX11_paneOf : MethodName := ⟨RX11, "paneOf", "(I)LLimpMirror$Pane;"⟩
abbrev cX11_glassFact : ByteArray := prog_1_method_57_code
def yX11_glassFact : MethodName := ⟨RX11, "glassFact", "(II)I"⟩
abbrev cX11_noughtsAtDeeds : ByteArray := prog_1_method_58_code
def yX11_noughtsAtDeeds : MethodName := ⟨RX11, "noughtsAtDeeds", "(LLimpMirror$Pane;)I"⟩
abbrev cX11_doStep : ByteArray := prog_1_method_59_code
def yX11_doStep : MethodName := ⟨RX11, "doStep", "(II)I"⟩
abbrev cX11_glassesOf : ByteArray := prog_1_method_60_code
def yX11_glassesOf : MethodName := ⟨RX11, "glassesOf", "(I)I"⟩
abbrev cX11_keptOnes : ByteArray := prog_1_method_61_code
def yX11_keptOnes : MethodName := ⟨RX11, "keptOnes", "()I"⟩
abbrev cX11_howManyThere : ByteArray := prog_1_method_62_code
def yX11_howManyThere : MethodName := ⟨RX11, "howManyThere", "([LLimpMirror$Cells;)I"⟩
abbrev cX11_digestOf : ByteArray := prog_1_method_63_code
def yX11_digestOf : MethodName := ⟨RX11, "digestOf", "([LLimpMirror$Cells;J)J"⟩
abbrev cX11_findSets : ByteArray := prog_1_method_64_code
def yX11_findSets : MethodName := ⟨RX11, "findSets", "(LLimpMirror$Pane;LLimpMirror$Cells;)Z"⟩
abbrev cX11_leastOf : ByteArray := prog_1_method_65_code
def yX11_leastOf : MethodName := ⟨RX11, "leastOf", "(I)I"⟩
abbrev cX11_firstNotShown : ByteArray := prog_1_method_66_code
def yX11_firstNotShown : MethodName := ⟨RX11, "firstNotShown", "(LLimpMirror$Pane;LLimpMirror$Cells;LLimpMirror$Cells;)I"⟩
abbrev cX11_lawsOf : ByteArray := prog_1_method_67_code
def yX11_lawsOf : MethodName := ⟨RX11, "lawsOf", "(LLimpMirror$Cells;LLimpMirror$Cells;)I"⟩
abbrev cX11_mostThatShowOneThing : ByteArray := prog_1_method_68_code
def yX11_mostThatShowOneThing : MethodName := ⟨RX11, "mostThatShowOneThing", "(II)I"⟩
abbrev cX11_leastPick : ByteArray := prog_1_method_69_code
def yX11_leastPick : MethodName := ⟨RX11, "leastPick", "(II)I"⟩
abbrev cX11_isSafeBeforeAll : ByteArray := prog_1_method_70_code
def yX11_isSafeBeforeAll : MethodName := ⟨RX11, "isSafeBeforeAll", "(I)Z"⟩
abbrev cX11_breakingOfTwelve : ByteArray := prog_1_method_71_code
def yX11_breakingOfTwelve : MethodName := ⟨RX11, "breakingOfTwelve", "(LLimpMirror$Pane;LLimpMirror$Cells;II)I"⟩
abbrev cX11_tell : ByteArray := prog_1_method_72_code
def yX11_tell : MethodName := ⟨RX11, "tell", "(JJ)V"⟩
abbrev cX11_commonDivisor : ByteArray := prog_1_method_73_code
def yX11_commonDivisor : MethodName := ⟨RX11, "commonDivisor", "(JJ)J"⟩
def RX12 : String := "LimpMirrorModel"
def TX12 : u_T := fun k => match k with
  | 0 => ("LimpMirrorModel", "rowSize", "[I", true)
  | 1 => ("LimpMirrorModel", "rowAt", "[I", true)
  | 2 => ("LimpMirrorModel", "textSize", "[I", true)
  | 3 => ("LimpMirrorModel", "textAt", "[I", true)
  | 4 => ("LimpMirrorModel", "readHabit", "[I", true)
  | 5 => ("LimpMirrorModel", "readGlasses", "I", false)
  | 6 => ("LimpMirrorModel", "readGlass", "[I", true)
  | 7 => ("LimpMirrorModel", "readTerms", "I", false)
  | 8 => ("LimpMirrorModel", "readTerm", "[I", true)
  | 9 => ("LimpMirrorModel", "habits", "[I", true)
  | 10 => ("LimpMirrorModel", "glasses", "I", false)
  | 11 => ("LimpMirrorModel", "glassAt", "[I", true)
  | 12 => ("LimpMirrorModel", "terms", "I", false)
  | 13 => ("LimpMirrorModel", "termAt", "[I", true)
  | 14 => ("LimpMirrorModel", "deeds", "I", false)
  | 15 => ("LimpMirrorModel", "did", "[I", true)
  | 16 => ("LimpMirrorModel", "before", "[I", true)
  | 17 => ("LimpMirrorModel", "keptMany", "[I", true)
  | 18 => ("LimpMirrorModel", "keptDid", "[I", true)
  | 19 => ("LimpMirrorModel", "keptBefore", "[I", true)
  | 20 => ("LimpMirrorModel", "asked", "I", false)
  | 21 => ("LimpMirrorModel", "upper", "J", false)
  | 22 => ("LimpMirrorModel", "lower", "J", false)
  | 23 => ("LimpMirrorModel", "found", "I", false)
  | 24 => ("LimpMirrorModel", "times", "[I", true)
  | 25 => ("LimpMirrorModel", "doings", "[I", true)
  | 26 => ("LimpMirrorModel", "other", "[I", true)
  | 27 => ("LimpMirrorModel", "shown", "[I", true)
  | 28 => ("LimpMirrorModel", "position", "I", false)
  | 29 => ("LimpMirrorModel", "from", "I", false)
  | 30 => ("LimpMirrorModel", "size", "I", false)
  | _ => ("LimpMirrorModel", "mix", "J", false)
def tyX12 : Nat → FieldType := fun k => match k with
  | 0 => .array .int
  | 1 => .array .int
  | 2 => .array .int
  | 3 => .array .int
  | 4 => .array .int
  | 5 => .int
  | 6 => .array .int
  | 7 => .int
  | 8 => .array .int
  | 9 => .array .int
  | 10 => .int
  | 11 => .array .int
  | 12 => .int
  | 13 => .array .int
  | 14 => .int
  | 15 => .array .int
  | 16 => .array .int
  | 17 => .array .int
  | 18 => .array .int
  | 19 => .array .int
  | 20 => .int
  | 21 => .long
  | 22 => .long
  | 23 => .int
  | 24 => .array .int
  | 25 => .array .int
  | 26 => .array .int
  | 27 => .array .int
  | 28 => .int
  | 29 => .int
  | 30 => .int
  | _ => .long
theorem nmX12 : ∀ a, a < 32 → ∀ b, b < 32 → a ≠ b → (TX12 a).2.1 ≠ (TX12 b).2.1 := by decide +kernel
theorem tyX12_ok : ∀ k, k < 32 → parseFieldDescriptor (TX12 k).2.2.1 = some (tyX12 k) := by decide +kernel
abbrev cX12_init : ByteArray := prog_14_method_1_code
def yX12_init : MethodName := ⟨RX12, "<init>", "()V"⟩
abbrev cX12_in : ByteArray := prog_14_method_2_code
def yX12_in : MethodName := ⟨RX12, "in", "(III)Z"⟩
abbrev cX12_has : ByteArray := prog_14_method_3_code
def yX12_has : MethodName := ⟨RX12, "has", "(II)Z"⟩
abbrev cX12_finds : ByteArray := prog_14_method_4_code
def yX12_finds : MethodName := ⟨RX12, "finds", "(I)I"⟩
abbrev cX12_tells : ByteArray := prog_14_method_5_code
def yX12_tells : MethodName := ⟨RX12, "tells", "(I)I"⟩
abbrev cX12_tellParts : ByteArray := prog_14_method_6_code
def yX12_tellParts : MethodName := ⟨RX12, "tellParts", "(JJ)V"⟩
abbrev cX12_isRow : ByteArray := prog_14_method_7_code
def yX12_isRow : MethodName := ⟨RX12, "isRow", "(I)Z"⟩
abbrev cX12_isText : ByteArray := prog_14_method_8_code
def yX12_isText : MethodName := ⟨RX12, "isText", "(I)Z"⟩
abbrev cX12_row : ByteArray := prog_14_method_9_code
def yX12_row : MethodName := ⟨RX12, "row", "(II)I"⟩
abbrev cX12_wrongAt : ByteArray := prog_14_method_10_code
def yX12_wrongAt : MethodName := ⟨RX12, "wrongAt", "(II)I"⟩
abbrev cX12_lay : ByteArray := prog_14_method_11_code
def yX12_lay : MethodName := ⟨RX12, "lay", "(III)I"⟩
abbrev cX12_at : ByteArray := prog_14_method_12_code
def yX12_at : MethodName := ⟨RX12, "at", "(II)I"⟩
abbrev cX12_tear : ByteArray := prog_14_method_13_code
def yX12_tear : MethodName := ⟨RX12, "tear", "(I)I"⟩
abbrev cX12_isPart : ByteArray := prog_14_method_14_code
def yX12_isPart : MethodName := ⟨RX12, "isPart", "(III)Z"⟩
abbrev cX12_copy : ByteArray := prog_14_method_15_code
def yX12_copy : MethodName := ⟨RX12, "copy", "(IIIII)I"⟩
abbrev cX12_mean : ByteArray := prog_14_method_16_code
def yX12_mean : MethodName := ⟨RX12, "mean", "(I)I"⟩
abbrev cX12_text : ByteArray := prog_14_method_17_code
def yX12_text : MethodName := ⟨RX12, "text", "(II)I"⟩
abbrev cX12_put : ByteArray := prog_14_method_18_code
def yX12_put : MethodName := ⟨RX12, "put", "(III)I"⟩
abbrev cX12_letter : ByteArray := prog_14_method_19_code
def yX12_letter : MethodName := ⟨RX12, "letter", "()I"⟩
abbrev cX12_skip : ByteArray := prog_14_method_20_code
def yX12_skip : MethodName := ⟨RX12, "skip", "()V"⟩
abbrev cX12_figure : ByteArray := prog_14_method_21_code
def yX12_figure : MethodName := ⟨RX12, "figure", "(I)I"⟩
abbrev cX12_kindBy : ByteArray := prog_14_method_22_code
def yX12_kindBy : MethodName := ⟨RX12, "kindBy", "(I)I"⟩
abbrev cX12_areHabits : ByteArray := prog_14_method_23_code
def yX12_areHabits : MethodName := ⟨RX12, "areHabits", "()Z"⟩
abbrev cX12_isGlassItem : ByteArray := prog_14_method_24_code
def yX12_isGlassItem : MethodName := ⟨RX12, "isGlassItem", "()Z"⟩
abbrev cX12_isTermItem : ByteArray := prog_14_method_25_code
def yX12_isTermItem : MethodName := ⟨RX12, "isTermItem", "()Z"⟩
abbrev cX12_isRoom : ByteArray := prog_14_method_26_code
def yX12_isRoom : MethodName := ⟨RX12, "isRoom", "(I)Z"⟩
abbrev cX12_fault : ByteArray := prog_14_method_27_code
def yX12_fault : MethodName := ⟨RX12, "fault", "(I)I"⟩
abbrev cX12_room : ByteArray := prog_14_method_28_code
def yX12_room : MethodName := ⟨RX12, "room", "(I)I"⟩
abbrev cX12_isGlass : ByteArray := prog_14_method_29_code
def yX12_isGlass : MethodName := ⟨RX12, "isGlass", "(I)Z"⟩
abbrev cX12_isStep : ByteArray := prog_14_method_30_code
def yX12_isStep : MethodName := ⟨RX12, "isStep", "(I)Z"⟩
abbrev cX12_mirrored : ByteArray := prog_14_method_31_code
def yX12_mirrored : MethodName := ⟨RX12, "mirrored", "(I)I"⟩
abbrev cX12_showsBy : ByteArray := prog_14_method_32_code
def yX12_showsBy : MethodName := ⟨RX12, "showsBy", "(II[II)I"⟩
abbrev cX12_showsOf : ByteArray := prog_14_method_33_code
def yX12_showsOf : MethodName := ⟨RX12, "showsOf", "(I[II)I"⟩
abbrev cX12_termBy : ByteArray := prog_14_method_34_code
def yX12_termBy : MethodName := ⟨RX12, "termBy", "(II)I"⟩
abbrev cX12_shownOf : ByteArray := prog_14_method_35_code
def yX12_shownOf : MethodName := ⟨RX12, "shownOf", "(I)I"⟩
abbrev cX12_brokenBy : ByteArray := prog_14_method_36_code
def yX12_brokenBy : MethodName := ⟨RX12, "brokenBy", "(I)I"⟩
abbrev cX12_isOf : ByteArray := prog_14_method_37_code
def yX12_isOf : MethodName := ⟨RX12, "isOf", "(II)Z"⟩
abbrev cX12_glass : ByteArray := prog_14_method_38_code
def yX12_glass : MethodName := ⟨RX12, "glass", "(II)I"⟩
abbrev cX12_mark : ByteArray := prog_14_method_39_code
def yX12_mark : MethodName := ⟨RX12, "mark", "(II)I"⟩
abbrev cX12_habit : ByteArray := prog_14_method_40_code
def yX12_habit : MethodName := ⟨RX12, "habit", "(I)I"⟩
abbrev cX12_term : ByteArray := prog_14_method_41_code
def yX12_term : MethodName := ⟨RX12, "term", "(II)I"⟩
abbrev cX12_doStep : ByteArray := prog_14_method_42_code
def yX12_doStep : MethodName := ⟨RX12, "doStep", "(II)I"⟩
abbrev cX12_step : ByteArray := prog_14_method_43_code
def yX12_step : MethodName := ⟨RX12, "step", "(II)I"⟩
abbrev cX12_deed : ByteArray := prog_14_method_44_code
def yX12_deed : MethodName := ⟨RX12, "deed", "(II)I"⟩
abbrev cX12_brokenMany : ByteArray := prog_14_method_45_code
def yX12_brokenMany : MethodName := ⟨RX12, "brokenMany", "()I"⟩
abbrev cX12_broken : ByteArray := prog_14_method_46_code
def yX12_broken : MethodName := ⟨RX12, "broken", "()I"⟩
abbrev cX12_undo : ByteArray := prog_14_method_47_code
def yX12_undo : MethodName := ⟨RX12, "undo", "(I)I"⟩
abbrev cX12_keep : ByteArray := prog_14_method_48_code
def yX12_keep : MethodName := ⟨RX12, "keep", "(I)I"⟩
abbrev cX12_on : ByteArray := prog_14_method_49_code
def yX12_on : MethodName := ⟨RX12, "on", "(I)I"⟩
abbrev cX12_takeOut : ByteArray := prog_14_method_50_code
def yX12_takeOut : MethodName := ⟨RX12, "takeOut", "(II[I)I"⟩
abbrev cX12_takeTwo : ByteArray := prog_14_method_51_code
def yX12_takeTwo : MethodName := ⟨RX12, "takeTwo", "(II)I"⟩
abbrev cX12_layRow : ByteArray := prog_14_method_52_code
def yX12_layRow : MethodName := ⟨RX12, "layRow", "(II[I)I"⟩
abbrev cX12_show : ByteArray := prog_14_method_53_code
def yX12_show : MethodName := ⟨RX12, "show", "(III)I"⟩
abbrev cX12_breaksAt : ByteArray := prog_14_method_54_code
def yX12_breaksAt : MethodName := ⟨RX12, "breaksAt", "(II)Z"⟩
abbrev cX12_breaks : ByteArray := prog_14_method_55_code
def yX12_breaks : MethodName := ⟨RX12, "breaks", "(II)I"⟩
abbrev cX12_alike : ByteArray := prog_14_method_56_code
def yX12_alike : MethodName := ⟨RX12, "alike", "(II)I"⟩
abbrev cX12_fit : ByteArray := prog_14_method_57_code
def yX12_fit : MethodName := ⟨RX12, "fit", "(II)I"⟩
abbrev cX12_rowsOf : ByteArray := prog_14_method_58_code
def yX12_rowsOf : MethodName := ⟨RX12, "rowsOf", "(I)I"⟩
abbrev cX12_layDoings : ByteArray := prog_14_method_59_code
def yX12_layDoings : MethodName := ⟨RX12, "layDoings", "(II)V"⟩
abbrev cX12_shows : ByteArray := prog_14_method_60_code
def yX12_shows : MethodName := ⟨RX12, "shows", "(II)Z"⟩
abbrev cX12_ways : ByteArray := prog_14_method_61_code
def yX12_ways : MethodName := ⟨RX12, "ways", "(II)I"⟩
abbrev cX12_first : ByteArray := prog_14_method_62_code
def yX12_first : MethodName := ⟨RX12, "first", "(III)I"⟩
abbrev cX12_can : ByteArray := prog_14_method_63_code
def yX12_can : MethodName := ⟨RX12, "can", "(III)I"⟩
abbrev cX12_lawsOf : ByteArray := prog_14_method_64_code
def yX12_lawsOf : MethodName := ⟨RX12, "lawsOf", "(I)I"⟩
abbrev cX12_laws : ByteArray := prog_14_method_65_code
def yX12_laws : MethodName := ⟨RX12, "laws", "(II)I"⟩
abbrev cX12_bits : ByteArray := prog_14_method_66_code
def yX12_bits : MethodName := ⟨RX12, "bits", "(I)I"⟩
abbrev cX12_next : ByteArray := prog_14_method_67_code
def yX12_next : MethodName := ⟨RX12, "next", "(II)I"⟩
abbrev cX12_he : ByteArray := prog_14_method_68_code
def yX12_he : MethodName := ⟨RX12, "he", "(III)I"⟩
abbrev cX12_breaksNone : ByteArray := prog_14_method_69_code
def yX12_breaksNone : MethodName := ⟨RX12, "breaksNone", "(II)Z"⟩
abbrev cX12_keeps : ByteArray := prog_14_method_70_code
def yX12_keeps : MethodName := ⟨RX12, "keeps", "(II)I"⟩
abbrev cX12_still : ByteArray := prog_14_method_71_code
def yX12_still : MethodName := ⟨RX12, "still", "(II)I"⟩
abbrev cX12_isSafe : ByteArray := prog_14_method_72_code
def yX12_isSafe : MethodName := ⟨RX12, "isSafe", "(I)Z"⟩
abbrev cX12_gameBy : ByteArray := prog_14_method_73_code
def yX12_gameBy : MethodName := ⟨RX12, "gameBy", "(I)I"⟩
abbrev cX12_game : ByteArray := prog_14_method_74_code
def yX12_game : MethodName := ⟨RX12, "game", "(I)I"⟩
abbrev cX12_picks : ByteArray := prog_14_method_75_code
def yX12_picks : MethodName := ⟨RX12, "picks", "(I)I"⟩
abbrev cX12_odds : ByteArray := prog_14_method_76_code
def yX12_odds : MethodName := ⟨RX12, "odds", "(III)I"⟩
abbrev cX12_mid : ByteArray := prog_14_method_77_code
def yX12_mid : MethodName := ⟨RX12, "mid", "(III)I"⟩
abbrev cX12_lots : ByteArray := prog_14_method_78_code
def yX12_lots : MethodName := ⟨RX12, "lots", "(II)I"⟩
abbrev cX12_asked : ByteArray := prog_14_method_79_code
def yX12_asked : MethodName := ⟨RX12, "asked", "()I"⟩
abbrev cX12_upper : ByteArray := prog_14_method_80_code
def yX12_upper : MethodName := ⟨RX12, "upper", "()J"⟩
abbrev cX12_lower : ByteArray := prog_14_method_81_code
def yX12_lower : MethodName := ⟨RX12, "lower", "()J"⟩
abbrev cX12_kindsOf : ByteArray := prog_14_method_82_code
def yX12_kindsOf : MethodName := ⟨RX12, "kindsOf", "(I)I"⟩
abbrev cX12_thereOf : ByteArray := prog_14_method_83_code
def yX12_thereOf : MethodName := ⟨RX12, "thereOf", "([II)I"⟩
abbrev cX12_countOf : ByteArray := prog_14_method_84_code
def yX12_countOf : MethodName := ⟨RX12, "countOf", "(I)I"⟩
abbrev cX12_count : ByteArray := prog_14_method_85_code
def yX12_count : MethodName := ⟨RX12, "count", "(I)I"⟩
abbrev cX12_finding : ByteArray := prog_14_method_86_code
def yX12_finding : MethodName := ⟨RX12, "finding", "()I"⟩
abbrev cX12_findings : ByteArray := prog_14_method_87_code
def yX12_findings : MethodName := ⟨RX12, "findings", "(I)I"⟩
abbrev cX12_add : ByteArray := prog_14_method_88_code
def yX12_add : MethodName := ⟨RX12, "add", "(I)V"⟩
abbrev cX12_digest : ByteArray := prog_14_method_89_code
def yX12_digest : MethodName := ⟨RX12, "digest", "()J"⟩
def RJ6 : String := "java/lang/Integer"
abbrev cJ6_bitCount_0f7a4 : ByteArray := prog_15_method_49_code
def yJ6_bitCount_0f7a4 : MethodName := ⟨RJ6, "bitCount", "(I)I"⟩
def RJ9 : String := "java/lang/Math"
def RJ10 : String := "java/lang/System"
def RL : String := "LimpMirrorLaw"
abbrev cL_law : ByteArray := code
def yL_law : MethodName := ⟨RL, "law", "([I)Z"⟩
abbrev vwCl : List vw_C := [(RX0, TX0, 2), (RX1, TX1, 5), (RX2, TX2, 2), (RX4, TX4, 2), (RX5, TX5, 2), (RX6, TX6, 2), (RX7, TX7, 2), (RX8, TX8, 5), (RX9, TX9, 2), (RX10, TX10, 2), (RX11, TX11, 16), (RX12, TX12, 32)]
